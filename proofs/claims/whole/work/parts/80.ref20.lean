/-! ===== the reference: run ===== -/
/-- all is in order before a fire -/
def runI (M : mM) (n s w g m : Nat) : Prop := refI M n s w g ∧ preI M w g m ∧ (∀ c, c < 120 → ∃ k, k < 10000 ∧ M 33 c = nI k) ∧ (∀ a, 1 ≤ a → a ≤ n → M 47 a = 2 → ∃ v, v < 100000 ∧ M 50 a = nI v) ∧ ∀ c, c < 120 → vp_nar .boolean (M 34 c) = M 34 c
def frF (n s w g m c0 T : Nat) (z : qS) : qS := (goF n s w g m c0 T z, (goZ n s w g z).2)
theorem fr_loss {n s w g m c0 T : Nat} {z : qS} (R : runI z.1 n s w g m) (hT : T ≤ 120) {c : Nat} (hc : c < 120) : ∃ l, l ≤ 80000 ∧ mloV (goF n s w g m c0 T z) c = nI l := by
  obtain ⟨b, hb, eb⟩ := go_56 (n := n) (s := s) (w := w) (g := g) (m := m) (c0 := c0) (T := T) (z := z) hc
  exact mlo_b (by rw [go_row (by decide) (by decide)]; exact R.2.1.1 c hc) (by rw [go_row (by decide) (by decide)]; exact R.2.2.1 c hc) ⟨b, by omega, eb⟩
theorem nn_ix {x : Int32} (h : 0 ≤ x) : ∃ y, y < 2147483648 ∧ x = nI y := by
  have h9 : ¬ x < 0 := fun q => by rw [fa_le, ti_0] at h; rw [fa_lt, ti_0] at q; omega
  exact nI_of h9
theorem nn_nI {y : Nat} (h : y < 2147483648) : 0 ≤ nI y := nI_pos' (by omega)
theorem cl_row {n s w g : Nat} {z : qS} {r : Nat} (h0 : r ≠ 0) (h3 : r ≠ 63) (h4 : r ≠ 64) (h5 : r ≠ 65) (h6 : r ≠ 66) : goM (clZ n s w g z) r = z.1 r := (up2_row h0).trans (clm_row h0 h3 h4 h5 h6 201)
theorem cl_0 {n s w g : Nat} {z : qS} {k : Nat} (h : k < 70 ∨ 74 < k) : goM (clZ n s w g z) 0 k = z.1 0 k := (up2_k (clZ n s w g z).1 _ (by omega)).trans (clm_0 (by omega) (by omega) (by omega) (by omega) 201)
theorem cl_63 {n s w g : Nat} {z : qS} (I : refI z.1 n s w g) (hs : ∀ a, 1 ≤ a → a ≤ n → z.1 47 a = 2 → ∃ v, v < 100000 ∧ z.1 50 a = nI v) {k : Nat} (hk : k ≤ n) : ∃ v, v < 100000 ∧ goM (clZ n s w g z) 63 k = nI v := by
  have hn2 := I.1.2.1
  have e : goM (clZ n s w g z) 63 k = (clZ n s w g z).1 63 k := congrFun (up2_row (by decide)) k
  rw [e]
  exact clm_63 I hs (by omega) 201 (by omega)
theorem fr_hi0 {n s w g : Nat} {z : qS} (I : refI z.1 n s w g) (hs : ∀ a, 1 ≤ a → a ≤ n → z.1 47 a = 2 → ∃ v, v < 100000 ∧ z.1 50 a = nI v) (c left : Int32) (Z : mM) (hZ : ∀ r, r ≠ 64 → Z r = goM (clZ n s w g z) r) (hl : 0 ≤ left) : 0 ≤ (inrS n c 0 left Z).2 := by
  obtain ⟨x, hx, rfl⟩ := nn_ix hl
  obtain ⟨y, hy, e⟩ := inr_b (c := c) (how := 0) (n := n) (x := x) (Z := Z) hx (fun k hk => by rw [hZ 63 (by decide)]; exact cl_63 I hs hk) n (Nat.le_refl _)
  rw [show (inrS n c 0 (nI x) Z).2 = nI y from e]
  exact nn_nI (by omega)
theorem clF_row {n s w g : Nat} {z : qS} {N : mN} {r : Nat} (h0 : r ≠ 0) (h3 : r ≠ 63) (h4 : r ≠ 64) (h5 : r ≠ 65) (h6 : r ≠ 66) : (clF n s w g z N).1 r = z.1 r := (cls_row h4 (w * g)).trans (cl_row h0 h3 h4 h5 h6)
theorem clF_0 {n s w g : Nat} {z : qS} {N : mN} {k : Nat} (h : k < 70 ∨ 74 < k) : (clF n s w g z N).1 0 k = z.1 0 k := (congrFun (cls_row (by decide) (w * g)) k).trans (cl_0 h)
theorem clF_70 {n s w g : Nat} {z : qS} {N : mN} : (clF n s w g z N).1 0 70 = nI (clZ n s w g z).2.1 := (congrFun (cls_row (by decide) (w * g)) 70).trans (up2_s (clZ n s w g z).1 0 70 _)
theorem poQ_c {M Z : mM} {n s : Nat} {k : Int32} (h7 : Z 47 = M 47) (h1 : Z 51 = M 51) : decide (poQ Z n s k) = decide (poQ M n s k) := by
  refine decide_eq_decide.mpr ?_
  unfold poQ poP knP
  rw [h7, h1]
theorem clm_66 {n s w g : Nat} {M : mM} {W : tW} {k : Nat} : ∀ j, k < j → (itN (clmB n s w g) (M, W) j).1 66 k = bI (decide (poQ M n s (nI k)))
  | 0, h => absurd h (Nat.not_lt_zero k)
  | j + 1, h => by
    show (clmB n s w g (itN (clmB n s w g) (M, W) j) j).1 66 k = _
    have ih := clm_66 (n := n) (s := s) (w := w) (g := g) (M := M) (W := W) (k := k) j
    have r47 := clm_row (n := n) (s := s) (w := w) (g := g) (z := (M, W)) (r := 47) (by decide) (by decide) (by decide) (by decide) (by decide) j
    have r51 := clm_row (n := n) (s := s) (w := w) (g := g) (z := (M, W)) (r := 51) (by decide) (by decide) (by decide) (by decide) (by decide) j
    generalize itN (clmB n s w g) (M, W) j = y at ih r47 r51 ⊢
    have ep : decide (poQ y.1 n s (nI j)) = decide (poQ M n s (nI j)) := poQ_c r47 r51
    have e1 : (clmB n s w g y j).1 66 = up2 y.1 66 j (bI (decide (poQ y.1 n s (nI j)))) 66 := by
      unfold clmB
      split
      · dsimp only
        rw [up2_row (show 66 ≠ 63 by decide), up2_row (show 66 ≠ 64 by decide)]
      · dsimp only
        rw [up2_row (show 66 ≠ 65 by decide), up2_row (show 66 ≠ 63 by decide), mas_row (by decide), up2_row (show 66 ≠ 63 by decide), up2_row (show 66 ≠ 64 by decide)]
    rw [e1]
    by_cases q : k = j
    · subst q
      rw [up2_s, ep]
    · rw [up2_k _ _ q]
      exact ih (by omega)
theorem clF_66 {n s w g : Nat} {z : qS} {N : mN} {k : Nat} (hk : k ≤ 200) : (clF n s w g z N).1 66 k = bI (decide (poQ z.1 n s (nI k))) := by
  refine (congrFun (cls_row (by decide) (w * g)) k).trans ?_
  show goM (clZ n s w g z) 66 k = _
  unfold goM
  rw [up2_row (show 66 ≠ 0 by decide)]
  exact clm_66 (M := z.1) (W := z.2) 201 (by omega)
def rncB (z : mM × Int32) (jz : Nat) : mM × Int32 := (if ((up2 (up2 (up2 (up2 (up2 (up2 (up2 z.1 68 jz (z.1 34 jz)) 69 jz ((up2 z.1 68 jz (z.1 34 jz)) 53 jz)) 70 jz ((up2 (up2 z.1 68 jz (z.1 34 jz)) 69 jz ((up2 z.1 68 jz (z.1 34 jz)) 53 jz)) 54 jz)) 71 jz ((up2 (up2 (up2 z.1 68 jz (z.1 34 jz)) 69 jz ((up2 z.1 68 jz (z.1 34 jz)) 53 jz)) 70 jz ((up2 (up2 z.1 68 jz (z.1 34 jz)) 69 jz ((up2 z.1 68 jz (z.1 34 jz)) 53 jz)) 54 jz)) 55 jz)) 72 jz ((up2 (up2 (up2 (up2 z.1 68 jz (z.1 34 jz)) 69 jz ((up2 z.1 68 jz (z.1 34 jz)) 53 jz)) 70 jz ((up2 (up2 z.1 68 jz (z.1 34 jz)) 69 jz ((up2 z.1 68 jz (z.1 34 jz)) 53 jz)) 54 jz)) 71 jz ((up2 (up2 (up2 z.1 68 jz (z.1 34 jz)) 69 jz ((up2 z.1 68 jz (z.1 34 jz)) 53 jz)) 70 jz ((up2 (up2 z.1 68 jz (z.1 34 jz)) 69 jz ((up2 z.1 68 jz (z.1 34 jz)) 53 jz)) 54 jz)) 55 jz)) 56 jz)) 73 jz (mloV (up2 (up2 (up2 (up2 (up2 z.1 68 jz (z.1 34 jz)) 69 jz ((up2 z.1 68 jz (z.1 34 jz)) 53 jz)) 70 jz ((up2 (up2 z.1 68 jz (z.1 34 jz)) 69 jz ((up2 z.1 68 jz (z.1 34 jz)) 53 jz)) 54 jz)) 71 jz ((up2 (up2 (up2 z.1 68 jz (z.1 34 jz)) 69 jz ((up2 z.1 68 jz (z.1 34 jz)) 53 jz)) 70 jz ((up2 (up2 z.1 68 jz (z.1 34 jz)) 69 jz ((up2 z.1 68 jz (z.1 34 jz)) 53 jz)) 54 jz)) 55 jz)) 72 jz ((up2 (up2 (up2 (up2 z.1 68 jz (z.1 34 jz)) 69 jz ((up2 z.1 68 jz (z.1 34 jz)) 53 jz)) 70 jz ((up2 (up2 z.1 68 jz (z.1 34 jz)) 69 jz ((up2 z.1 68 jz (z.1 34 jz)) 53 jz)) 54 jz)) 71 jz ((up2 (up2 (up2 z.1 68 jz (z.1 34 jz)) 69 jz ((up2 z.1 68 jz (z.1 34 jz)) 53 jz)) 70 jz ((up2 (up2 z.1 68 jz (z.1 34 jz)) 69 jz ((up2 z.1 68 jz (z.1 34 jz)) 53 jz)) 54 jz)) 55 jz)) 56 jz)) jz)) 74 jz ((up2 (up2 (up2 (up2 (up2 (up2 z.1 68 jz (z.1 34 jz)) 69 jz ((up2 z.1 68 jz (z.1 34 jz)) 53 jz)) 70 jz ((up2 (up2 z.1 68 jz (z.1 34 jz)) 69 jz ((up2 z.1 68 jz (z.1 34 jz)) 53 jz)) 54 jz)) 71 jz ((up2 (up2 (up2 z.1 68 jz (z.1 34 jz)) 69 jz ((up2 z.1 68 jz (z.1 34 jz)) 53 jz)) 70 jz ((up2 (up2 z.1 68 jz (z.1 34 jz)) 69 jz ((up2 z.1 68 jz (z.1 34 jz)) 53 jz)) 54 jz)) 55 jz)) 72 jz ((up2 (up2 (up2 (up2 z.1 68 jz (z.1 34 jz)) 69 jz ((up2 z.1 68 jz (z.1 34 jz)) 53 jz)) 70 jz ((up2 (up2 z.1 68 jz (z.1 34 jz)) 69 jz ((up2 z.1 68 jz (z.1 34 jz)) 53 jz)) 54 jz)) 71 jz ((up2 (up2 (up2 z.1 68 jz (z.1 34 jz)) 69 jz ((up2 z.1 68 jz (z.1 34 jz)) 53 jz)) 70 jz ((up2 (up2 z.1 68 jz (z.1 34 jz)) 69 jz ((up2 z.1 68 jz (z.1 34 jz)) 53 jz)) 54 jz)) 55 jz)) 56 jz)) 73 jz (mloV (up2 (up2 (up2 (up2 (up2 z.1 68 jz (z.1 34 jz)) 69 jz ((up2 z.1 68 jz (z.1 34 jz)) 53 jz)) 70 jz ((up2 (up2 z.1 68 jz (z.1 34 jz)) 69 jz ((up2 z.1 68 jz (z.1 34 jz)) 53 jz)) 54 jz)) 71 jz ((up2 (up2 (up2 z.1 68 jz (z.1 34 jz)) 69 jz ((up2 z.1 68 jz (z.1 34 jz)) 53 jz)) 70 jz ((up2 (up2 z.1 68 jz (z.1 34 jz)) 69 jz ((up2 z.1 68 jz (z.1 34 jz)) 53 jz)) 54 jz)) 55 jz)) 72 jz ((up2 (up2 (up2 (up2 z.1 68 jz (z.1 34 jz)) 69 jz ((up2 z.1 68 jz (z.1 34 jz)) 53 jz)) 70 jz ((up2 (up2 z.1 68 jz (z.1 34 jz)) 69 jz ((up2 z.1 68 jz (z.1 34 jz)) 53 jz)) 54 jz)) 71 jz ((up2 (up2 (up2 z.1 68 jz (z.1 34 jz)) 69 jz ((up2 z.1 68 jz (z.1 34 jz)) 53 jz)) 70 jz ((up2 (up2 z.1 68 jz (z.1 34 jz)) 69 jz ((up2 z.1 68 jz (z.1 34 jz)) 53 jz)) 54 jz)) 55 jz)) 56 jz)) jz)) 57 jz)) 53 jz) = 0 then ((up2 (up2 (up2 (up2 (up2 (up2 (up2 z.1 68 jz (z.1 34 jz)) 69 jz ((up2 z.1 68 jz (z.1 34 jz)) 53 jz)) 70 jz ((up2 (up2 z.1 68 jz (z.1 34 jz)) 69 jz ((up2 z.1 68 jz (z.1 34 jz)) 53 jz)) 54 jz)) 71 jz ((up2 (up2 (up2 z.1 68 jz (z.1 34 jz)) 69 jz ((up2 z.1 68 jz (z.1 34 jz)) 53 jz)) 70 jz ((up2 (up2 z.1 68 jz (z.1 34 jz)) 69 jz ((up2 z.1 68 jz (z.1 34 jz)) 53 jz)) 54 jz)) 55 jz)) 72 jz ((up2 (up2 (up2 (up2 z.1 68 jz (z.1 34 jz)) 69 jz ((up2 z.1 68 jz (z.1 34 jz)) 53 jz)) 70 jz ((up2 (up2 z.1 68 jz (z.1 34 jz)) 69 jz ((up2 z.1 68 jz (z.1 34 jz)) 53 jz)) 54 jz)) 71 jz ((up2 (up2 (up2 z.1 68 jz (z.1 34 jz)) 69 jz ((up2 z.1 68 jz (z.1 34 jz)) 53 jz)) 70 jz ((up2 (up2 z.1 68 jz (z.1 34 jz)) 69 jz ((up2 z.1 68 jz (z.1 34 jz)) 53 jz)) 54 jz)) 55 jz)) 56 jz)) 73 jz (mloV (up2 (up2 (up2 (up2 (up2 z.1 68 jz (z.1 34 jz)) 69 jz ((up2 z.1 68 jz (z.1 34 jz)) 53 jz)) 70 jz ((up2 (up2 z.1 68 jz (z.1 34 jz)) 69 jz ((up2 z.1 68 jz (z.1 34 jz)) 53 jz)) 54 jz)) 71 jz ((up2 (up2 (up2 z.1 68 jz (z.1 34 jz)) 69 jz ((up2 z.1 68 jz (z.1 34 jz)) 53 jz)) 70 jz ((up2 (up2 z.1 68 jz (z.1 34 jz)) 69 jz ((up2 z.1 68 jz (z.1 34 jz)) 53 jz)) 54 jz)) 55 jz)) 72 jz ((up2 (up2 (up2 (up2 z.1 68 jz (z.1 34 jz)) 69 jz ((up2 z.1 68 jz (z.1 34 jz)) 53 jz)) 70 jz ((up2 (up2 z.1 68 jz (z.1 34 jz)) 69 jz ((up2 z.1 68 jz (z.1 34 jz)) 53 jz)) 54 jz)) 71 jz ((up2 (up2 (up2 z.1 68 jz (z.1 34 jz)) 69 jz ((up2 z.1 68 jz (z.1 34 jz)) 53 jz)) 70 jz ((up2 (up2 z.1 68 jz (z.1 34 jz)) 69 jz ((up2 z.1 68 jz (z.1 34 jz)) 53 jz)) 54 jz)) 55 jz)) 56 jz)) jz)) 74 jz ((up2 (up2 (up2 (up2 (up2 (up2 z.1 68 jz (z.1 34 jz)) 69 jz ((up2 z.1 68 jz (z.1 34 jz)) 53 jz)) 70 jz ((up2 (up2 z.1 68 jz (z.1 34 jz)) 69 jz ((up2 z.1 68 jz (z.1 34 jz)) 53 jz)) 54 jz)) 71 jz ((up2 (up2 (up2 z.1 68 jz (z.1 34 jz)) 69 jz ((up2 z.1 68 jz (z.1 34 jz)) 53 jz)) 70 jz ((up2 (up2 z.1 68 jz (z.1 34 jz)) 69 jz ((up2 z.1 68 jz (z.1 34 jz)) 53 jz)) 54 jz)) 55 jz)) 72 jz ((up2 (up2 (up2 (up2 z.1 68 jz (z.1 34 jz)) 69 jz ((up2 z.1 68 jz (z.1 34 jz)) 53 jz)) 70 jz ((up2 (up2 z.1 68 jz (z.1 34 jz)) 69 jz ((up2 z.1 68 jz (z.1 34 jz)) 53 jz)) 54 jz)) 71 jz ((up2 (up2 (up2 z.1 68 jz (z.1 34 jz)) 69 jz ((up2 z.1 68 jz (z.1 34 jz)) 53 jz)) 70 jz ((up2 (up2 z.1 68 jz (z.1 34 jz)) 69 jz ((up2 z.1 68 jz (z.1 34 jz)) 53 jz)) 54 jz)) 55 jz)) 56 jz)) 73 jz (mloV (up2 (up2 (up2 (up2 (up2 z.1 68 jz (z.1 34 jz)) 69 jz ((up2 z.1 68 jz (z.1 34 jz)) 53 jz)) 70 jz ((up2 (up2 z.1 68 jz (z.1 34 jz)) 69 jz ((up2 z.1 68 jz (z.1 34 jz)) 53 jz)) 54 jz)) 71 jz ((up2 (up2 (up2 z.1 68 jz (z.1 34 jz)) 69 jz ((up2 z.1 68 jz (z.1 34 jz)) 53 jz)) 70 jz ((up2 (up2 z.1 68 jz (z.1 34 jz)) 69 jz ((up2 z.1 68 jz (z.1 34 jz)) 53 jz)) 54 jz)) 55 jz)) 72 jz ((up2 (up2 (up2 (up2 z.1 68 jz (z.1 34 jz)) 69 jz ((up2 z.1 68 jz (z.1 34 jz)) 53 jz)) 70 jz ((up2 (up2 z.1 68 jz (z.1 34 jz)) 69 jz ((up2 z.1 68 jz (z.1 34 jz)) 53 jz)) 54 jz)) 71 jz ((up2 (up2 (up2 z.1 68 jz (z.1 34 jz)) 69 jz ((up2 z.1 68 jz (z.1 34 jz)) 53 jz)) 70 jz ((up2 (up2 z.1 68 jz (z.1 34 jz)) 69 jz ((up2 z.1 68 jz (z.1 34 jz)) 53 jz)) 54 jz)) 55 jz)) 56 jz)) jz)) 57 jz)), z.2) else ((up2 (up2 (up2 (up2 (up2 (up2 (up2 z.1 68 jz (z.1 34 jz)) 69 jz ((up2 z.1 68 jz (z.1 34 jz)) 53 jz)) 70 jz ((up2 (up2 z.1 68 jz (z.1 34 jz)) 69 jz ((up2 z.1 68 jz (z.1 34 jz)) 53 jz)) 54 jz)) 71 jz ((up2 (up2 (up2 z.1 68 jz (z.1 34 jz)) 69 jz ((up2 z.1 68 jz (z.1 34 jz)) 53 jz)) 70 jz ((up2 (up2 z.1 68 jz (z.1 34 jz)) 69 jz ((up2 z.1 68 jz (z.1 34 jz)) 53 jz)) 54 jz)) 55 jz)) 72 jz ((up2 (up2 (up2 (up2 z.1 68 jz (z.1 34 jz)) 69 jz ((up2 z.1 68 jz (z.1 34 jz)) 53 jz)) 70 jz ((up2 (up2 z.1 68 jz (z.1 34 jz)) 69 jz ((up2 z.1 68 jz (z.1 34 jz)) 53 jz)) 54 jz)) 71 jz ((up2 (up2 (up2 z.1 68 jz (z.1 34 jz)) 69 jz ((up2 z.1 68 jz (z.1 34 jz)) 53 jz)) 70 jz ((up2 (up2 z.1 68 jz (z.1 34 jz)) 69 jz ((up2 z.1 68 jz (z.1 34 jz)) 53 jz)) 54 jz)) 55 jz)) 56 jz)) 73 jz (mloV (up2 (up2 (up2 (up2 (up2 z.1 68 jz (z.1 34 jz)) 69 jz ((up2 z.1 68 jz (z.1 34 jz)) 53 jz)) 70 jz ((up2 (up2 z.1 68 jz (z.1 34 jz)) 69 jz ((up2 z.1 68 jz (z.1 34 jz)) 53 jz)) 54 jz)) 71 jz ((up2 (up2 (up2 z.1 68 jz (z.1 34 jz)) 69 jz ((up2 z.1 68 jz (z.1 34 jz)) 53 jz)) 70 jz ((up2 (up2 z.1 68 jz (z.1 34 jz)) 69 jz ((up2 z.1 68 jz (z.1 34 jz)) 53 jz)) 54 jz)) 55 jz)) 72 jz ((up2 (up2 (up2 (up2 z.1 68 jz (z.1 34 jz)) 69 jz ((up2 z.1 68 jz (z.1 34 jz)) 53 jz)) 70 jz ((up2 (up2 z.1 68 jz (z.1 34 jz)) 69 jz ((up2 z.1 68 jz (z.1 34 jz)) 53 jz)) 54 jz)) 71 jz ((up2 (up2 (up2 z.1 68 jz (z.1 34 jz)) 69 jz ((up2 z.1 68 jz (z.1 34 jz)) 53 jz)) 70 jz ((up2 (up2 z.1 68 jz (z.1 34 jz)) 69 jz ((up2 z.1 68 jz (z.1 34 jz)) 53 jz)) 54 jz)) 55 jz)) 56 jz)) jz)) 74 jz ((up2 (up2 (up2 (up2 (up2 (up2 z.1 68 jz (z.1 34 jz)) 69 jz ((up2 z.1 68 jz (z.1 34 jz)) 53 jz)) 70 jz ((up2 (up2 z.1 68 jz (z.1 34 jz)) 69 jz ((up2 z.1 68 jz (z.1 34 jz)) 53 jz)) 54 jz)) 71 jz ((up2 (up2 (up2 z.1 68 jz (z.1 34 jz)) 69 jz ((up2 z.1 68 jz (z.1 34 jz)) 53 jz)) 70 jz ((up2 (up2 z.1 68 jz (z.1 34 jz)) 69 jz ((up2 z.1 68 jz (z.1 34 jz)) 53 jz)) 54 jz)) 55 jz)) 72 jz ((up2 (up2 (up2 (up2 z.1 68 jz (z.1 34 jz)) 69 jz ((up2 z.1 68 jz (z.1 34 jz)) 53 jz)) 70 jz ((up2 (up2 z.1 68 jz (z.1 34 jz)) 69 jz ((up2 z.1 68 jz (z.1 34 jz)) 53 jz)) 54 jz)) 71 jz ((up2 (up2 (up2 z.1 68 jz (z.1 34 jz)) 69 jz ((up2 z.1 68 jz (z.1 34 jz)) 53 jz)) 70 jz ((up2 (up2 z.1 68 jz (z.1 34 jz)) 69 jz ((up2 z.1 68 jz (z.1 34 jz)) 53 jz)) 54 jz)) 55 jz)) 56 jz)) 73 jz (mloV (up2 (up2 (up2 (up2 (up2 z.1 68 jz (z.1 34 jz)) 69 jz ((up2 z.1 68 jz (z.1 34 jz)) 53 jz)) 70 jz ((up2 (up2 z.1 68 jz (z.1 34 jz)) 69 jz ((up2 z.1 68 jz (z.1 34 jz)) 53 jz)) 54 jz)) 71 jz ((up2 (up2 (up2 z.1 68 jz (z.1 34 jz)) 69 jz ((up2 z.1 68 jz (z.1 34 jz)) 53 jz)) 70 jz ((up2 (up2 z.1 68 jz (z.1 34 jz)) 69 jz ((up2 z.1 68 jz (z.1 34 jz)) 53 jz)) 54 jz)) 55 jz)) 72 jz ((up2 (up2 (up2 (up2 z.1 68 jz (z.1 34 jz)) 69 jz ((up2 z.1 68 jz (z.1 34 jz)) 53 jz)) 70 jz ((up2 (up2 z.1 68 jz (z.1 34 jz)) 69 jz ((up2 z.1 68 jz (z.1 34 jz)) 53 jz)) 54 jz)) 71 jz ((up2 (up2 (up2 z.1 68 jz (z.1 34 jz)) 69 jz ((up2 z.1 68 jz (z.1 34 jz)) 53 jz)) 70 jz ((up2 (up2 z.1 68 jz (z.1 34 jz)) 69 jz ((up2 z.1 68 jz (z.1 34 jz)) 53 jz)) 54 jz)) 55 jz)) 56 jz)) jz)) 57 jz)), (z.2 + 1)))
theorem rnc_row {z : mM × Int32} {r : Nat} (h : r < 68 ∨ 74 < r) : ∀ j, (itN rncB z j).1 r = z.1 r
  | 0 => rfl
  | j + 1 => by
    refine Eq.trans ?_ (rnc_row h j)
    show (rncB (itN rncB z j) j).1 r = _
    generalize itN rncB z j = y
    unfold rncB
    split
    all_goals
      dsimp only
      rw [up2_row (show r ≠ 74 by omega), up2_row (show r ≠ 73 by omega), up2_row (show r ≠ 72 by omega), up2_row (show r ≠ 71 by omega), up2_row (show r ≠ 70 by omega), up2_row (show r ≠ 69 by omega), up2_row (show r ≠ 68 by omega)]
theorem l_rnc (E : gE) {d : Nat} (hd : 4 ≤ d) {w g : Nat} (c u : Int32) (h : hp_T) (hG : gr h) (M : mM) (N : mN) (C : mcty M w g) (hwl : ∀ c, c < 120 → ∃ k, k < 4 ∧ M 31 c = nI k) (hbo : ∀ c, c < 120 → vp_nar .boolean (M 34 c) = M 34 c) {v : Option Value} {hz : hp_T} (K : gf E mX12_run d 183 [(0, .ref (E.1 + 247)), (1, .int c), (2, .int u), (3, .int ((itN (rncB) (M, 0) (w * g)).2)), (4, .int (nI (w * g)))] [] (hm h ((itN (rncB) (M, 0) (w * g)).1) N) v hz) : ∀ (kz jz : Nat), jz + kz = (w * g) → gf E mX12_run d 58 [(0, .ref (E.1 + 247)), (1, .int c), (2, .int u), (3, .int ((itN (rncB) (M, 0) jz).2)), (4, .int (nI jz))] [] (hm h ((itN (rncB) (M, 0) jz).1) N) v hz := by
  have hn : w * g ≤ 120 := Nat.le_trans (Nat.mul_le_mul C.1.2.1 C.1.2.2.2) (by decide)
  intro kz
  induction kz with
  | zero =>
    intro jz hj
    have hj : (w * g) = jz := by omega
    subst hj
    have Iz : ∀ r : Nat, r < 68 ∨ 74 < r → (itN (rncB) (M, 0) (w * g)).1 r = M r := (fun (r : Nat) hr => rnc_row (z := (M, 0)) hr (w * g))
    generalize ez : (itN (rncB) (M, 0) (w * g)) = z at K Iz ⊢
    refine gf_iload dX12_run_58 rfl ?_
    refine gf_aload_n 0 dX12_run_60 rfl rfl ?_
    refine gf_callV cmX12_cells lkX12_409 imX12_cells seX12_cells ⟨rfl, by decide⟩ dX12_run_61 (d1 := d - 1) (by omega) (gt_247 hG) (e_X12_cells E (by omega) (hm h z.1 N) hG) rfl rfl (Nat.le_of_ble_eq_true rfl) ?_
    rw [show hp_i (hm h z.1 N) 247 42 * hp_i (hm h z.1 N) 247 43 = nI (w * g) from cel_e (M := z.1) (by unfold mcty; rw [Iz 0 (by decide)]; exact C)]
    refine gf_icmp_ge 183 dX12_run_64 rfl (fun _ => ?_) (fun q => absurd (nI_le (by omega) (by omega)) q)
    exact gf_lw K ⟨rfl, rfl, rfl, rfl, rfl, trivial⟩
  | succ kz ih =>
    intro jz hj
    have ih1 := ih (jz + 1) (by omega)
    have Iz : ∀ r : Nat, r < 68 ∨ 74 < r → (itN (rncB) (M, 0) jz).1 r = M r := (fun (r : Nat) hr => rnc_row (z := (M, 0)) hr jz)
    rw [show (itN (rncB) (M, 0) (jz + 1)) = rncB (itN (rncB) (M, 0) jz) jz from itN_s _ _ _] at ih1
    generalize (itN (rncB) (M, 0) jz) = z at ih1 Iz ⊢
    have Cz : mcty z.1 w g := by unfold mcty; rw [Iz 0 (by decide)]; exact C
    have hwz : ∀ c, c < 120 → ∃ k, k < 4 ∧ z.1 31 c = nI k := by rw [Iz 31 (by decide)]; exact hwl
    refine gf_iload dX12_run_58 rfl ?_
    refine gf_aload_n 0 dX12_run_60 rfl rfl ?_
    refine gf_callV cmX12_cells lkX12_409 imX12_cells seX12_cells ⟨rfl, by decide⟩ dX12_run_61 (d1 := d - 1) (by omega) (gt_247 hG) (e_X12_cells E (by omega) (hm h z.1 N) hG) rfl rfl (Nat.le_of_ble_eq_true rfl) ?_
    rw [show hp_i (hm h z.1 N) 247 42 * hp_i (hm h z.1 N) 247 43 = nI (w * g) from cel_e (M := z.1) (by unfold mcty; rw [Iz 0 (by decide)]; exact C)]
    refine gf_icmp_ge 183 dX12_run_64 rfl (fun q => absurd q (nI_ge (by omega) (by omega))) (fun _ => ?_)
    refine gf_aload_n 0 dX12_run_67 rfl rfl ?_
    refine gf_getR flX12_228 rfl dX12_run_68 (gt_247 hG) (gp_247_93 hG) ?_
    refine gf_iload dX12_run_71 rfl ?_
    refine gf_aload_n 0 dX12_run_73 rfl rfl ?_
    refine gf_getR flX12_121 rfl dX12_run_74 (gt_247 hG) (gp_247_47 hG) ?_
    refine gf_iload dX12_run_77 rfl ?_
    refine gf_zald 120 dX12_run_79 (gt_281 hG) (gl_281 hG) rfl (by omega) (by decide) ?_
    refine gf_zast 120 dX12_run_80 (gt_315 hG) (gl_315 hG) rfl (by omega) (by decide) (by show vp_nar .boolean (z.1 34 jz) = z.1 34 jz; rw [Iz 34 (by decide)]; exact hbo jz (by omega)) ?_
    rw [mI_68]
    refine gf_aload_n 0 dX12_run_81 rfl rfl ?_
    refine gf_getR flX12_231 rfl dX12_run_82 (gt_247 hG) (gp_247_94 hG) ?_
    refine gf_iload dX12_run_85 rfl ?_
    refine gf_aload_n 0 dX12_run_87 rfl rfl ?_
    refine gf_getR flX12_183 rfl dX12_run_88 (gt_247 hG) (gp_247_75 hG) ?_
    refine gf_iload dX12_run_91 rfl ?_
    refine gf_iald 120 dX12_run_93 (gt_300 hG) (gl_300 hG) rfl (by omega) (by decide) ?_
    refine gf_iast 120 dX12_run_94 (gt_316 hG) (gl_316 hG) rfl (by omega) (by decide) ?_
    rw [mI_69]
    refine gf_aload_n 0 dX12_run_95 rfl rfl ?_
    refine gf_getR flX12_234 rfl dX12_run_96 (gt_247 hG) (gp_247_95 hG) ?_
    refine gf_iload dX12_run_99 rfl ?_
    refine gf_aload_n 0 dX12_run_101 rfl rfl ?_
    refine gf_getR flX12_186 rfl dX12_run_102 (gt_247 hG) (gp_247_76 hG) ?_
    refine gf_iload dX12_run_105 rfl ?_
    refine gf_iald 120 dX12_run_107 (gt_301 hG) (gl_301 hG) rfl (by omega) (by decide) ?_
    refine gf_iast 120 dX12_run_108 (gt_317 hG) (gl_317 hG) rfl (by omega) (by decide) ?_
    rw [mI_70]
    refine gf_aload_n 0 dX12_run_109 rfl rfl ?_
    refine gf_getR flX12_237 rfl dX12_run_110 (gt_247 hG) (gp_247_96 hG) ?_
    refine gf_iload dX12_run_113 rfl ?_
    refine gf_aload_n 0 dX12_run_115 rfl rfl ?_
    refine gf_getR flX12_189 rfl dX12_run_116 (gt_247 hG) (gp_247_77 hG) ?_
    refine gf_iload dX12_run_119 rfl ?_
    refine gf_iald 120 dX12_run_121 (gt_302 hG) (gl_302 hG) rfl (by omega) (by decide) ?_
    refine gf_iast 120 dX12_run_122 (gt_318 hG) (gl_318 hG) rfl (by omega) (by decide) ?_
    rw [mI_71]
    refine gf_aload_n 0 dX12_run_123 rfl rfl ?_
    refine gf_getR flX12_240 rfl dX12_run_124 (gt_247 hG) (gp_247_97 hG) ?_
    refine gf_iload dX12_run_127 rfl ?_
    refine gf_aload_n 0 dX12_run_129 rfl rfl ?_
    refine gf_getR flX12_192 rfl dX12_run_130 (gt_247 hG) (gp_247_78 hG) ?_
    refine gf_iload dX12_run_133 rfl ?_
    refine gf_iald 120 dX12_run_135 (gt_303 hG) (gl_303 hG) rfl (by omega) (by decide) ?_
    refine gf_iast 120 dX12_run_136 (gt_319 hG) (gl_319 hG) rfl (by omega) (by decide) ?_
    rw [mI_72]
    refine gf_aload_n 0 dX12_run_137 rfl rfl ?_
    refine gf_getR flX12_243 rfl dX12_run_138 (gt_247 hG) (gp_247_98 hG) ?_
    refine gf_iload dX12_run_141 rfl ?_
    refine gf_aload_n 0 dX12_run_143 rfl rfl ?_
    refine gf_iload dX12_run_144 rfl ?_
    refine gf_callV cmX12_lossOf lkX12_595 imX12_lossOf seX12_lossOf ⟨rfl, by decide⟩ dX12_run_146 (d1 := d - 1) (by omega) (gt_247 hG) (e_X12_lossOf E (by omega) (w := w) (g := g) (c := jz) h hG (up2 (up2 (up2 (up2 (up2 z.1 68 jz (z.1 34 jz)) 69 jz ((up2 z.1 68 jz (z.1 34 jz)) 53 jz)) 70 jz ((up2 (up2 z.1 68 jz (z.1 34 jz)) 69 jz ((up2 z.1 68 jz (z.1 34 jz)) 53 jz)) 54 jz)) 71 jz ((up2 (up2 (up2 z.1 68 jz (z.1 34 jz)) 69 jz ((up2 z.1 68 jz (z.1 34 jz)) 53 jz)) 70 jz ((up2 (up2 z.1 68 jz (z.1 34 jz)) 69 jz ((up2 z.1 68 jz (z.1 34 jz)) 53 jz)) 54 jz)) 55 jz)) 72 jz ((up2 (up2 (up2 (up2 z.1 68 jz (z.1 34 jz)) 69 jz ((up2 z.1 68 jz (z.1 34 jz)) 53 jz)) 70 jz ((up2 (up2 z.1 68 jz (z.1 34 jz)) 69 jz ((up2 z.1 68 jz (z.1 34 jz)) 53 jz)) 54 jz)) 71 jz ((up2 (up2 (up2 z.1 68 jz (z.1 34 jz)) 69 jz ((up2 z.1 68 jz (z.1 34 jz)) 53 jz)) 70 jz ((up2 (up2 z.1 68 jz (z.1 34 jz)) 69 jz ((up2 z.1 68 jz (z.1 34 jz)) 53 jz)) 54 jz)) 55 jz)) 56 jz)) N (show mcty (up2 (up2 (up2 (up2 (up2 z.1 68 jz (z.1 34 jz)) 69 jz ((up2 z.1 68 jz (z.1 34 jz)) 53 jz)) 70 jz ((up2 (up2 z.1 68 jz (z.1 34 jz)) 69 jz ((up2 z.1 68 jz (z.1 34 jz)) 53 jz)) 54 jz)) 71 jz ((up2 (up2 (up2 z.1 68 jz (z.1 34 jz)) 69 jz ((up2 z.1 68 jz (z.1 34 jz)) 53 jz)) 70 jz ((up2 (up2 z.1 68 jz (z.1 34 jz)) 69 jz ((up2 z.1 68 jz (z.1 34 jz)) 53 jz)) 54 jz)) 55 jz)) 72 jz ((up2 (up2 (up2 (up2 z.1 68 jz (z.1 34 jz)) 69 jz ((up2 z.1 68 jz (z.1 34 jz)) 53 jz)) 70 jz ((up2 (up2 z.1 68 jz (z.1 34 jz)) 69 jz ((up2 z.1 68 jz (z.1 34 jz)) 53 jz)) 54 jz)) 71 jz ((up2 (up2 (up2 z.1 68 jz (z.1 34 jz)) 69 jz ((up2 z.1 68 jz (z.1 34 jz)) 53 jz)) 70 jz ((up2 (up2 z.1 68 jz (z.1 34 jz)) 69 jz ((up2 z.1 68 jz (z.1 34 jz)) 53 jz)) 54 jz)) 55 jz)) 56 jz)) w g from Cz) (show jz < w * g by omega) (show ∀ c, c < 120 → ∃ k, k < 4 ∧ (up2 (up2 (up2 (up2 (up2 z.1 68 jz (z.1 34 jz)) 69 jz ((up2 z.1 68 jz (z.1 34 jz)) 53 jz)) 70 jz ((up2 (up2 z.1 68 jz (z.1 34 jz)) 69 jz ((up2 z.1 68 jz (z.1 34 jz)) 53 jz)) 54 jz)) 71 jz ((up2 (up2 (up2 z.1 68 jz (z.1 34 jz)) 69 jz ((up2 z.1 68 jz (z.1 34 jz)) 53 jz)) 70 jz ((up2 (up2 z.1 68 jz (z.1 34 jz)) 69 jz ((up2 z.1 68 jz (z.1 34 jz)) 53 jz)) 54 jz)) 55 jz)) 72 jz ((up2 (up2 (up2 (up2 z.1 68 jz (z.1 34 jz)) 69 jz ((up2 z.1 68 jz (z.1 34 jz)) 53 jz)) 70 jz ((up2 (up2 z.1 68 jz (z.1 34 jz)) 69 jz ((up2 z.1 68 jz (z.1 34 jz)) 53 jz)) 54 jz)) 71 jz ((up2 (up2 (up2 z.1 68 jz (z.1 34 jz)) 69 jz ((up2 z.1 68 jz (z.1 34 jz)) 53 jz)) 70 jz ((up2 (up2 z.1 68 jz (z.1 34 jz)) 69 jz ((up2 z.1 68 jz (z.1 34 jz)) 53 jz)) 54 jz)) 55 jz)) 56 jz)) 31 c = nI k from hwz)) rfl rfl (Nat.le_of_ble_eq_true rfl) ?_
    refine gf_iast 120 dX12_run_149 (gt_320 hG) (gl_320 hG) rfl (by omega) (by decide) ?_
    rw [mI_73]
    refine gf_aload_n 0 dX12_run_150 rfl rfl ?_
    refine gf_getR flX12_246 rfl dX12_run_151 (gt_247 hG) (gp_247_99 hG) ?_
    refine gf_iload dX12_run_154 rfl ?_
    refine gf_aload_n 0 dX12_run_156 rfl rfl ?_
    refine gf_getR flX12_195 rfl dX12_run_157 (gt_247 hG) (gp_247_79 hG) ?_
    refine gf_iload dX12_run_160 rfl ?_
    refine gf_iald 120 dX12_run_162 (gt_304 hG) (gl_304 hG) rfl (by omega) (by decide) ?_
    refine gf_iast 120 dX12_run_163 (gt_321 hG) (gl_321 hG) rfl (by omega) (by decide) ?_
    rw [mI_74]
    refine gf_aload_n 0 dX12_run_164 rfl rfl ?_
    refine gf_getR flX12_183 rfl dX12_run_165 (gt_247 hG) (gp_247_75 hG) ?_
    refine gf_iload dX12_run_168 rfl ?_
    refine gf_iald 120 dX12_run_170 (gt_300 hG) (gl_300 hG) rfl (by omega) (by decide) ?_
    refine gf_if_eq 177 dX12_run_171 rfl (fun zc171 => ?_) (fun zc171 => ?_)
    · refine gf_iinc (1) dX12_run_177 rfl rfl (Nat.le_of_ble_eq_true rfl) ?_
      refine gf_goto 58 dX12_run_180 rfl ?_
      rw [show rncB z jz = ((up2 (up2 (up2 (up2 (up2 (up2 (up2 z.1 68 jz (z.1 34 jz)) 69 jz ((up2 z.1 68 jz (z.1 34 jz)) 53 jz)) 70 jz ((up2 (up2 z.1 68 jz (z.1 34 jz)) 69 jz ((up2 z.1 68 jz (z.1 34 jz)) 53 jz)) 54 jz)) 71 jz ((up2 (up2 (up2 z.1 68 jz (z.1 34 jz)) 69 jz ((up2 z.1 68 jz (z.1 34 jz)) 53 jz)) 70 jz ((up2 (up2 z.1 68 jz (z.1 34 jz)) 69 jz ((up2 z.1 68 jz (z.1 34 jz)) 53 jz)) 54 jz)) 55 jz)) 72 jz ((up2 (up2 (up2 (up2 z.1 68 jz (z.1 34 jz)) 69 jz ((up2 z.1 68 jz (z.1 34 jz)) 53 jz)) 70 jz ((up2 (up2 z.1 68 jz (z.1 34 jz)) 69 jz ((up2 z.1 68 jz (z.1 34 jz)) 53 jz)) 54 jz)) 71 jz ((up2 (up2 (up2 z.1 68 jz (z.1 34 jz)) 69 jz ((up2 z.1 68 jz (z.1 34 jz)) 53 jz)) 70 jz ((up2 (up2 z.1 68 jz (z.1 34 jz)) 69 jz ((up2 z.1 68 jz (z.1 34 jz)) 53 jz)) 54 jz)) 55 jz)) 56 jz)) 73 jz (mloV (up2 (up2 (up2 (up2 (up2 z.1 68 jz (z.1 34 jz)) 69 jz ((up2 z.1 68 jz (z.1 34 jz)) 53 jz)) 70 jz ((up2 (up2 z.1 68 jz (z.1 34 jz)) 69 jz ((up2 z.1 68 jz (z.1 34 jz)) 53 jz)) 54 jz)) 71 jz ((up2 (up2 (up2 z.1 68 jz (z.1 34 jz)) 69 jz ((up2 z.1 68 jz (z.1 34 jz)) 53 jz)) 70 jz ((up2 (up2 z.1 68 jz (z.1 34 jz)) 69 jz ((up2 z.1 68 jz (z.1 34 jz)) 53 jz)) 54 jz)) 55 jz)) 72 jz ((up2 (up2 (up2 (up2 z.1 68 jz (z.1 34 jz)) 69 jz ((up2 z.1 68 jz (z.1 34 jz)) 53 jz)) 70 jz ((up2 (up2 z.1 68 jz (z.1 34 jz)) 69 jz ((up2 z.1 68 jz (z.1 34 jz)) 53 jz)) 54 jz)) 71 jz ((up2 (up2 (up2 z.1 68 jz (z.1 34 jz)) 69 jz ((up2 z.1 68 jz (z.1 34 jz)) 53 jz)) 70 jz ((up2 (up2 z.1 68 jz (z.1 34 jz)) 69 jz ((up2 z.1 68 jz (z.1 34 jz)) 53 jz)) 54 jz)) 55 jz)) 56 jz)) jz)) 74 jz ((up2 (up2 (up2 (up2 (up2 (up2 z.1 68 jz (z.1 34 jz)) 69 jz ((up2 z.1 68 jz (z.1 34 jz)) 53 jz)) 70 jz ((up2 (up2 z.1 68 jz (z.1 34 jz)) 69 jz ((up2 z.1 68 jz (z.1 34 jz)) 53 jz)) 54 jz)) 71 jz ((up2 (up2 (up2 z.1 68 jz (z.1 34 jz)) 69 jz ((up2 z.1 68 jz (z.1 34 jz)) 53 jz)) 70 jz ((up2 (up2 z.1 68 jz (z.1 34 jz)) 69 jz ((up2 z.1 68 jz (z.1 34 jz)) 53 jz)) 54 jz)) 55 jz)) 72 jz ((up2 (up2 (up2 (up2 z.1 68 jz (z.1 34 jz)) 69 jz ((up2 z.1 68 jz (z.1 34 jz)) 53 jz)) 70 jz ((up2 (up2 z.1 68 jz (z.1 34 jz)) 69 jz ((up2 z.1 68 jz (z.1 34 jz)) 53 jz)) 54 jz)) 71 jz ((up2 (up2 (up2 z.1 68 jz (z.1 34 jz)) 69 jz ((up2 z.1 68 jz (z.1 34 jz)) 53 jz)) 70 jz ((up2 (up2 z.1 68 jz (z.1 34 jz)) 69 jz ((up2 z.1 68 jz (z.1 34 jz)) 53 jz)) 54 jz)) 55 jz)) 56 jz)) 73 jz (mloV (up2 (up2 (up2 (up2 (up2 z.1 68 jz (z.1 34 jz)) 69 jz ((up2 z.1 68 jz (z.1 34 jz)) 53 jz)) 70 jz ((up2 (up2 z.1 68 jz (z.1 34 jz)) 69 jz ((up2 z.1 68 jz (z.1 34 jz)) 53 jz)) 54 jz)) 71 jz ((up2 (up2 (up2 z.1 68 jz (z.1 34 jz)) 69 jz ((up2 z.1 68 jz (z.1 34 jz)) 53 jz)) 70 jz ((up2 (up2 z.1 68 jz (z.1 34 jz)) 69 jz ((up2 z.1 68 jz (z.1 34 jz)) 53 jz)) 54 jz)) 55 jz)) 72 jz ((up2 (up2 (up2 (up2 z.1 68 jz (z.1 34 jz)) 69 jz ((up2 z.1 68 jz (z.1 34 jz)) 53 jz)) 70 jz ((up2 (up2 z.1 68 jz (z.1 34 jz)) 69 jz ((up2 z.1 68 jz (z.1 34 jz)) 53 jz)) 54 jz)) 71 jz ((up2 (up2 (up2 z.1 68 jz (z.1 34 jz)) 69 jz ((up2 z.1 68 jz (z.1 34 jz)) 53 jz)) 70 jz ((up2 (up2 z.1 68 jz (z.1 34 jz)) 69 jz ((up2 z.1 68 jz (z.1 34 jz)) 53 jz)) 54 jz)) 55 jz)) 56 jz)) jz)) 57 jz)), z.2) from if_pos zc171] at ih1
      exact gf_lw ih1 ⟨rfl, rfl, rfl, rfl, lvE (nI_1 jz), trivial⟩
    · refine gf_iinc (1) dX12_run_174 rfl rfl (Nat.le_of_ble_eq_true rfl) ?_
      refine gf_iinc (1) dX12_run_177 rfl rfl (Nat.le_of_ble_eq_true rfl) ?_
      refine gf_goto 58 dX12_run_180 rfl ?_
      rw [show rncB z jz = ((up2 (up2 (up2 (up2 (up2 (up2 (up2 z.1 68 jz (z.1 34 jz)) 69 jz ((up2 z.1 68 jz (z.1 34 jz)) 53 jz)) 70 jz ((up2 (up2 z.1 68 jz (z.1 34 jz)) 69 jz ((up2 z.1 68 jz (z.1 34 jz)) 53 jz)) 54 jz)) 71 jz ((up2 (up2 (up2 z.1 68 jz (z.1 34 jz)) 69 jz ((up2 z.1 68 jz (z.1 34 jz)) 53 jz)) 70 jz ((up2 (up2 z.1 68 jz (z.1 34 jz)) 69 jz ((up2 z.1 68 jz (z.1 34 jz)) 53 jz)) 54 jz)) 55 jz)) 72 jz ((up2 (up2 (up2 (up2 z.1 68 jz (z.1 34 jz)) 69 jz ((up2 z.1 68 jz (z.1 34 jz)) 53 jz)) 70 jz ((up2 (up2 z.1 68 jz (z.1 34 jz)) 69 jz ((up2 z.1 68 jz (z.1 34 jz)) 53 jz)) 54 jz)) 71 jz ((up2 (up2 (up2 z.1 68 jz (z.1 34 jz)) 69 jz ((up2 z.1 68 jz (z.1 34 jz)) 53 jz)) 70 jz ((up2 (up2 z.1 68 jz (z.1 34 jz)) 69 jz ((up2 z.1 68 jz (z.1 34 jz)) 53 jz)) 54 jz)) 55 jz)) 56 jz)) 73 jz (mloV (up2 (up2 (up2 (up2 (up2 z.1 68 jz (z.1 34 jz)) 69 jz ((up2 z.1 68 jz (z.1 34 jz)) 53 jz)) 70 jz ((up2 (up2 z.1 68 jz (z.1 34 jz)) 69 jz ((up2 z.1 68 jz (z.1 34 jz)) 53 jz)) 54 jz)) 71 jz ((up2 (up2 (up2 z.1 68 jz (z.1 34 jz)) 69 jz ((up2 z.1 68 jz (z.1 34 jz)) 53 jz)) 70 jz ((up2 (up2 z.1 68 jz (z.1 34 jz)) 69 jz ((up2 z.1 68 jz (z.1 34 jz)) 53 jz)) 54 jz)) 55 jz)) 72 jz ((up2 (up2 (up2 (up2 z.1 68 jz (z.1 34 jz)) 69 jz ((up2 z.1 68 jz (z.1 34 jz)) 53 jz)) 70 jz ((up2 (up2 z.1 68 jz (z.1 34 jz)) 69 jz ((up2 z.1 68 jz (z.1 34 jz)) 53 jz)) 54 jz)) 71 jz ((up2 (up2 (up2 z.1 68 jz (z.1 34 jz)) 69 jz ((up2 z.1 68 jz (z.1 34 jz)) 53 jz)) 70 jz ((up2 (up2 z.1 68 jz (z.1 34 jz)) 69 jz ((up2 z.1 68 jz (z.1 34 jz)) 53 jz)) 54 jz)) 55 jz)) 56 jz)) jz)) 74 jz ((up2 (up2 (up2 (up2 (up2 (up2 z.1 68 jz (z.1 34 jz)) 69 jz ((up2 z.1 68 jz (z.1 34 jz)) 53 jz)) 70 jz ((up2 (up2 z.1 68 jz (z.1 34 jz)) 69 jz ((up2 z.1 68 jz (z.1 34 jz)) 53 jz)) 54 jz)) 71 jz ((up2 (up2 (up2 z.1 68 jz (z.1 34 jz)) 69 jz ((up2 z.1 68 jz (z.1 34 jz)) 53 jz)) 70 jz ((up2 (up2 z.1 68 jz (z.1 34 jz)) 69 jz ((up2 z.1 68 jz (z.1 34 jz)) 53 jz)) 54 jz)) 55 jz)) 72 jz ((up2 (up2 (up2 (up2 z.1 68 jz (z.1 34 jz)) 69 jz ((up2 z.1 68 jz (z.1 34 jz)) 53 jz)) 70 jz ((up2 (up2 z.1 68 jz (z.1 34 jz)) 69 jz ((up2 z.1 68 jz (z.1 34 jz)) 53 jz)) 54 jz)) 71 jz ((up2 (up2 (up2 z.1 68 jz (z.1 34 jz)) 69 jz ((up2 z.1 68 jz (z.1 34 jz)) 53 jz)) 70 jz ((up2 (up2 z.1 68 jz (z.1 34 jz)) 69 jz ((up2 z.1 68 jz (z.1 34 jz)) 53 jz)) 54 jz)) 55 jz)) 56 jz)) 73 jz (mloV (up2 (up2 (up2 (up2 (up2 z.1 68 jz (z.1 34 jz)) 69 jz ((up2 z.1 68 jz (z.1 34 jz)) 53 jz)) 70 jz ((up2 (up2 z.1 68 jz (z.1 34 jz)) 69 jz ((up2 z.1 68 jz (z.1 34 jz)) 53 jz)) 54 jz)) 71 jz ((up2 (up2 (up2 z.1 68 jz (z.1 34 jz)) 69 jz ((up2 z.1 68 jz (z.1 34 jz)) 53 jz)) 70 jz ((up2 (up2 z.1 68 jz (z.1 34 jz)) 69 jz ((up2 z.1 68 jz (z.1 34 jz)) 53 jz)) 54 jz)) 55 jz)) 72 jz ((up2 (up2 (up2 (up2 z.1 68 jz (z.1 34 jz)) 69 jz ((up2 z.1 68 jz (z.1 34 jz)) 53 jz)) 70 jz ((up2 (up2 z.1 68 jz (z.1 34 jz)) 69 jz ((up2 z.1 68 jz (z.1 34 jz)) 53 jz)) 54 jz)) 71 jz ((up2 (up2 (up2 z.1 68 jz (z.1 34 jz)) 69 jz ((up2 z.1 68 jz (z.1 34 jz)) 53 jz)) 70 jz ((up2 (up2 z.1 68 jz (z.1 34 jz)) 69 jz ((up2 z.1 68 jz (z.1 34 jz)) 53 jz)) 54 jz)) 55 jz)) 56 jz)) jz)) 57 jz)), (z.2 + 1)) from if_neg zc171] at ih1
      exact gf_lw ih1 ⟨rfl, rfl, rfl, rfl, lvE (nI_1 jz), trivial⟩
def rneB (z : mM) (jz : Nat) : mM := (up2 (up2 (up2 z 75 jz (z 60 jz)) 76 jz ((up2 z 75 jz (z 60 jz)) 61 jz)) 77 jz ((up2 (up2 z 75 jz (z 60 jz)) 76 jz ((up2 z 75 jz (z 60 jz)) 61 jz)) 62 jz))
theorem rneB_row (z : mM) (j : Nat) {r : Nat} (h : r < 75 ∨ 77 < r) : rneB z j r = z r := by
  unfold rneB
  rw [up2_row (show r ≠ 77 by omega), up2_row (show r ≠ 76 by omega), up2_row (show r ≠ 75 by omega)]
theorem l_rne (E : gE) {d : Nat} {m : Nat} (c u cn : Int32) (h : hp_T) (hG : gr h) (M : mM) (N : mN) (hme : M 0 54 = nI m) (hm12 : m ≤ 12) {v : Option Value} {hz : hp_T} (K : gf E mX12_run d 243 [(0, .ref (E.1 + 247)), (1, .int c), (2, .int u), (3, .int cn), (4, .int (nI m))] [] (hm h (itN (rneB) M m) N) v hz) : ∀ (kz jz : Nat), jz + kz = m → gf E mX12_run d 186 [(0, .ref (E.1 + 247)), (1, .int c), (2, .int u), (3, .int cn), (4, .int (nI jz))] [] (hm h (itN (rneB) M jz) N) v hz := by
  intro kz
  induction kz with
  | zero =>
    intro jz hj
    have hj : m = jz := by omega
    subst hj
    have Iz : (itN (rneB) M m) 0 = M 0 := itN_row (fun z j => rneB_row z j (by decide)) M m
    generalize ez : (itN (rneB) M m) = z at K Iz ⊢
    refine gf_iload dX12_run_186 rfl ?_
    refine gf_aload_n 0 dX12_run_188 rfl rfl ?_
    refine gf_getI flX12_421 rfl dX12_run_189 (gt_247 hG) ?_
    rw [show hp_i (hm h z N) 247 54 = nI m from (congrFun Iz 54).trans hme]
    refine gf_icmp_ge 243 dX12_run_192 rfl (fun _ => ?_) (fun q => absurd (Int32.le_refl _) q)
    exact gf_lw K ⟨rfl, rfl, rfl, rfl, rfl, trivial⟩
  | succ kz ih =>
    intro jz hj
    have ih1 := ih (jz + 1) (by omega)
    have Iz : (itN (rneB) M jz) 0 = M 0 := itN_row (fun z j => rneB_row z j (by decide)) M jz
    rw [show (itN (rneB) M (jz + 1)) = rneB (itN (rneB) M jz) jz from itN_s _ _ _] at ih1
    generalize (itN (rneB) M jz) = z at ih1 Iz ⊢
    refine gf_iload dX12_run_186 rfl ?_
    refine gf_aload_n 0 dX12_run_188 rfl rfl ?_
    refine gf_getI flX12_421 rfl dX12_run_189 (gt_247 hG) ?_
    rw [show hp_i (hm h z N) 247 54 = nI m from (congrFun Iz 54).trans hme]
    refine gf_icmp_ge 243 dX12_run_192 rfl (fun q => absurd q (nI_ge (by omega) (by omega))) (fun _ => ?_)
    refine gf_aload_n 0 dX12_run_195 rfl rfl ?_
    refine gf_getR flX12_249 rfl dX12_run_196 (gt_247 hG) (gp_247_100 hG) ?_
    refine gf_iload dX12_run_199 rfl ?_
    refine gf_aload_n 0 dX12_run_201 rfl rfl ?_
    refine gf_getR flX12_204 rfl dX12_run_202 (gt_247 hG) (gp_247_82 hG) ?_
    refine gf_iload dX12_run_205 rfl ?_
    refine gf_iald 12 dX12_run_207 (gt_307 hG) (gl_307 hG) rfl (by omega) (by decide) ?_
    refine gf_iast 12 dX12_run_208 (gt_322 hG) (gl_322 hG) rfl (by omega) (by decide) ?_
    rw [mI_75]
    refine gf_aload_n 0 dX12_run_209 rfl rfl ?_
    refine gf_getR flX12_252 rfl dX12_run_210 (gt_247 hG) (gp_247_101 hG) ?_
    refine gf_iload dX12_run_213 rfl ?_
    refine gf_aload_n 0 dX12_run_215 rfl rfl ?_
    refine gf_getR flX12_207 rfl dX12_run_216 (gt_247 hG) (gp_247_83 hG) ?_
    refine gf_iload dX12_run_219 rfl ?_
    refine gf_iald 12 dX12_run_221 (gt_308 hG) (gl_308 hG) rfl (by omega) (by decide) ?_
    refine gf_iast 12 dX12_run_222 (gt_323 hG) (gl_323 hG) rfl (by omega) (by decide) ?_
    rw [mI_76]
    refine gf_aload_n 0 dX12_run_223 rfl rfl ?_
    refine gf_getR flX12_255 rfl dX12_run_224 (gt_247 hG) (gp_247_102 hG) ?_
    refine gf_iload dX12_run_227 rfl ?_
    refine gf_aload_n 0 dX12_run_229 rfl rfl ?_
    refine gf_getR flX12_210 rfl dX12_run_230 (gt_247 hG) (gp_247_84 hG) ?_
    refine gf_iload dX12_run_233 rfl ?_
    refine gf_iald 12 dX12_run_235 (gt_309 hG) (gl_309 hG) rfl (by omega) (by decide) ?_
    refine gf_iast 12 dX12_run_236 (gt_324 hG) (gl_324 hG) rfl (by omega) (by decide) ?_
    rw [mI_77]
    refine gf_iinc (1) dX12_run_237 rfl rfl (Nat.le_of_ble_eq_true rfl) ?_
    refine gf_goto 186 dX12_run_240 rfl ?_
    rw [show rneB z jz = (up2 (up2 (up2 z 75 jz (z 60 jz)) 76 jz ((up2 z 75 jz (z 60 jz)) 61 jz)) 77 jz ((up2 (up2 z 75 jz (z 60 jz)) 76 jz ((up2 z 75 jz (z 60 jz)) 61 jz)) 62 jz)) from rfl] at ih1
    exact gf_lw ih1 ⟨rfl, rfl, rfl, rfl, lvE (nI_1 jz), trivial⟩
def rnaB (z : mM) (jz : Nat) : mM := (up2 (up2 (up2 z 78 jz (z 66 jz)) 79 jz ((up2 z 78 jz (z 66 jz)) 63 jz)) 80 jz ((up2 (up2 z 78 jz (z 66 jz)) 79 jz ((up2 z 78 jz (z 66 jz)) 63 jz)) 64 jz))
theorem rnaB_row (z : mM) (j : Nat) {r : Nat} (h : r < 78 ∨ 80 < r) : rnaB z j r = z r := by
  unfold rnaB
  rw [up2_row (show r ≠ 80 by omega), up2_row (show r ≠ 79 by omega), up2_row (show r ≠ 78 by omega)]
theorem l_rna (E : gE) {d : Nat} (c u cn : Int32) (h : hp_T) (hG : gr h) (M : mM) (N : mN) (hb6 : ∀ k, k ≤ 200 → vp_nar .boolean (M 66 k) = M 66 k) {v : Option Value} {hz : hp_T} (K : gf E mX12_run d 310 [(0, .ref (E.1 + 247)), (1, .int c), (2, .int u), (3, .int cn), (4, .int (nI (201 : Nat)))] [] (hm h (itN (rnaB) M (201 : Nat)) N) v hz) : ∀ (kz jz : Nat), jz + kz = (201 : Nat) → gf E mX12_run d 254 [(0, .ref (E.1 + 247)), (1, .int c), (2, .int u), (3, .int cn), (4, .int (nI jz))] [] (hm h (itN (rnaB) M jz) N) v hz := by
  intro kz
  induction kz with
  | zero =>
    intro jz hj
    have hj : (201 : Nat) = jz := by omega
    subst hj
    have Iz : (itN (rnaB) M (201 : Nat)) 66 = M 66 := itN_row (fun z j => rnaB_row z j (by decide)) M (201 : Nat)
    generalize ez : (itN (rnaB) M (201 : Nat)) = z at K Iz ⊢
    refine gf_iload dX12_run_254 rfl ?_
    refine gf_sipush (200) dX12_run_256 rfl ?_
    refine gf_icmp_gt 310 dX12_run_259 rfl (fun _ => ?_) (fun q => absurd (nI_lt (a := 200) (by omega) (by omega)) q)
    exact gf_lw K ⟨rfl, rfl, rfl, rfl, rfl, trivial⟩
  | succ kz ih =>
    intro jz hj
    have ih1 := ih (jz + 1) (by omega)
    have Iz : (itN (rnaB) M jz) 66 = M 66 := itN_row (fun z j => rnaB_row z j (by decide)) M jz
    rw [show (itN (rnaB) M (jz + 1)) = rnaB (itN (rnaB) M jz) jz from itN_s _ _ _] at ih1
    generalize (itN (rnaB) M jz) = z at ih1 Iz ⊢
    refine gf_iload dX12_run_254 rfl ?_
    refine gf_sipush (200) dX12_run_256 rfl ?_
    refine gf_icmp_gt 310 dX12_run_259 rfl (fun q => absurd q (nI_nlt (a := 200) (by omega) (by omega))) (fun _ => ?_)
    refine gf_aload_n 0 dX12_run_262 rfl rfl ?_
    refine gf_getR flX12_258 rfl dX12_run_263 (gt_247 hG) (gp_247_104 hG) ?_
    refine gf_iload dX12_run_266 rfl ?_
    refine gf_aload_n 0 dX12_run_268 rfl rfl ?_
    refine gf_getR flX12_222 rfl dX12_run_269 (gt_247 hG) (gp_247_88 hG) ?_
    refine gf_iload dX12_run_272 rfl ?_
    refine gf_zald 201 dX12_run_274 (gt_313 hG) (gl_313 hG) rfl (by omega) (by decide) ?_
    refine gf_zast 201 dX12_run_275 (gt_325 hG) (gl_325 hG) rfl (by omega) (by decide) (by show vp_nar .boolean (z 66 jz) = z 66 jz; rw [Iz]; exact hb6 jz (by omega)) ?_
    rw [mI_78]
    refine gf_aload_n 0 dX12_run_276 rfl rfl ?_
    refine gf_getR flX12_261 rfl dX12_run_277 (gt_247 hG) (gp_247_105 hG) ?_
    refine gf_iload dX12_run_280 rfl ?_
    refine gf_aload_n 0 dX12_run_282 rfl rfl ?_
    refine gf_getR flX12_213 rfl dX12_run_283 (gt_247 hG) (gp_247_85 hG) ?_
    refine gf_iload dX12_run_286 rfl ?_
    refine gf_iald 201 dX12_run_288 (gt_310 hG) (gl_310 hG) rfl (by omega) (by decide) ?_
    refine gf_iast 201 dX12_run_289 (gt_326 hG) (gl_326 hG) rfl (by omega) (by decide) ?_
    rw [mI_79]
    refine gf_aload_n 0 dX12_run_290 rfl rfl ?_
    refine gf_getR flX12_264 rfl dX12_run_291 (gt_247 hG) (gp_247_106 hG) ?_
    refine gf_iload dX12_run_294 rfl ?_
    refine gf_aload_n 0 dX12_run_296 rfl rfl ?_
    refine gf_getR flX12_216 rfl dX12_run_297 (gt_247 hG) (gp_247_86 hG) ?_
    refine gf_iload dX12_run_300 rfl ?_
    refine gf_iald 201 dX12_run_302 (gt_311 hG) (gl_311 hG) rfl (by omega) (by decide) ?_
    refine gf_iast 201 dX12_run_303 (gt_327 hG) (gl_327 hG) rfl (by omega) (by decide) ?_
    rw [mI_80]
    refine gf_iinc (1) dX12_run_304 rfl rfl (Nat.le_of_ble_eq_true rfl) ?_
    refine gf_goto 254 dX12_run_307 rfl ?_
    rw [show rnaB z jz = (up2 (up2 (up2 z 78 jz (z 66 jz)) 79 jz ((up2 z 78 jz (z 66 jz)) 63 jz)) 80 jz ((up2 (up2 z 78 jz (z 66 jz)) 79 jz ((up2 z 78 jz (z 66 jz)) 63 jz)) 64 jz)) from rfl] at ih1
    exact gf_lw ih1 ⟨rfl, rfl, rfl, rfl, lvE (nI_1 jz), trivial⟩
def rnoB (n : Nat) (z : mM) (jz : Nat) : mM := (up2 z 81 jz (mseS z (nI jz) n))
theorem rnoB_row {n : Nat} (z : mM) (j : Nat) {r : Nat} (h : r ≠ 81) : rnoB n z j r = z r := by
  unfold rnoB
  rw [up2_row h]
theorem l_rno (E : gE) {d : Nat} (hd : 1 ≤ d) {n : Nat} (c u cn : Int32) (h : hp_T) (hG : gr h) (M : mM) (N : mN) (hN : M 0 62 = nI n) (hn2 : n ≤ 200) {v : Option Value} {hz : hp_T} (K : gf E mX12_run d 339 [(0, .ref (E.1 + 247)), (1, .int c), (2, .int u), (3, .int cn), (4, .int (nI (9 : Nat)))] [] (hm h (itN (rnoB n) M (9 : Nat)) N) v hz) : ∀ (kz jz : Nat), jz + kz = (9 : Nat) → gf E mX12_run d 313 [(0, .ref (E.1 + 247)), (1, .int c), (2, .int u), (3, .int cn), (4, .int (nI jz))] [] (hm h (itN (rnoB n) M jz) N) v hz := by
  intro kz
  induction kz with
  | zero =>
    intro jz hj
    have hj : (9 : Nat) = jz := by omega
    subst hj
    have Iz : (itN (rnoB n) M (9 : Nat)) 0 = M 0 := itN_row (fun z j => rnoB_row z j (by decide)) M (9 : Nat)
    generalize ez : (itN (rnoB n) M (9 : Nat)) = z at K Iz ⊢
    refine gf_iload dX12_run_313 rfl ?_
    refine gf_bipush (9) dX12_run_315 rfl ?_
    refine gf_icmp_ge 339 dX12_run_317 rfl (fun _ => ?_) (fun q => absurd (Int32.le_refl _) q)
    exact gf_lw K ⟨rfl, rfl, rfl, rfl, rfl, trivial⟩
  | succ kz ih =>
    intro jz hj
    have ih1 := ih (jz + 1) (by omega)
    have Iz : (itN (rnoB n) M jz) 0 = M 0 := itN_row (fun z j => rnoB_row z j (by decide)) M jz
    rw [show (itN (rnoB n) M (jz + 1)) = rnoB n (itN (rnoB n) M jz) jz from itN_s _ _ _] at ih1
    generalize (itN (rnoB n) M jz) = z at ih1 Iz ⊢
    refine gf_iload dX12_run_313 rfl ?_
    refine gf_bipush (9) dX12_run_315 rfl ?_
    refine gf_icmp_ge 339 dX12_run_317 rfl (fun q => absurd q (nI_ge (b := 9) (by omega) (by omega))) (fun _ => ?_)
    refine gf_aload_n 0 dX12_run_320 rfl rfl ?_
    refine gf_getR flX12_267 rfl dX12_run_321 (gt_247 hG) (gp_247_107 hG) ?_
    refine gf_iload dX12_run_324 rfl ?_
    refine gf_aload_n 0 dX12_run_326 rfl rfl ?_
    refine gf_iload dX12_run_327 rfl ?_
    refine gf_callV cmX12_settledOf lkX12_629 imX12_settledOf seX12_settledOf ⟨rfl, by decide⟩ dX12_run_329 (d1 := d - 1) (by omega) (gt_247 hG) (e_X12_settledOf E (by omega) (nI jz) h hG z N ((congrFun Iz 62).trans hN) hn2) rfl rfl (Nat.le_of_ble_eq_true rfl) ?_
    refine gf_iast 9 dX12_run_332 (gt_328 hG) (gl_328 hG) rfl (by omega) (by decide) ?_
    rw [mI_81]
    refine gf_iinc (1) dX12_run_333 rfl rfl (Nat.le_of_ble_eq_true rfl) ?_
    refine gf_goto 313 dX12_run_336 rfl ?_
    rw [show rnoB n z jz = (up2 z 81 jz (mseS z (nI jz) n)) from rfl] at ih1
    exact gf_lw ih1 ⟨rfl, rfl, rfl, rfl, lvE (nI_1 jz), trivial⟩
/-- what run keeps -/
def rn1 (w g : Nat) (M : mM) : mM × Int32 := itN rncB (up2 (up2 (up2 M 0 90 1) 0 91 (nI (w * g))) 0 92 (M 0 54), 0) (w * g)
def rn2 (w g m : Nat) (M : mM) : mM := itN rneB (rn1 w g M).1 m
def rn3 (w g m : Nat) (M : mM) : mM := itN rnaB (up2 (rn2 w g m M) 0 103 (itN (fun f c => f + mloV (rn2 w g m M) c) 0 (w * g))) 201
def rn4 (w g m n : Nat) (M : mM) : mM := itN (rnoB n) (rn3 w g m M) 9
/-- run: the places of the fire and the claims, then what is kept -/
def rnC (n s w g m c T : Nat) (z : qS) (N : mN) : mM × mN := clF n s w g (frF n s w g m c T z) N
abbrev mrnC (M : mM) (w g : Nat) (c u : Int32) : Prop := ((0 ≤ c ∧ c < nI (w * g)) ∧ ¬ M 34 c.toNatClampNeg = 0) ∧ (1 ≤ u ∧ u ≤ 120)
theorem e_X12_run (E : gE) {d : Nat} (hd : 9 ≤ d) {n s w g m : Nat} (c u : Int32) (h : hp_T) (hG : gr h) (M : mM) (N : mN) (R : runI M n s w g m) (W : tW) : ev E mX12_run d [.ref (E.1 + 247), .int c, .int u] (sP h M N W) (some (.int (if mrnC M w g c u then (rn1 w g (rnC n s w g m c.toNatClampNeg u.toNatClampNeg (M, W) N).1).2 else -1))) (if mrnC M w g c u then hm h (rn4 w g m n (rnC n s w g m c.toNatClampNeg u.toNatClampNeg (M, W) N).1) (rnC n s w g m c.toNatClampNeg u.toNatClampNeg (M, W) N).2 else sP h M N W) := by
  refine ev_of rfl (fun q => absurd q (by decide)) (Nat.le_of_ble_eq_true rfl) ?_
  by_cases hP : mrnC M w g c u
  · rw [if_pos hP, if_pos hP]
    have hn : w * g ≤ 120 := Nat.le_trans (Nat.mul_le_mul R.1.2.1.1.2.1 R.1.2.1.1.2.2.2) (by decide)
    have hn2 := R.1.1.2.1
    have hc9 : c = nI c.toNatClampNeg ∧ c.toNatClampNeg < w * g := by
      have h1 := hP.1.1.1
      have h2 := hP.1.1.2
      rw [fa_le, ti_0] at h1
      rw [fa_lt, nI_toInt (by omega)] at h2
      exact ⟨ix_nI h1, ix_lt h1 (by omega)⟩
    have hu9 : u = nI u.toNatClampNeg := ix_nI (by have h1 := hP.2.1; rw [fa_le, ti_1] at h1; omega)
    have hu120 : u.toNatClampNeg ≤ 120 := by
      have h1 := hP.2.1
      have h2 := hP.2.2
      rw [fa_le, ti_1] at h1
      rw [fa_le, ti_120] at h2
      have := ix_lt (c := u) (n := 121) (by omega) (by omega)
      omega
    have g31 : (goF n s w g m c.toNatClampNeg u.toNatClampNeg (M, W)) 31 = M 31 := go_row (by decide) (by decide)
    have hwl : ∀ x, x < 120 → ∃ k, k < 4 ∧ (goF n s w g m c.toNatClampNeg u.toNatClampNeg (M, W)) 31 x = nI k := by rw [g31]; exact R.2.1.1
    have hls : ∀ c2, c2 < w * g → 0 ≤ mloV (goF n s w g m c.toNatClampNeg u.toNatClampNeg (M, W)) c2 := fun c2 hc2 => by
      obtain ⟨l, hl, el⟩ := fr_loss (n := n) (s := s) (w := w) (g := g) (m := m) (c0 := c.toNatClampNeg) (T := u.toNatClampNeg) (z := (M, W)) R hu120 (show c2 < 120 by omega)
      rw [el]
      exact nn_nI (by omega)
    have hsu : ∀ a, 1 ≤ a → a ≤ n → (goF n s w g m c.toNatClampNeg u.toNatClampNeg (M, W)) 47 a = 2 → ∃ v, v < 100000 ∧ (goF n s w g m c.toNatClampNeg u.toNatClampNeg (M, W)) 50 a = nI v := by rw [go_row (by decide) (by decide), go_row (by decide) (by decide)]; exact R.2.2.2.1
    have q0 : ∀ k, k < 70 ∨ 74 < k → (rnC n s w g m c.toNatClampNeg u.toNatClampNeg (M, W) N).1 0 k = M 0 k := fun k hk => (clF_0 (z := (frF n s w g m c.toNatClampNeg u.toNatClampNeg (M, W))) hk).trans (go_0 hk)
    have qr : ∀ r, r ≠ 0 → r < 53 → (rnC n s w g m c.toNatClampNeg u.toNatClampNeg (M, W) N).1 r = M r := fun r h0 hr => (clF_row (z := (frF n s w g m c.toNatClampNeg u.toNatClampNeg (M, W))) h0 (by omega) (by omega) (by omega) (by omega)).trans (go_row (by omega) h0)
    have hC : mcty (rnC n s w g m c.toNatClampNeg u.toNatClampNeg (M, W) N).1 w g := ⟨R.1.2.1.1, (q0 42 (by omega)).trans R.1.2.1.2.1, (q0 43 (by omega)).trans R.1.2.1.2.2⟩
    have hw3 : ∀ x, x < 120 → ∃ k, k < 4 ∧ (rnC n s w g m c.toNatClampNeg u.toNatClampNeg (M, W) N).1 31 x = nI k := by rw [qr 31 (by decide) (by decide)]; exact R.2.1.1
    have hbo : ∀ x, x < 120 → vp_nar .boolean ((rnC n s w g m c.toNatClampNeg u.toNatClampNeg (M, W) N).1 34 x) = (rnC n s w g m c.toNatClampNeg u.toNatClampNeg (M, W) N).1 34 x := by rw [qr 34 (by decide) (by decide)]; exact R.2.2.2.2
    have hme : (rnC n s w g m c.toNatClampNeg u.toNatClampNeg (M, W) N).1 0 54 = nI m := (q0 54 (by omega)).trans R.2.1.2.2.1
    have hm12 : m ≤ 12 := R.2.1.2.2.2.1
    have hb6 : ∀ k, k ≤ 200 → vp_nar .boolean ((rnC n s w g m c.toNatClampNeg u.toNatClampNeg (M, W) N).1 66 k) = (rnC n s w g m c.toNatClampNeg u.toNatClampNeg (M, W) N).1 66 k := fun k hk => by
      rw [show (rnC n s w g m c.toNatClampNeg u.toNatClampNeg (M, W) N).1 66 k = _ from clF_66 (z := (frF n s w g m c.toNatClampNeg u.toNatClampNeg (M, W))) hk]
      exact bI_vn _
    have r1 : ∀ r, r < 68 ∨ 74 < r → (rn1 w g (rnC n s w g m c.toNatClampNeg u.toNatClampNeg (M, W) N).1).1 r = (up2 (up2 (up2 (rnC n s w g m c.toNatClampNeg u.toNatClampNeg (M, W) N).1 0 90 1) 0 91 (nI (w * g))) 0 92 ((rnC n s w g m c.toNatClampNeg u.toNatClampNeg (M, W) N).1 0 54)) r := fun r hr => rnc_row (z := ((up2 (up2 (up2 (rnC n s w g m c.toNatClampNeg u.toNatClampNeg (M, W) N).1 0 90 1) 0 91 (nI (w * g))) 0 92 ((rnC n s w g m c.toNatClampNeg u.toNatClampNeg (M, W) N).1 0 54)), 0)) hr (w * g)
    have r2 : ∀ r, r < 68 ∨ 77 < r → rn2 w g m (rnC n s w g m c.toNatClampNeg u.toNatClampNeg (M, W) N).1 r = (up2 (up2 (up2 (rnC n s w g m c.toNatClampNeg u.toNatClampNeg (M, W) N).1 0 90 1) 0 91 (nI (w * g))) 0 92 ((rnC n s w g m c.toNatClampNeg u.toNatClampNeg (M, W) N).1 0 54)) r := fun r hr => (itN_row (fun z j => rneB_row z j (by omega)) _ m).trans (r1 r (by omega))
    have hN3 : rn3 w g m (rnC n s w g m c.toNatClampNeg u.toNatClampNeg (M, W) N).1 0 62 = nI n := by
      refine (congrFun (itN_row (fun z j => rnaB_row z j (by decide)) _ 201) 62).trans ?_
      show rn2 w g m (rnC n s w g m c.toNatClampNeg u.toNatClampNeg (M, W) N).1 0 62 = nI n
      rw [r2 0 (by omega)]
      exact (q0 62 (by omega)).trans R.1.1.1
    refine gf_aload_n 0 dX12_run_0 rfl rfl ?_
    refine gf_iload_n 1 dX12_run_1 rfl rfl ?_
    refine gf_callV cmX12_hasHouse lkX12_482 imX12_hasHouse seX12_hasHouse ⟨rfl, by decide⟩ dX12_run_2 (d1 := d - 1) (by omega) (gt_247 hG) (e_X12_hasHouse E (by omega) c (sP h M N W) hG (w := w) (g := g) (show mty (hp_i (sP h M N W)) w g from R.1.2.1)) rfl rfl (Nat.le_of_ble_eq_true rfl) ?_
    refine gf_if_eq 20 dX12_run_5 rfl (fun q => absurd q (fun q => zb_0.mp q hP.1)) (fun _ => ?_)
    refine gf_iload_n 2 dX12_run_8 rfl rfl ?_
    refine gf_i2l dX12_run_9 ?_
    refine gf_lconst (1) dX12_run_10 rfl ?_
    refine gf_ldc2 (120) kcX12_445 dX12_run_11 ?_
    refine gf_callS cmX12_isIn lkX12_325 stX12_isIn dX12_run_14 (d1 := d - 1) (by omega) (e_X12_isIn E (by omega) u.toInt64 1 120 _) rfl rfl (Nat.le_of_ble_eq_true rfl) ?_
    refine gf_if_ne 22 dX12_run_17 rfl (fun _ => ?_) (fun q => absurd q (fun q => zb_0.mp q ((isIn_l z64_1 z64_120).mpr hP.2)))
    refine gf_aload_n 0 dX12_run_22 rfl rfl ?_
    refine gf_iload_n 1 dX12_run_23 rfl rfl ?_
    refine gf_iload_n 2 dX12_run_24 rfl rfl ?_
    refine gf_callV cmX12_goes lkX12_611 imX12_goes seX12_goes ⟨rfl, by decide⟩ dX12_run_25 (d1 := d - 1) (by omega) (gt_247 hG) (ev_aE (by rw [← hc9.1, ← hu9]) (e_X12_goes E (by omega) (n := n) (s := s) (w := w) (g := g) (m := m) (c0 := c.toNatClampNeg) (T := u.toNatClampNeg) h hG M N R.1 W R.2.1 hc9.2 hu120)) rfl rfl (Nat.le_of_ble_eq_true rfl) ?_
    rw [go_hm]
    change gf _ _ _ _ _ _ (sP h (frF n s w g m c.toNatClampNeg u.toNatClampNeg (M, W)).1 N (frF n s w g m c.toNatClampNeg u.toNatClampNeg (M, W)).2) _ _
    refine gf_aload_n 0 dX12_run_28 rfl rfl ?_
    refine gf_callV cmX12_claims lkX12_614 imX12_claims seX12_claims ⟨rfl, by decide⟩ dX12_run_29 (d1 := d - 1) (by omega) (gt_247 hG) (e_X12_claims E (by omega) h hG (frF n s w g m c.toNatClampNeg u.toNatClampNeg (M, W)).1 N (n := n) (s := s) (w := w) (g := g) (go_refI (z := (M, W)) R.1) (frF n s w g m c.toNatClampNeg u.toNatClampNeg (M, W)).2 hwl hls (fr_hi0 (go_refI (z := (M, W)) R.1) hsu)) rfl rfl (Nat.le_of_ble_eq_true rfl) ?_
    change gf _ _ _ _ _ _ (hm h (rnC n s w g m c.toNatClampNeg u.toNatClampNeg (M, W) N).1 (rnC n s w g m c.toNatClampNeg u.toNatClampNeg (M, W) N).2) _ _
    refine gf_aload_n 0 dX12_run_32 rfl rfl ?_
    refine gf_iconst (1) dX12_run_33 rfl ?_
    refine gf_putI flX12_430 rfl rfl dX12_run_34 (gt_247 hG) ⟨rfl, rfl⟩ ?_
    rw [mI_0]
    refine gf_aload_n 0 dX12_run_37 rfl rfl ?_
    refine gf_aload_n 0 dX12_run_38 rfl rfl ?_
    refine gf_callV cmX12_cells lkX12_409 imX12_cells seX12_cells ⟨rfl, by decide⟩ dX12_run_39 (d1 := d - 1) (by omega) (gt_247 hG) (e_X12_cells E (by omega) (hm h (up2 (rnC n s w g m c.toNatClampNeg u.toNatClampNeg (M, W) N).1 0 90 1) (rnC n s w g m c.toNatClampNeg u.toNatClampNeg (M, W) N).2) hG) rfl rfl (Nat.le_of_ble_eq_true rfl) ?_
    rw [show hp_i (hm h (up2 (rnC n s w g m c.toNatClampNeg u.toNatClampNeg (M, W) N).1 0 90 1) (rnC n s w g m c.toNatClampNeg u.toNatClampNeg (M, W) N).2) 247 42 * hp_i (hm h (up2 (rnC n s w g m c.toNatClampNeg u.toNatClampNeg (M, W) N).1 0 90 1) (rnC n s w g m c.toNatClampNeg u.toNatClampNeg (M, W) N).2) 247 43 = nI (w * g) from cel_e (M := (rnC n s w g m c.toNatClampNeg u.toNatClampNeg (M, W) N).1) hC]
    refine gf_putI flX12_617 rfl rfl dX12_run_42 (gt_247 hG) ⟨rfl, rfl⟩ ?_
    rw [mI_0]
    refine gf_aload_n 0 dX12_run_45 rfl rfl ?_
    refine gf_aload_n 0 dX12_run_46 rfl rfl ?_
    refine gf_getI flX12_421 rfl dX12_run_47 (gt_247 hG) ?_
    refine gf_putI flX12_620 rfl rfl dX12_run_50 (gt_247 hG) ⟨rfl, rfl⟩ ?_
    rw [mI_0]
    refine gf_iconst (0) dX12_run_53 rfl ?_
    refine gf_istore_n 3 dX12_run_54 rfl (Nat.le_of_ble_eq_true rfl) ?_
    refine gf_iconst (0) dX12_run_55 rfl ?_
    refine gf_istore dX12_run_56 (Nat.le_of_ble_eq_true rfl) ?_
    refine gf_lw (l_rnc E (by omega) (w := w) (g := g) c u h hG (up2 (up2 (up2 (rnC n s w g m c.toNatClampNeg u.toNatClampNeg (M, W) N).1 0 90 1) 0 91 (nI (w * g))) 0 92 ((rnC n s w g m c.toNatClampNeg u.toNatClampNeg (M, W) N).1 0 54)) (rnC n s w g m c.toNatClampNeg u.toNatClampNeg (M, W) N).2 (show mcty (up2 (up2 (up2 (rnC n s w g m c.toNatClampNeg u.toNatClampNeg (M, W) N).1 0 90 1) 0 91 (nI (w * g))) 0 92 ((rnC n s w g m c.toNatClampNeg u.toNatClampNeg (M, W) N).1 0 54)) w g from hC) (show ∀ x, x < 120 → ∃ k, k < 4 ∧ (up2 (up2 (up2 (rnC n s w g m c.toNatClampNeg u.toNatClampNeg (M, W) N).1 0 90 1) 0 91 (nI (w * g))) 0 92 ((rnC n s w g m c.toNatClampNeg u.toNatClampNeg (M, W) N).1 0 54)) 31 x = nI k from hw3) (show ∀ x, x < 120 → vp_nar .boolean ((up2 (up2 (up2 (rnC n s w g m c.toNatClampNeg u.toNatClampNeg (M, W) N).1 0 90 1) 0 91 (nI (w * g))) 0 92 ((rnC n s w g m c.toNatClampNeg u.toNatClampNeg (M, W) N).1 0 54)) 34 x) = (up2 (up2 (up2 (rnC n s w g m c.toNatClampNeg u.toNatClampNeg (M, W) N).1 0 90 1) 0 91 (nI (w * g))) 0 92 ((rnC n s w g m c.toNatClampNeg u.toNatClampNeg (M, W) N).1 0 54)) 34 x from hbo) ?_ (w * g) 0 (by omega)) ⟨rfl, rfl, rfl, rfl, rfl, trivial⟩
    refine gf_iconst (0) dX12_run_183 rfl ?_
    refine gf_istore dX12_run_184 (Nat.le_of_ble_eq_true rfl) ?_
    refine gf_lw (l_rne E (m := m) c u (rn1 w g (rnC n s w g m c.toNatClampNeg u.toNatClampNeg (M, W) N).1).2 h hG (rn1 w g (rnC n s w g m c.toNatClampNeg u.toNatClampNeg (M, W) N).1).1 (rnC n s w g m c.toNatClampNeg u.toNatClampNeg (M, W) N).2 (by rw [r1 0 (by omega)]; exact hme) hm12 ?_ m 0 (by omega)) ⟨rfl, rfl, rfl, rfl, rfl, trivial⟩
    refine gf_aload_n 0 dX12_run_243 rfl rfl ?_
    refine gf_aload_n 0 dX12_run_244 rfl rfl ?_
    refine gf_callV cmX12_lossOfAll lkX12_623 imX12_lossOfAll seX12_lossOfAll ⟨rfl, by decide⟩ dX12_run_245 (d1 := d - 1) (by omega) (gt_247 hG) (e_X12_lossOfAll E (by omega) (w := w) (g := g) h hG (rn2 w g m (rnC n s w g m c.toNatClampNeg u.toNatClampNeg (M, W) N).1) (rnC n s w g m c.toNatClampNeg u.toNatClampNeg (M, W) N).2 (show mcty (rn2 w g m (rnC n s w g m c.toNatClampNeg u.toNatClampNeg (M, W) N).1) w g by unfold mcty; rw [r2 0 (by omega)]; exact hC) (show ∀ x, x < 120 → ∃ k, k < 4 ∧ (rn2 w g m (rnC n s w g m c.toNatClampNeg u.toNatClampNeg (M, W) N).1) 31 x = nI k by rw [r2 31 (by omega)]; exact hw3)) rfl rfl (Nat.le_of_ble_eq_true rfl) ?_
    refine gf_putI flX12_626 rfl rfl dX12_run_248 (gt_247 hG) ⟨rfl, rfl⟩ ?_
    rw [mI_0]
    refine gf_iconst (0) dX12_run_251 rfl ?_
    refine gf_istore dX12_run_252 (Nat.le_of_ble_eq_true rfl) ?_
    refine gf_lw (l_rna E c u (rn1 w g (rnC n s w g m c.toNatClampNeg u.toNatClampNeg (M, W) N).1).2 h hG (up2 (rn2 w g m (rnC n s w g m c.toNatClampNeg u.toNatClampNeg (M, W) N).1) 0 103 (itN (fun f x => f + mloV (rn2 w g m (rnC n s w g m c.toNatClampNeg u.toNatClampNeg (M, W) N).1) x) 0 (w * g))) (rnC n s w g m c.toNatClampNeg u.toNatClampNeg (M, W) N).2 (show ∀ k, k ≤ 200 → vp_nar .boolean ((up2 (rn2 w g m (rnC n s w g m c.toNatClampNeg u.toNatClampNeg (M, W) N).1) 0 103 (itN (fun f x => f + mloV (rn2 w g m (rnC n s w g m c.toNatClampNeg u.toNatClampNeg (M, W) N).1) x) 0 (w * g))) 66 k) = (up2 (rn2 w g m (rnC n s w g m c.toNatClampNeg u.toNatClampNeg (M, W) N).1) 0 103 (itN (fun f x => f + mloV (rn2 w g m (rnC n s w g m c.toNatClampNeg u.toNatClampNeg (M, W) N).1) x) 0 (w * g))) 66 k from by rw [show (up2 (rn2 w g m (rnC n s w g m c.toNatClampNeg u.toNatClampNeg (M, W) N).1) 0 103 (itN (fun f x => f + mloV (rn2 w g m (rnC n s w g m c.toNatClampNeg u.toNatClampNeg (M, W) N).1) x) 0 (w * g))) 66 = rn2 w g m (rnC n s w g m c.toNatClampNeg u.toNatClampNeg (M, W) N).1 66 from rfl, r2 66 (by omega)]; exact hb6) ?_ 201 0 (by omega)) ⟨rfl, rfl, rfl, rfl, rfl, trivial⟩
    refine gf_iconst (0) dX12_run_310 rfl ?_
    refine gf_istore dX12_run_311 (Nat.le_of_ble_eq_true rfl) ?_
    refine gf_lw (l_rno E (by omega) (n := n) c u (rn1 w g (rnC n s w g m c.toNatClampNeg u.toNatClampNeg (M, W) N).1).2 h hG (rn3 w g m (rnC n s w g m c.toNatClampNeg u.toNatClampNeg (M, W) N).1) (rnC n s w g m c.toNatClampNeg u.toNatClampNeg (M, W) N).2 hN3 hn2 ?_ 9 0 (by omega)) ⟨rfl, rfl, rfl, rfl, rfl, trivial⟩
    refine gf_iload_n 3 dX12_run_339 rfl rfl ?_
    exact gf_iretE dX12_run_340 rfl (rfl) (rfl)
  · rw [if_neg hP, if_neg hP]
    refine gf_aload_n 0 dX12_run_0 rfl rfl ?_
    refine gf_iload_n 1 dX12_run_1 rfl rfl ?_
    refine gf_callV cmX12_hasHouse lkX12_482 imX12_hasHouse seX12_hasHouse ⟨rfl, by decide⟩ dX12_run_2 (d1 := d - 1) (by omega) (gt_247 hG) (e_X12_hasHouse E (by omega) c (sP h M N W) hG (w := w) (g := g) (show mty (hp_i (sP h M N W)) w g from R.1.2.1)) rfl rfl (Nat.le_of_ble_eq_true rfl) ?_
    refine gf_if_eq 20 dX12_run_5 rfl (fun zc5 => ?_) (fun zc5 => ?_)
    · refine gf_iconst (-1) dX12_run_20 rfl ?_
      exact gf_iretE dX12_run_21 rfl (rfl) (rfl)
    · refine gf_iload_n 2 dX12_run_8 rfl rfl ?_
      refine gf_i2l dX12_run_9 ?_
      refine gf_lconst (1) dX12_run_10 rfl ?_
      refine gf_ldc2 (120) kcX12_445 dX12_run_11 ?_
      refine gf_callS cmX12_isIn lkX12_325 stX12_isIn dX12_run_14 (d1 := d - 1) (by omega) (e_X12_isIn E (by omega) u.toInt64 1 120 _) rfl rfl (Nat.le_of_ble_eq_true rfl) ?_
      refine gf_if_ne 22 dX12_run_17 rfl (fun zc17 => ?_) (fun zc17 => ?_)
      · exact absurd ⟨zb_1.mp zc5, (isIn_l z64_1 z64_120).mp (zb_1.mp zc17)⟩ hP
      · refine gf_iconst (-1) dX12_run_20 rfl ?_
        exact gf_iretE dX12_run_21 rfl (rfl) (rfl)
