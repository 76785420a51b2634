/-! ===== the reference: what a fire and the claims leave as it was; bounds ===== -/
theorem refI_of {M Z : mM} {n s w g : Nat} (h0 : ∀ k, k = 42 ∨ k = 43 ∨ k = 62 ∨ k = 68 → Z 0 k = M 0 k) (hr : ∀ r, 25 ≤ r ∧ r ≤ 29 ∨ 47 ≤ r ∧ r ≤ 51 → Z r = M r) (I : refI M n s w g) : refI Z n s w g := by
  unfold refI macI mcty mtI
  rw [h0 42 (by omega), h0 43 (by omega), h0 62 (by omega), h0 68 (by omega), hr 25 (by omega), hr 26 (by omega), hr 27 (by omega), hr 28 (by omega), hr 29 (by omega), hr 47 (by omega), hr 48 (by omega), hr 49 (by omega)]
  exact I
theorem gop_row {c0 m : Nat} {z : qS} {r : Nat} (h0 : r ≠ 0) (h3 : r ≠ 53) (h5 : r ≠ 55) (h7 : r ≠ 57) (g0 : r ≠ 60) (g1 : r ≠ 61) (g2 : r ≠ 62) : gopK c0 m (goM z) r = z.1 r := (itN_row (fun z j => goeB_row z j g0 g1 g2) _ m).trans ((up2_row h7).trans ((up2_row h5).trans ((up2_row h3).trans (up2_row h0))))
theorem gop_0 {c0 m : Nat} {z : qS} {k : Nat} (h : k ≠ 70) : gopK c0 m (goM z) 0 k = z.1 0 k := (congrFun (itN_row (fun z j => goeB_row z j (by decide) (by decide) (by decide)) _ m) k).trans (up2_k z.1 _ h)
theorem god_row {w g t m : Nat} {M : mM} {r : Nat} (h3 : r ≠ 53) (h4 : r ≠ 54) (h5 : r ≠ 55) (h2 : r ≠ 62) (h0 : r ≠ 60) (h1 : r ≠ 61) : itN (godB w g t) M m r = M r := itN_row (fun z j => mdr_row w g j (nI t) z h3 h4 h5 h2 h0 h1) M m
theorem gom_row {w g m T : Nat} {M : mM} {r : Nat} (h3 : r ≠ 53) (h4 : r ≠ 54) (h5 : r ≠ 55) (h6 : r ≠ 56) (h7 : r ≠ 57) (h8 : r ≠ 58) (g0 : r ≠ 60) (g1 : r ≠ 61) (g2 : r ≠ 62) : itN (gomB w g m) M T r = M r := itN_row (fun z j => by
  unfold gomB
  split
  · rw [mspr_row _ _ _ _ h3 h4 h5 h7 h8, mgr_row z h3 h5 h6]
  · rw [god_row h3 h4 h5 g2 g0 g1, mspr_row _ _ _ _ h3 h4 h5 h7 h8, mgr_row z h3 h5 h6]) M T
theorem go_row {n s w g m c0 T : Nat} {z : qS} {r : Nat} (h : r < 53 ∨ 62 < r) (h0 : r ≠ 0) : goF n s w g m c0 T z r = z.1 r := by
  unfold goF
  rw [gom_row (by omega) (by omega) (by omega) (by omega) (by omega) (by omega) (by omega) (by omega) (by omega), gop_row h0 (by omega) (by omega) (by omega) (by omega) (by omega) (by omega)]
  exact gol_row h0 (by omega) (by omega) (by omega) (by omega) (by omega) (by omega) 120
theorem go_0 {n s w g m c0 T : Nat} {z : qS} {k : Nat} (h : k < 70 ∨ 74 < k) : goF n s w g m c0 T z 0 k = z.1 0 k := by
  unfold goF
  rw [gom_row (by decide) (by decide) (by decide) (by decide) (by decide) (by decide) (by decide) (by decide) (by decide), gop_0 (by omega)]
  exact gol_0 (by omega) (by omega) (by omega) (by omega) 120
theorem go_70 {n s w g m c0 T : Nat} {z : qS} : goF n s w g m c0 T z 0 70 = nI (goZ n s w g z).2.1 := by
  unfold goF
  rw [gom_row (by decide) (by decide) (by decide) (by decide) (by decide) (by decide) (by decide) (by decide) (by decide)]
  refine (congrFun (itN_row (fun z j => goeB_row z j (by decide) (by decide) (by decide)) _ m) 70).trans ?_
  exact up2_s (goZ n s w g z).1 0 70 _
theorem go_refI {n s w g m c0 T : Nat} {z : qS} (I : refI z.1 n s w g) : refI (goF n s w g m c0 T z) n s w g := refI_of (fun k hk => go_0 (by omega)) (fun r hr => go_row (by omega) (by omega)) I
theorem go_hm (h : hp_T) (N : mN) {n s w g m c0 T : Nat} {z : qS} : hm h (goF n s w g m c0 T z) (goN N (goZ n s w g z)) = sP h (goF n s w g m c0 T z) N (goZ n s w g z).2 := by
  unfold sP goN
  refine congrArg (fun x => hm h x _) ?_
  funext x i
  unfold up2
  split
  · rename_i q
    rw [q.1, q.2, go_70]
  · rfl
/-- burning minutes -/
theorem mgr_56 (z : mM) (c : Nat) : ∀ n, itN mgrB z n 56 c = z 56 c ∨ (c < n ∧ itN mgrB z n 56 c = z 56 c + 1)
  | 0 => Or.inl rfl
  | n + 1 => by
    have ih := mgr_56 z c n
    rw [itN_s]
    generalize itN mgrB z n = y at ih ⊢
    have h2 : mgrB y n 56 c = y 56 c ∨ (c = n ∧ mgrB y n 56 c = y 56 c + 1) := by
      by_cases q : c = n
      · subst q
        unfold mgrB mgrF
        repeat' split
        all_goals first | exact Or.inl rfl | exact Or.inr ⟨rfl, up2_s _ 56 c _⟩
      · refine Or.inl ?_
        unfold mgrB mgrF
        repeat' split
        all_goals first | rfl | exact (up2_k _ _ q).trans rfl | (rw [up2_row (by decide), up2_row (by decide)]; exact (up2_k _ _ q).trans rfl)
    rcases h2 with e | ⟨e0, e⟩
    · rw [e]
      rcases ih with q | ⟨q1, q⟩
      · exact Or.inl q
      · exact Or.inr ⟨by omega, q⟩
    · rw [e]
      rcases ih with q | ⟨q1, q⟩
      · exact Or.inr ⟨by omega, by rw [q]⟩
      · omega
theorem bur_I {w g m : Nat} {M : mM} {c : Nat} (h0 : M 56 c = nI 0) : ∀ T, ∃ b, b ≤ T ∧ itN (gomB w g m) M T 56 c = nI b
  | 0 => ⟨0, Nat.le_refl _, h0⟩
  | T + 1 => by
    obtain ⟨b, hb, e⟩ := bur_I h0 T
    rw [itN_s]
    generalize itN (gomB w g m) M T = y at e ⊢
    have h2 : gomB w g m y T 56 = itN mgrB y (w * g) 56 := by
      unfold gomB
      split
      · rw [mspr_row _ _ _ _ (by decide) (by decide) (by decide) (by decide) (by decide)]
      · rw [god_row (by decide) (by decide) (by decide) (by decide) (by decide) (by decide), mspr_row _ _ _ _ (by decide) (by decide) (by decide) (by decide) (by decide)]
    rw [h2]
    rcases mgr_56 y c (w * g) with q | ⟨-, q⟩
    · exact ⟨b, by omega, q.trans e⟩
    · exact ⟨b + 1, by omega, by rw [q, e, nI_1]⟩
theorem gol_56 {n s w g : Nat} {z : qS} {c : Nat} : ∀ j, c < j → (itN (golB n s w g) z j).1 56 c = 0
  | 0, h => absurd h (Nat.not_lt_zero c)
  | j + 1, h => by
    show (golB n s w g (itN (golB n s w g) z j) j).1 56 c = 0
    have ih : c < j → (itN (golB n s w g) z j).1 56 c = 0 := gol_56 j
    generalize itN (golB n s w g) z j = y at ih ⊢
    have e : (golB n s w g y j).1 56 c = up2 y.1 56 j 0 56 c := by
      unfold golB
      split
      · rfl
      · dsimp only
        rw [up2_row (show 56 ≠ 59 by decide), hep_row (by decide)]
        rfl
    rw [e]
    by_cases q : c = j
    · rw [q]; exact up2_s y.1 56 j 0
    · rw [up2_k y.1 0 q]; exact ih (by omega)
theorem go_56 {n s w g m c0 T : Nat} {z : qS} {c : Nat} (hc : c < 120) : ∃ b, b ≤ T ∧ goF n s w g m c0 T z 56 c = nI b := by
  unfold goF
  refine bur_I ?_ T
  rw [gop_row (by decide) (by decide) (by decide) (by decide) (by decide) (by decide) (by decide)]
  exact gol_56 120 hc
theorem fu_b {k : Nat} (hk : k < 4) : ∃ f, 15 ≤ f ∧ f ≤ 60 ∧ (gf_sc 3).getD k 0 = nI f := by
  rcases (show k = 0 ∨ k = 1 ∨ k = 2 ∨ k = 3 by omega) with rfl | rfl | rfl | rfl
  · exact ⟨15, by omega, by omega, rfl⟩
  · exact ⟨25, by omega, by omega, rfl⟩
  · exact ⟨40, by omega, by omega, rfl⟩
  · exact ⟨60, by omega, by omega, rfl⟩
theorem div_b {a b f : Nat} (ha : a < 10000) (hb : b ≤ 120) (hf : 15 ≤ f) : a * b / f ≤ 80000 := by
  have h1 : a * b ≤ 9999 * 120 := Nat.mul_le_mul (by omega) hb
  have h2 : a * b / f ≤ a * b / 15 := Nat.div_le_div_left hf (by omega)
  omega
theorem mlo_b {M : mM} {c : Nat} (h1 : ∃ k, k < 4 ∧ M 31 c = nI k) (h3 : ∃ k, k < 10000 ∧ M 33 c = nI k) (h6 : ∃ b, b ≤ 120 ∧ M 56 c = nI b) : ∃ l, l ≤ 80000 ∧ mloV M c = nI l := by
  unfold mloV
  split
  · exact ⟨0, by omega, rfl⟩
  · obtain ⟨k, hk, ek⟩ := h1
    obtain ⟨a, ha, ea⟩ := h3
    obtain ⟨b, hb, eb⟩ := h6
    obtain ⟨f, hf, hf2, ef⟩ := fu_b hk
    have hm1 : a * b ≤ 9999 * 120 := Nat.mul_le_mul (by omega) hb
    refine ⟨a * b / f, div_b ha hb hf, ?_⟩
    unfold fuW
    rw [ek, ea, eb, nI_clamp (show k < 2 ^ 31 by omega), ef, pk_mul, pk_div (by omega) (by omega) (by omega)]
/-- what is asked for a policy lies between 0 and its sum -/
theorem toI_of {x : Int64} {v : Nat} (h1 : 0 ≤ x.toInt) (h2 : x.toInt < v) (hv : v ≤ 100000) : ∃ q, q < v ∧ x.toInt32 = nI q := by
  refine ⟨x.toInt.toNat, by omega, ?_⟩
  apply Int32.toInt_inj.mp
  rw [ti_nI (by omega), Int64.toInt_toInt32, Int.bmod_eq_of_le (by show -(4294967296 / 2) ≤ x.toInt; omega) (by show x.toInt < (4294967296 + 1) / 2; omega)]
  omega
theorem mas_b {n s w g k : Nat} {M : mM} {W : tW} (hv : ∃ v, v < 100000 ∧ M 50 k = nI v) : ∃ v, v < 100000 ∧ (masS n s w g k M W).1 = nI v := by
  obtain ⟨v, hv, ev⟩ := hv
  have e50 : mas1 n s k M 50 k = nI v := (congrFun (ask_row (by decide)) k).trans ev
  have z32 : Int32.toInt64 (nI v) = Int64.ofInt v := by
    apply Int64.toInt_inj.mp
    rw [Int32.toInt_toInt64, ti_nI (by omega), Int64.toInt_ofInt, Int.bmod_eq_of_le (by show -(18446744073709551616 / 2) ≤ (v : Int); omega) (by show (v : Int) < (18446744073709551616 + 1) / 2; omega)]
  have es : (Int32.toInt64 (nI v)).toInt = (v : Int) := by rw [Int32.toInt_toInt64, ti_nI (by omega)]
  have key : ∀ x : Int64, 0 ≤ x.toInt → ∃ q, q < 100000 ∧ (if 0 ≤ lg_cmp x (Int32.toInt64 (nI v)) then Int64.toInt32 (Int32.toInt64 (nI v)) else Int64.toInt32 x) = nI q := by
    intro x hx
    by_cases q : 0 ≤ lg_cmp x (Int32.toInt64 (nI v))
    · rw [if_pos q]
      obtain ⟨y, hy, ey⟩ := toI_of (x := Int32.toInt64 (nI v)) (v := v + 1) (by rw [es]; omega) (by rw [es]; omega) (by omega)
      exact ⟨y, by omega, ey⟩
    · rw [if_neg q]
      have h := lt_of_lgg q
      rw [fa_lt64, es] at h
      obtain ⟨y, hy, ey⟩ := toI_of (x := x) (v := v) hx h (by omega)
      exact ⟨y, by omega, ey⟩
  have p0 : (0 : Int64).toInt = 0 := by decide
  have pos : ∀ x : Int64, 0 ≤ lg_cmp x 0 → 0 ≤ x.toInt := fun x h => by
    have h2 := nlt_of_lgg h
    rw [fa_lt64, p0] at h2
    omega
  have k2 : ∀ (x : Int64) (S : qS), ∃ q, q < 100000 ∧ (if 0 ≤ lg_cmp x 0 then (if 0 ≤ lg_cmp x (Int32.toInt64 (nI v)) then (Int64.toInt32 (Int32.toInt64 (nI v)), S) else (Int64.toInt32 x, S)) else (if 0 ≤ lg_cmp 0 (Int32.toInt64 (nI v)) then (Int64.toInt32 (Int32.toInt64 (nI v)), S) else (Int64.toInt32 0, S))).1 = nI q := by
    intro x S
    by_cases q1 : 0 ≤ lg_cmp x 0
    · rw [if_pos q1]
      obtain ⟨y, hy, ey⟩ := key x (pos _ q1)
      refine ⟨y, hy, Eq.trans ?_ ey⟩
      split <;> rfl
    · rw [if_neg q1]
      obtain ⟨y, hy, ey⟩ := key 0 (by decide)
      refine ⟨y, hy, Eq.trans ?_ ey⟩
      split <;> rfl
  unfold masS
  simp only [e50]
  split
  · exact ⟨0, by omega, rfl⟩
  · split
    · exact ⟨0, by omega, rfl⟩
    · split
      · split
        · exact ⟨0, by omega, rfl⟩
        · split
          · exact k2 _ _
          · exact k2 _ _
      · exact ⟨0, by omega, rfl⟩
theorem clm_63 {n s w g : Nat} {z : qS} (I : refI z.1 n s w g) (hs : ∀ a, 1 ≤ a → a ≤ n → z.1 47 a = 2 → ∃ v, v < 100000 ∧ z.1 50 a = nI v) {k : Nat} (hk9 : k < 1000) : ∀ j, k < j → ∃ v, v < 100000 ∧ (itN (clmB n s w g) z j).1 63 k = nI v
  | 0, h => absurd h (Nat.not_lt_zero k)
  | j + 1, h => by
    show ∃ v, v < 100000 ∧ (clmB n s w g (itN (clmB n s w g) z j) j).1 63 k = nI v
    have ih := clm_63 I hs (k := k) hk9 j
    have r47 := clm_row (n := n) (s := s) (w := w) (g := g) (z := z) (r := 47) (by decide) (by decide) (by decide) (by decide) (by decide) j
    have r50 := clm_row (n := n) (s := s) (w := w) (g := g) (z := z) (r := 50) (by decide) (by decide) (by decide) (by decide) (by decide) j
    have Iy := clm_I (M := z.1) (W := z.2) I j
    change refI (itN (clmB n s w g) z j).1 n s w g at Iy
    generalize itN (clmB n s w g) z j = y at ih r47 r50 Iy ⊢
    by_cases q : k = j
    · subst q
      unfold clmB
      split
      · exact ⟨0, by omega, up2_s (up2 (up2 y.1 66 k _) 64 k 0) 63 k 0⟩
      · rename_i q
        have hp := poQ_ix (of_decide_eq_true (bI_t q)) Iy.1.2.1
        obtain ⟨v, hv, ev⟩ := mas_b (n := n) (s := s) (w := w) (g := g) (k := k) (M := up2 (up2 (up2 y.1 66 k (bI (decide (poQ y.1 n s (nI k))))) 64 k 0) 63 k 0) (W := y.2) (by
          show ∃ v, v < 100000 ∧ y.1 50 k = nI v
          rw [r50]
          have e : (nI k).toNatClampNeg = k := nI_clamp (by omega)
          rw [e] at hp
          exact hs k hp.2.1 hp.2.2.1 (by rw [← r47]; exact hp.2.2.2.1))
        refine ⟨v, hv, ?_⟩
        dsimp only
        rw [up2_row (show 63 ≠ 65 by decide), up2_s]
        exact ev
    · have e : (clmB n s w g y j).1 63 k = y.1 63 k := by
        unfold clmB
        split
        · exact up2_k (up2 (up2 y.1 66 j _) 64 j 0) 0 q
        · dsimp only
          rw [up2_row (show 63 ≠ 65 by decide), up2_k _ _ q, mas_row (by decide)]
          exact up2_k (up2 (up2 y.1 66 j _) 64 j 0) 0 q
      rw [e]
      exact ih (by omega)
/-- in a row: what is left lies between 0 and what was there -/
theorem inr_b {c how : Int32} {n x : Nat} {Z : mM} (hx : x < 2147483648) (ha : ∀ k, k ≤ n → ∃ v, v < 100000 ∧ Z 63 k = nI v) : ∀ j, j ≤ n → ∃ y, y ≤ x ∧ (itN (inrB c how) (Z, nI x) j).2 = nI y
  | 0, _ => ⟨x, Nat.le_refl _, rfl⟩
  | j + 1, hj => by
    obtain ⟨y, hy, e⟩ := inr_b hx ha j (by omega)
    have r63 : (itN (inrB c how) (Z, nI x) j).1 63 = Z 63 := inr_row (by decide) j
    rw [itN_s]
    generalize itN (inrB c how) (Z, nI x) j = z at e r63 ⊢
    obtain ⟨v, hv, ev⟩ := ha (j + 1) hj
    have e64 : ∀ u, up2 z.1 64 (j + 1) u 64 (j + 1) = u := fun u => up2_s z.1 64 (j + 1) u
    unfold inrB
    repeat' split
    all_goals first
      | exact ⟨y, hy, e⟩
      | (refine ⟨0, Nat.zero_le _, ?_⟩; show z.2 - up2 z.1 64 (j + 1) z.2 64 (j + 1) = nI 0; rw [e64, e]; exact (pk_sub (Nat.le_refl y)).trans (by rw [Nat.sub_self]))
      | (rename_i q; refine ⟨y - v, by omega, ?_⟩; show z.2 - up2 z.1 64 (j + 1) (z.1 63 (j + 1)) 64 (j + 1) = nI (y - v); rw [r63, ev, e] at q; rw [e64, r63, ev, e]; exact pk_sub (by rcases Nat.lt_or_ge v y with w9 | w9; exact Nat.le_of_lt w9; exact absurd (nI_le w9 (by omega)) q))
