/-! ===== class against reference: all claims ===== -/
theorem ca_all {h h1 : hp_T} {M M1 X : mM} {w g n s p : Nat} {L9 : Nat → Int32} {Z : cS} {Y : mM × mN} (R : rC (hp_i h) M w g) (Bd : bC M) (A : rA (hp_i h) M w g n) (hs : s ≤ n) (B : rT h M n) (hF : ∀ x, x < 165 → hp_i h1 x = hp_i h x) (hS : samT h h1) (C1 : cl1 M M1 n s w g) (hp : p = pn h s) (hL9 : ∀ c, c < w * g → L9 c = mloV M c) (h56 : ∀ c, c < 120 → ∃ b, b ≤ 120 ∧ M 56 c = nI b) (I : caI M M1 X n s 0 Z Y (kn h s)) : ∀ c, c ≤ w * g → caI M M1 X n s c (itN (saB h1 w g p L9) Z c) (itN (clsB n) Y c) (kn h s) := by
  have hcy := cty_n R.1
  intro c
  induction c with
  | zero => exact fun _ => I
  | succ c ih =>
    intro hc
    exact ca_cell R Bd A hs B hF hS C1 hp (by omega) (hL9 c (by omega)) (h56 c (by omega)) (ih (by omega))
/-- no policy lies beyond the city -/
theorem ca_far {h : hp_T} {M : mM} {w g n s c : Nat} {S : kS} (R : rC (hp_i h) M w g) (A : rA (hp_i h) M w g n) (hs : s ≤ n) (hc : w * g ≤ c) (hc2 : c < 120) (J : kJ S (kn h s)) : S.1 4 c = 0 := by
  have hcy := cty_n R.1
  have hn := A.1.2.2
  have hkg := gk_P (R := hp_r h 162) A hs hcy.2 (kS0 h) s (Nat.le_refl _)
  have h0 : ∀ k, k ≤ s → fa_cnt (mpB M s (nI c)) k = 0 := by
    intro k
    induction k with
    | zero => exact fun _ => rfl
    | succ k ih =>
      intro hk
      refine (fa_cnt_no (Bool.eq_false_iff.mpr (fun q => ?_))).trans (ih (by omega))
      obtain ⟨c1, c2⟩ := Bool.and_eq_true_iff.mp q
      obtain ⟨c', hc', e49⟩ := (knA_at A (show knA M n s (k + 1) from ⟨⟨by omega, by omega⟩, of_decide_eq_true c1⟩)).1
      have e := of_decide_eq_true c2
      rw [e49] at e
      have := nI_inj (by omega) (by omega) e
      omega
  rw [J.1 4 (by decide)]
  refine (hkg.1 c hc2).trans ?_
  rw [h0 s (Nat.le_refl _)]
  rfl
theorem ca_end {h h1 : hp_T} {M : mM} {w g n s p : Nat} {L9 : Nat → Int32} {Z : cS} (R : rC (hp_i h) M w g) (A : rA (hp_i h) M w g n) (hs : s ≤ n) (J : kJ (itN (saB h1 w g p L9) Z (w * g)).2 (kn h s)) : itN (saB h1 w g p L9) Z 120 = itN (saB h1 w g p L9) Z (w * g) := by
  have hcy := cty_n R.1
  have go : ∀ d, w * g + d ≤ 120 → itN (saB h1 w g p L9) Z (w * g + d) = itN (saB h1 w g p L9) Z (w * g) := by
    intro d
    induction d with
    | zero => exact fun _ => rfl
    | succ d ih =>
      intro hd
      rw [← Nat.add_assoc, itN_s, ih (by omega)]
      exact if_neg (fun y => by rw [ca_far R A hs (show w * g ≤ w * g + d by omega) (by omega) J] at y; exact absurd y.1 (by decide))
  have h1 := go (120 - w * g) (by omega)
  rw [show w * g + (120 - w * g) = 120 by omega] at h1
  exact h1
theorem zr_at {X : mM} : ∀ k, (∀ r, r ≠ 1 → r ≠ 2 → r ≠ 3 → itN zrB X k r = X r) ∧ ∀ r, r = 1 ∨ r = 2 ∨ r = 3 → ∀ a, itN zrB X k r a = if a < k then 0 else X r a
  | 0 => ⟨fun _ _ _ _ => rfl, fun r _ a => (if_neg (Nat.not_lt_zero a)).symm⟩
  | k + 1 => by
    obtain ⟨i1, i2⟩ := zr_at (X := X) k
    rw [itN_s]
    generalize itN zrB X k = Z at i1 i2 ⊢
    unfold zrB
    refine ⟨fun r h1 h2 h3 => ?_, fun r hr a => ?_⟩
    · rw [up2_row h3, up2_row h2, up2_row h1]
      exact i1 r h1 h2 h3
    · by_cases e : a = k
      · subst e
        rw [if_pos (Nat.lt_succ_self a)]
        rcases hr with q | q | q
        · subst q
          rw [up2_row (show 1 ≠ 3 by decide), up2_row (show 1 ≠ 2 by decide), up2_s]
        · subst q
          rw [up2_row (show 2 ≠ 3 by decide), up2_s]
        · subst q
          exact up2_s _ _ _ _
      · rw [up2_k _ _ e, up2_k _ _ e, up2_k _ _ e, i2 r hr a]
        by_cases q : a < k
        · exact (if_pos q).trans (if_pos (by omega)).symm
        · exact (if_neg q).trans (if_neg (by omega)).symm
theorem ws_at {M X : mM} {s : Nat} : ∀ k, (∀ r, r ≠ 1 → itN (fun z k => if pcB M s k = true then up2 z 1 (k + 1) 1 else z) X k r = X r) ∧ ∀ a, itN (fun z k => if pcB M s k = true then up2 z 1 (k + 1) 1 else z) X k 1 a = if 1 ≤ a ∧ a ≤ k ∧ pcB M s (a - 1) = true then 1 else X 1 a
  | 0 => ⟨fun _ _ => rfl, fun a => (if_neg (fun z => by have := z.1; have := z.2.1; omega)).symm⟩
  | k + 1 => by
    obtain ⟨i1, i2⟩ := ws_at (M := M) (X := X) (s := s) k
    rw [itN_s]
    generalize itN (fun z k => if pcB M s k = true then up2 z 1 (k + 1) 1 else z) X k = Z at i1 i2 ⊢
    by_cases hp : pcB M s k = true
    · rw [if_pos hp]
      refine ⟨fun r hr => (up2_row hr).trans (i1 r hr), fun a => ?_⟩
      by_cases e : a = k + 1
      · subst e
        rw [up2_s]
        exact (if_pos ⟨by omega, Nat.le_refl _, hp⟩).symm
      · rw [up2_k _ _ e, i2 a]
        by_cases q : 1 ≤ a ∧ a ≤ k ∧ pcB M s (a - 1) = true
        · exact (if_pos q).trans (if_pos ⟨q.1, by omega, q.2.2⟩).symm
        · exact (if_neg q).trans (if_neg (fun z => q ⟨z.1, by have := z.2.1; omega, z.2.2⟩)).symm
    · rw [if_neg hp]
      refine ⟨i1, fun a => ?_⟩
      rw [i2 a]
      by_cases q : 1 ≤ a ∧ a ≤ k ∧ pcB M s (a - 1) = true
      · exact (if_pos q).trans (if_pos ⟨q.1, by omega, q.2.2⟩).symm
      · refine (if_neg q).trans (if_neg (fun z => ?_)).symm
        by_cases e : a = k + 1
        · subst e; exact hp z.2.2
        · exact q ⟨z.1, by have := z.2.1; omega, z.2.2⟩
/-- the class's places as the claims begin -/
theorem sa_0 {h : hp_T} {M M1 X : mM} {w g n s : Nat} {S : kS} (R : rC (hp_i h) M w g) (A : rA (hp_i h) M w g n) (hs : s ≤ n) (C1 : cl1 M M1 n s w g) (J : kJ S (kn h s)) : (∀ a, a < 201 → saX S (pn h s) X 1 a = M1 66 a) ∧ (∀ a, a < 201 → saX S (pn h s) X 2 a = 0) ∧ (∀ a, a < 201 → saX S (pn h s) X 3 a = 0) ∧ ∀ o, o < 9 → saX S (pn h s) X 4 o = 0 := by
  have hn := A.1.2.2
  obtain ⟨p0, p1, p2⟩ := pn_cnt R A hs
  have hle := fa_cnt_le (pcB M s) s
  have e : saX S (pn h s) X = itN (fun z k => if pcB M s k = true then up2 z 1 (k + 1) 1 else z) (itN zrB (upr X 4 (fa_fill (fun _ => 0) (X 4) 9)) 201) s := by
    unfold saX
    have h1 : itN (wsB S) (itN zrB (upr X 4 (fa_fill (fun _ => 0) (X 4) 9)) 201) (pn h s) = itN (fun z i => up2 z 1 (pL (kn h s) i + 1) 1) (itN zrB (upr X 4 (fa_fill (fun _ => 0) (X 4) 9)) 201) (pn h s) := itN_ext _ (fun i hi z => by
      obtain ⟨b1, -, -⟩ := flt_at (L := pL (kn h s)) s p1 i (by omega)
      unfold wsB
      rw [J.1 2 (by decide), p2 i hi, nI_clamp (by omega)])
    rw [h1, p0]
    exact it_flt (fun z k => up2 z 1 (k + 1) 1) _ s p1
  obtain ⟨w1, w2⟩ := ws_at (M := M) (X := itN zrB (upr X 4 (fa_fill (fun _ => 0) (X 4) 9)) 201) (s := s) s
  obtain ⟨z1, z2⟩ := zr_at (X := upr X 4 (fa_fill (fun _ => 0) (X 4) 9)) 201
  rw [e]
  refine ⟨fun a ha => ?_, fun a ha => ?_, fun a ha => ?_, fun o ho => ?_⟩
  · rw [w2 a, z2 1 (Or.inl rfl) a]
    by_cases K : knA M n s a
    · have ha1 : a - 1 + 1 = a := by have := K.1.1; omega
      rw [((C1.2.2 a ha).2 K).1]
      exact if_pos ⟨K.1.1, K.2.2.1, by unfold pcB; rw [ha1]; exact decide_eq_true K.2⟩
    · rw [((C1.2.2 a ha).1 K).1]
      refine (if_neg (fun z => ?_)).trans (if_pos ha)
      have ha1 : a - 1 + 1 = a := by have := z.1; omega
      have h2 := z.2.2
      unfold pcB at h2
      rw [ha1] at h2
      exact K ⟨⟨z.1, by have := z.2.1; omega⟩, of_decide_eq_true h2⟩
  · rw [w1 2 (by decide), z2 2 (Or.inr (Or.inl rfl)) a]
    exact if_pos ha
  · rw [w1 3 (by decide), z2 3 (Or.inr (Or.inr rfl)) a]
    exact if_pos ha
  · rw [w1 4 (by decide), z1 4 (by decide) (by decide) (by decide)]
    show (if (4 : Nat) = 4 then fa_fill (fun _ => 0) (X 4) 9 else X 4) o = 0
    rw [if_pos rfl]
    exact fa_fill_in ho
/-- what is settled for the offices -/
theorem bo_at {h h1 : hp_T} {M M1 X : mM} {w g n s : Nat} {S : kS} (R : rC (hp_i h) M w g) (A : rA (hp_i h) M w g n) (hs : s ≤ n) (h159 : hp_i h1 159 = hp_i h 159) (h66 : ∀ a, a < 201 → (knA M n s a → M1 66 a = 1) ∧ (¬ knA M n s a → M1 66 a = 0)) (h48 : M1 48 = M 48) (h64 : ∀ a, a < 201 → X 3 a = M1 64 a) (h0 : ∀ o, o < 9 → X 4 o = 0) (J : kJ S (kn h s)) : (∀ r, r ≠ 4 → itN (boB h1 S) X (pn h s) r = X r) ∧ ∀ o, o < 9 → itN (boB h1 S) X (pn h s) 4 o = mseS M1 (nI o) n := by
  have hn := A.1.2.2
  obtain ⟨p0, p1, p2⟩ := pn_cnt R A hs
  have hle := fa_cnt_le (pcB M s) s
  have e : itN (boB h1 S) X (pn h s) = itN (fun z k => if pcB M s k = true then up2 z 4 (M 48 (k + 1)).toNatClampNeg (z 4 (M 48 (k + 1)).toNatClampNeg + z 3 (k + 1)) else z) X s := by
    have h1 : itN (boB h1 S) X (pn h s) = itN (fun z i => up2 z 4 (M 48 (pL (kn h s) i + 1)).toNatClampNeg (z 4 (M 48 (pL (kn h s) i + 1)).toNatClampNeg + z 3 (pL (kn h s) i + 1))) X (pn h s) := itN_ext _ (fun i hi z => by
      obtain ⟨b1, b2, -⟩ := flt_at (L := pL (kn h s)) s p1 i (by omega)
      have K : knA M n s (pL (kn h s) i + 1) := ⟨⟨by omega, by omega⟩, of_decide_eq_true b2⟩
      have f3 := (knA_at A K).2.2.1
      unfold boB
      rw [J.1 2 (by decide), p2 i hi, nI_clamp (by omega), h159, f3])
    rw [h1, p0]
    exact it_flt (fun z k => up2 z 4 (M 48 (k + 1)).toNatClampNeg (z 4 (M 48 (k + 1)).toNatClampNeg + z 3 (k + 1))) X s p1
  rw [e]
  have go : ∀ k, k ≤ s → (∀ r, r ≠ 4 → itN (fun z k => if pcB M s k = true then up2 z 4 (M 48 (k + 1)).toNatClampNeg (z 4 (M 48 (k + 1)).toNatClampNeg + z 3 (k + 1)) else z) X k r = X r) ∧ ∀ o, o < 9 → itN (fun z k => if pcB M s k = true then up2 z 4 (M 48 (k + 1)).toNatClampNeg (z 4 (M 48 (k + 1)).toNatClampNeg + z 3 (k + 1)) else z) X k 4 o = itN (mseB M1 (nI o)) 0 k := by
    intro k
    induction k with
    | zero => exact fun _ => ⟨fun _ _ => rfl, h0⟩
    | succ k ih =>
      intro hk
      obtain ⟨i1, i2⟩ := ih (by omega)
      rw [itN_s]
      generalize itN (fun z k => if pcB M s k = true then up2 z 4 (M 48 (k + 1)).toNatClampNeg (z 4 (M 48 (k + 1)).toNatClampNeg + z 3 (k + 1)) else z) X k = Z at i1 i2 ⊢
      obtain ⟨e1, e2⟩ := h66 (k + 1) (by omega)
      by_cases hp : pcB M s k = true
      · have K : knA M n s (k + 1) := ⟨⟨by omega, by omega⟩, of_decide_eq_true hp⟩
        obtain ⟨-, -, -, o', ho', eo'⟩ := knA_at A K
        rw [if_pos hp, eo', nI_clamp (by omega)]
        refine ⟨fun r hr => (up2_row hr).trans (i1 r hr), fun o ho => ?_⟩
        rw [itN_s]
        have hi := i2 o ho
        generalize itN (mseB M1 (nI o)) 0 k = f0 at hi ⊢
        unfold mseB
        rw [e1 K, h48, eo']
        by_cases q : o = o'
        · subst q
          rw [up2_s, hi, i1 3 (by decide), h64 (k + 1) (by omega)]
          exact (if_pos (show ¬ (1 : Int32) = 0 ∧ nI o = nI o from ⟨by decide, rfl⟩)).symm
        · rw [up2_k _ _ q, hi]
          exact (if_neg (show ¬ (¬ (1 : Int32) = 0 ∧ nI o' = nI o) from fun z => q (nI_inj (by omega) (by omega) z.2).symm)).symm
      · rw [if_neg hp]
        refine ⟨i1, fun o ho => ?_⟩
        rw [i2 o ho, itN_s]
        unfold mseB
        rw [e2 (fun K => hp (decide_eq_true K.2))]
        exact (if_neg (fun z => z.1 rfl)).symm
  obtain ⟨g1, g2⟩ := go s (Nat.le_refl _)
  refine ⟨g1, fun o ho => (g2 o ho).trans ?_⟩
  have beh : ∀ d, s + d ≤ n → itN (mseB M1 (nI o)) 0 (s + d) = itN (mseB M1 (nI o)) 0 s := by
    intro d
    induction d with
    | zero => exact fun _ => rfl
    | succ d ih =>
      intro hd
      rw [← Nat.add_assoc, itN_s, ih (by omega)]
      unfold mseB
      rw [(h66 (s + d + 1) (by omega)).2 (fun K => by have := K.2.2.1; omega)]
      exact if_neg (fun z => z.1 rfl)
  have := beh (n - s) (by omega)
  rw [show s + (n - s) = n by omega] at this
  exact this.symm
theorem clm_eq {h h1 : hp_T} {M : mM} {N : mN} {W : tW} {X0 : mM} {R0 : Nat → Int64} {S0 : kS} {w g n s : Nat} {L9 : Nat → Int32} (R : rC (hp_i h) M w g) (Bd : bC M) (A : rA (hp_i h) M w g n) (hs : s ≤ n) (B : rT h M n) (hF : ∀ x, x < 165 → hp_i h1 x = hp_i h x) (hS : samT h h1) (hL9 : ∀ c, c < w * g → L9 c = mloV M c) (h56 : ∀ c, c < 120 → ∃ b, b ≤ 120 ∧ M 56 c = nI b) (J : kJ S0 (kn h s)) : (∀ a, a < 201 → (saS h1 w g (pn h s) L9 ((X0, R0), S0)).1.1 1 a = (clF n s w g (M, W) N).1 66 a ∧ (saS h1 w g (pn h s) L9 ((X0, R0), S0)).1.1 2 a = (clF n s w g (M, W) N).1 63 a ∧ (saS h1 w g (pn h s) L9 ((X0, R0), S0)).1.1 3 a = (clF n s w g (M, W) N).1 64 a) ∧ (∀ o, o < 9 → (saS h1 w g (pn h s) L9 ((X0, R0), S0)).1.1 4 o = mseS (clF n s w g (M, W) N).1 (nI o) n) ∧ kJ (saS h1 w g (pn h s) L9 ((X0, R0), S0)).2 (kn h s) ∧ bd64 (clF n s w g (M, W) N).1 124000 := by
  have hn := A.1.2.2
  have hcy := cty_n R.1
  have hcl : cl1 M (goM (clZ n s w g (M, W))) n s w g := by
    have hg : ∀ r, r ≠ 0 → goM (clZ n s w g (M, W)) r = (clZ n s w g (M, W)).1 r := fun r h0 => up2_row h0
    refine ⟨fun r h0 hr => cl_row h0 (by omega) (by omega) (by omega) (by omega), fun k hk => cl_0 (Or.inl hk), fun a ha => ?_⟩
    rw [hg 63 (by decide), hg 64 (by decide), hg 65 (by decide), hg 66 (by decide)]
    exact clz_at hn 201 (Nat.le_refl _) a ha
  obtain ⟨s1, s2, s3, s4⟩ := sa_0 (X := X0) R A hs hcl J
  have I0 : caI M (goM (clZ n s w g (M, W))) (saX S0 (pn h s) X0) n s 0 ((saX S0 (pn h s) X0, R0), S0) (goM (clZ n s w g (M, W)), goN N (clZ n s w g (M, W))) (kn h s) := by
    have z64 : ∀ a, a < 201 → goM (clZ n s w g (M, W)) 64 a = 0 := fun a ha => by
      obtain ⟨c1, c2⟩ := hcl.2.2 a ha
      rcases Classical.em (knA M n s a) with K | K
      · exact (c2 K).2.1
      · exact (c1 K).2.1
    refine ⟨J, fun _ _ => rfl, fun k hk => ?_, fun a ha => ?_, fun a ha _ => z64 a ha, fun _ _ _ _ _ => rfl, fun k hk => ⟨0, Nat.zero_le _, z64 k hk⟩⟩
    · exact (s3 k hk).trans (z64 k hk).symm
    · exact (s2 a ha).trans (if_neg (fun y => absurd y.2 (Nat.not_lt_zero _))).symm
  have I1 := ca_all (L9 := L9) R Bd A hs B hF hS hcl rfl hL9 h56 I0 (w * g) (Nat.le_refl _)
  have hend := ca_end (h1 := h1) (p := pn h s) (L9 := L9) R A hs I1.1
  have eZ : saZ h1 w g (pn h s) L9 ((X0, R0), S0) = itN (saB h1 w g (pn h s) L9) ((saX S0 (pn h s) X0, R0), S0) (w * g) := hend
  have eC : clF n s w g (M, W) N = itN (clsB n) (goM (clZ n s w g (M, W)), goN N (clZ n s w g (M, W))) (w * g) := rfl
  unfold saS
  rw [eZ, eC]
  generalize itN (saB h1 w g (pn h s) L9) ((saX S0 (pn h s) X0, R0), S0) (w * g) = Z at I1 ⊢
  generalize itN (clsB n) (goM (clZ n s w g (M, W)), goN N (clZ n s w g (M, W))) (w * g) = Y at I1 ⊢
  obtain ⟨i1, i2, i3, i4, i5, i6, i7⟩ := I1
  obtain ⟨b1, b2⟩ := bo_at (M1 := Y.1) (X := Z.1.1) R A hs (hF 159 (by decide)) (fun a ha => by
    rw [i2 66 (by decide)]
    exact ⟨fun K => ((hcl.2.2 a ha).2 K).1, fun K => ((hcl.2.2 a ha).1 K).1⟩) ((i2 48 (by decide)).trans (hcl.1 48 (by decide) (by decide))) i3 (fun o ho => (congrFun (i6 4 (by decide) (by decide) (by decide) (by decide)) o).trans (s4 o ho)) i1
  refine ⟨fun a ha => ⟨?_, ?_, ?_⟩, b2, i1, bd64_le (by omega) i7⟩
  · dsimp only
    rw [b1 1 (by decide), i6 1 (by decide) (by decide) (by decide) (by decide), i2 66 (by decide)]
    exact s1 a ha
  · dsimp only
    rw [b1 2 (by decide), i2 63 (by decide), i4 a ha]
    by_cases K : knA M n s a
    · obtain ⟨c, hc, ec⟩ := (knA_at A K).1
      exact if_pos ⟨K, by rw [ec, nI_clamp (by omega)]; exact hc⟩
    · rw [if_neg (fun y => K y.1)]
      exact ((hcl.2.2 a ha).1 K).2.2.symm
  · dsimp only
    rw [b1 3 (by decide)]
    exact i3 a ha
