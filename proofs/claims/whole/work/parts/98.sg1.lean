/-! ===== class against reference: a cell is settled ===== -/
theorem lst_ex (q : Nat → Bool) : ∀ n, ∃ L : Nat → Nat, ∀ k, k < n → q k = true → L (fa_cnt q k) = k
  | 0 => ⟨fun _ => 0, fun k hk => absurd hk (Nat.not_lt_zero k)⟩
  | n + 1 => by
    obtain ⟨L, hL⟩ := lst_ex q n
    refine ⟨fun i => if i = fa_cnt q n then n else L i, fun k hk hq => ?_⟩
    dsimp only
    by_cases e : k = n
    · subst e; exact if_pos rfl
    · have h1 := fa_cnt_mono q (show k + 1 ≤ n by omega)
      rw [fa_cnt_yes hq] at h1
      rw [if_neg (by omega)]
      exact hL k (by omega) hq
theorem knA_at {h : hp_T} {M : mM} {w g n s a : Nat} (A : rA (hp_i h) M w g n) (K : knA M n s a) : (∃ c, c < w * g ∧ M 49 a = nI c) ∧ (∃ v, v ≤ 99999 ∧ M 50 a = nI v) ∧ hp_i h 159 a = M 48 a ∧ ∃ o, o ≤ 8 ∧ M 48 a = nI o := by
  have Q := A.2.2 a K.1.1 K.1.2
  obtain ⟨f1, f2, h1, h2⟩ := Q.2.2.2.2.2 K.2.1
  obtain ⟨f3, h3⟩ := Q.2.2.2.2.1 (by rw [K.2.1]; decide)
  exact ⟨h1, h2, f3, h3⟩
/-- the list of the claims of a cell -/
theorem lst_mk {M M1 : mM} {n s c : Nat} (h66 : ∀ a, a < 201 → (knA M n s a → M1 66 a = 1) ∧ (¬ knA M n s a → M1 66 a = 0)) (h49 : M1 49 = M 49) (hn : n ≤ 200) {L : Nat → Nat} (hL : ∀ k, k < n → mpB M s (nI c) k = true → L (fa_cnt (mpB M s (nI c)) k) = k) : lstI M1 (nI c) n (fa_cnt (mpB M s (nI c)) n) (fun i => L i + 1) := by
  refine ⟨mpB M s (nI c), L, rfl, hL, fun _ _ => rfl, fun k hk => ?_⟩
  obtain ⟨e1, e2⟩ := h66 (k + 1) (by omega)
  rw [h49]
  unfold mpB
  rw [Bool.and_eq_true_iff]
  refine ⟨fun z => ⟨?_, of_decide_eq_true z.2⟩, fun z => ⟨?_, decide_eq_true z.2⟩⟩
  · rw [e1 ⟨⟨by omega, by omega⟩, of_decide_eq_true z.1⟩]
    decide
  · refine decide_eq_true ?_
    rcases Classical.em (knA M n s (k + 1)) with y | y
    · exact y.2
    · exact absurd (e2 y) z.1
/-- the class's places against the reference's, before the cell c -/
def caI (M M1 X : mM) (n s c : Nat) (Z : cS) (Y : mM × mN) (K : kS) : Prop := kJ Z.2 K ∧ (∀ r, r ≠ 64 → Y.1 r = M1 r) ∧ (∀ k, k < 201 → Z.1.1 3 k = Y.1 64 k) ∧ (∀ a, a < 201 → Z.1.1 2 a = if knA M n s a ∧ (M 49 a).toNatClampNeg < c then M1 63 a else 0) ∧ (∀ a, a < 201 → (¬ knA M n s a ∨ ¬ (M 49 a).toNatClampNeg < c) → Y.1 64 a = 0) ∧ (∀ r, r ≠ 0 → r ≠ 2 → r ≠ 3 → r ≠ 5 → Z.1.1 r = X r) ∧ bd64 Y.1 (100000 + 200 * c)
/-- what the first loop of the reference's claims leaves -/
def cl1 (M M1 : mM) (n s w g : Nat) : Prop := (∀ r, r ≠ 0 → r < 63 ∨ 66 < r → M1 r = M r) ∧ (∀ k, k < 70 → M1 0 k = M 0 k) ∧ ∀ a, a < 201 → (¬ knA M n s a → M1 66 a = 0 ∧ M1 64 a = 0 ∧ M1 63 a = 0) ∧ (knA M n s a → M1 66 a = 1 ∧ M1 64 a = 0 ∧ (∃ V W1, agr V M ∧ M1 63 a = (masS n s w g a V W1).1) ∧ ∃ V, agr V M ∧ M1 65 a = mmaS n s a V)
theorem mas_00 {V : mM} {n s w g a : Nat} {W : tW} (h : mloV V (V 49 a).toNatClampNeg = 0) : (masS n s w g a V W).1 = 0 := by
  unfold masS
  rw [if_pos h]
theorem mas_t0 {V : mM} {n s w g a : Nat} {W : tW} (h : mtO V s (V 48 a) n = 0) : (masS n s w g a V W).1 = 0 := by
  unfold masS
  by_cases q : mloV V (V 49 a).toNatClampNeg = 0
  · rw [if_pos q]
  · rw [if_neg q, h, if_pos (show nI 0 = 0 from rfl)]
theorem ca_skip {M M1 X : mM} {n s c : Nat} {Z : cS} {Y Y1 : mM × mN} {K : kS} (I : caI M M1 X n s c Z Y K) (e : ∀ r, r ≠ 64 → Y1.1 r = Y.1 r) (e2 : ∀ k, Y1.1 64 k = Y.1 64 k) (h0 : ∀ a, a < 201 → knA M n s a → (M 49 a).toNatClampNeg = c → M1 63 a = 0) : caI M M1 X n s (c + 1) Z Y1 K := by
  obtain ⟨i1, i2, i3, i4, i5, i6, i7⟩ := I
  refine ⟨i1, fun r hr => (e r hr).trans (i2 r hr), fun k hk => (i3 k hk).trans (e2 k).symm, fun a ha => ?_, fun a ha hz => ?_, i6, fun k hk => by rw [e2 k]; obtain ⟨v, hv, ev9⟩ := i7 k hk; exact ⟨v, by omega, ev9⟩⟩
  · rw [i4 a ha]
    by_cases q : knA M n s a ∧ (M 49 a).toNatClampNeg < c
    · exact (if_pos q).trans (if_pos ⟨q.1, by have := q.2; omega⟩).symm
    · by_cases q2 : knA M n s a ∧ (M 49 a).toNatClampNeg < c + 1
      · have ec : (M 49 a).toNatClampNeg = c := by
          have h1 := q2.2
          have h2 : ¬ (M 49 a).toNatClampNeg < c := fun y => q ⟨q2.1, y⟩
          omega
        rw [if_neg q, if_pos q2, h0 a ha q2.1 ec]
      · rw [if_neg q, if_neg q2]
  · rw [e2 a]
    refine i5 a ha ?_
    rcases hz with y | y
    · exact Or.inl y
    · exact Or.inr (by omega)
theorem bes_n {h1 : hp_T} {S : kS} {o a : Nat} {k : Int32} (e : hp_i (hk h1 S) 159 a = nI o) (ho : o ≤ 8) (q : S.2 o = none) : besB (hk h1 S) k a = false := by
  unfold besB
  rw [e, nI_clamp (by omega), show hp_r (hk h1 S) 166 = S.2 from rfl, q]
theorem bes_s {h1 : hp_T} {S : kS} {o a b : Nat} {k : Int32} (e : hp_i (hk h1 S) 159 a = nI o) (ho : o ≤ 8) (q : S.2 o = some b) : besB (hk h1 S) k a = decide (hp_i (hk h1 S) b 6 = k) := by
  unfold besB
  rw [e, nI_clamp (by omega), show hp_r (hk h1 S) 166 = S.2 from rfl, q]
theorem bd64_e {Z Y : mM} {K : Nat} (e : Z = Y) : bd64 Z K = bd64 Y K := by rw [e]
theorem ca_cell {h h1 : hp_T} {M M1 X : mM} {w g n s c p : Nat} {L9 : Nat → Int32} {Z : cS} {Y : mM × mN} (R : rC (hp_i h) M w g) (Bd : bC M) (A : rA (hp_i h) M w g n) (hs : s ≤ n) (B : rT h M n) (hF : ∀ x, x < 165 → hp_i h1 x = hp_i h x) (hS : samT h h1) (C1 : cl1 M M1 n s w g) (hp : p = pn h s) (hc : c < w * g) (hL9 : L9 c = mloV M c) (h56 : ∃ b, b ≤ 120 ∧ M 56 c = nI b) (I : caI M M1 X n s c Z Y (kn h s)) : caI M M1 X n s (c + 1) (saB h1 w g p L9 Z c) (clsB n Y c) (kn h s) := by
  have hn := A.1.2.2
  have hcy := cty_n R.1
  have hkg := gk_P (R := hp_r h 162) A hs hcy.2 (kS0 h) s (Nat.le_refl _)
  obtain ⟨C2, C2b, C3⟩ := C1
  obtain ⟨l, hl, el⟩ := mlo_b (M := M) (c := c) (by obtain ⟨k, hk, ek⟩ := Bd.1 c (by omega); exact ⟨k, by omega, ek⟩) (by obtain ⟨k, hk, ek⟩ := Bd.2.2.1 c (by omega); exact ⟨k, by omega, ek⟩) h56
  have i2 := I.2.1
  have eY : ∀ r, r ≠ 0 → r < 63 ∨ 66 < r → Y.1 r = M r := fun r h0 hr => (i2 r (by omega)).trans (C2 r h0 hr)
  have emlo : mloV Y.1 c = mloV M c := by
    unfold mloV
    rw [eY 34 (by decide) (by decide), eY 33 (by decide) (by decide), eY 56 (by decide) (by decide), eY 31 (by decide) (by decide)]
  have hzero : mloV M c = 0 → ∀ a, a < 201 → knA M n s a → (M 49 a).toNatClampNeg = c → M1 63 a = 0 := fun hm a ha K ec => by
    obtain ⟨V, W1, G, e⟩ := ((C3 a ha).2 K).2.2.1
    rw [e]
    exact mas_00 (by rw [G.1 49 (by decide) (by decide), ec, agr_mlo G, hm])
  obtain ⟨L, hL⟩ := lst_ex (mpB M s (nI c)) n
  have hlst : lstI Y.1 (nI c) n (fa_cnt (mpB M s (nI c)) n) (fun i => L i + 1) := lst_mk (fun a ha => by
    rw [i2 66 (by decide)]
    exact ⟨fun K => ((C3 a ha).2 K).1, fun K => ((C3 a ha).1 K).1⟩) (eY 49 (by decide) (by decide)) hn hL
  have hin := fun i (hi : i < fa_cnt (mpB M s (nI c)) n) => flt_at n hL i hi
  have hact : ∀ i, i < fa_cnt (mpB M s (nI c)) n → L i < s ∧ knA M n s (L i + 1) ∧ M 49 (L i + 1) = nI c := fun i hi => by
    obtain ⟨b1, b2, b3⟩ := hin i hi
    obtain ⟨c1, c2⟩ := Bool.and_eq_true_iff.mp b2
    have hpo : poP M s (L i + 1) := of_decide_eq_true c1
    exact ⟨by have := hpo.2.1; omega, ⟨⟨by omega, by omega⟩, hpo⟩, of_decide_eq_true c2⟩
  have ens : fa_cnt (mpB M s (nI c)) n = fa_cnt (mpB M s (nI c)) s := by
    obtain ⟨d, hd⟩ : ∃ d, n = s + d := ⟨n - s, by omega⟩
    rw [hd]
    exact mp_beh d
  have h64 : ∀ i, i < fa_cnt (mpB M s (nI c)) n → Y.1 64 (L i + 1) = 0 := fun i hi => by
    obtain ⟨-, K, ec⟩ := hact i hi
    refine I.2.2.2.2.1 _ (by have := K.1.2; omega) (Or.inr ?_)
    rw [ec, nI_clamp (by omega)]
    omega
  by_cases q34 : M 34 c = 0
  · have hm : mloV M c = 0 := if_pos q34
    have e1 : saB h1 w g p L9 Z c = Z := if_neg (fun y => by rw [hL9, hm] at y; exact absurd y.2 (by decide))
    have e2 : clsB n Y c = Y := if_pos (by rw [eY 34 (by decide) (by decide)]; exact q34)
    rw [e1, e2]
    exact ca_skip I (fun _ _ => rfl) (fun _ => rfl) (hzero hm)
  · have e2 : (clsB n Y c).1 = (inrS n (nI c) 2 (bypS n (nI c) (inrS n (nI c) 0 (nI l) Y.1).2 (inrS n (nI c) 0 (nI l) Y.1).1 Y.2).1 (bypS n (nI c) (inrS n (nI c) 0 (nI l) Y.1).2 (inrS n (nI c) 0 (nI l) Y.1).1 Y.2).2.1).1 := by
      unfold clsB
      rw [if_neg (show ¬ Y.1 34 c = 0 by rw [eY 34 (by decide) (by decide)]; exact q34), emlo, el]
    rcases Nat.eq_zero_or_pos l with l0 | l0
    · subst l0
      have hm : mloV M c = 0 := el
      have e1 : saB h1 w g p L9 Z c = Z := if_neg (fun y => by rw [hL9, hm] at y; exact absurd y.2 (by decide))
      rw [e1]
      obtain ⟨z1, z2⟩ := hou_0 (N := Y.2) hlst (fun i hi => by
        obtain ⟨-, K, ec⟩ := hact i hi
        refine ⟨?_, h64 i hi⟩
        rw [i2 63 (by decide)]
        exact hzero hm _ (by have := K.1.2; omega) K (by rw [ec, nI_clamp (by omega)]))
      exact ca_skip I (fun r hr => by rw [e2]; exact z1 r hr) (fun k => by rw [e2]; exact z2 k) (hzero hm)
    · have h4 : Z.2.1 4 c = nI (fa_cnt (mpB M s (nI c)) s) := by
        rw [I.1.1 4 (by decide)]
        exact hkg.1 c (by omega)
      have hcnt := fa_cnt_le (mpB M s (nI c)) s
      rcases Nat.eq_zero_or_pos (fa_cnt (mpB M s (nI c)) s) with m0 | m0
      · have e1 : saB h1 w g p L9 Z c = Z := if_neg (fun y => by rw [h4, m0] at y; exact absurd y.1 (by decide))
        rw [e1]
        rw [ens, m0] at hlst
        obtain ⟨-, z1, -, z2, -⟩ := hou_e (BF := fun _ => false) (BP := fun _ => false) (BA := fun _ => false) (X := Z.1.1) (N := Y.2) (R := Z.1.2) (A := fun _ => 0) (l := l) hlst ⟨by omega, fun i hi => absurd hi (Nat.not_lt_zero i), fun i j hi => absurd hi (Nat.not_lt_zero i), fun i hi => absurd hi (Nat.not_lt_zero i)⟩ (by omega) I.2.2.1 (fun i hi => absurd hi (Nat.not_lt_zero i))
        refine ca_skip I (fun r hr => by rw [e2]; exact z1 r hr) (fun k => by rw [e2]; exact z2 k (fun i hi => absurd hi (Nat.not_lt_zero i))) (fun a ha K ec => ?_)
        exfalso
        obtain ⟨c', hc', e49⟩ := (knA_at A K).1
        have hq : mpB M s (nI c) (a - 1) = true := by
          have ha1 : a - 1 + 1 = a := by have := K.1.1; omega
          unfold mpB
          rw [ha1, decide_eq_true K.2, e49, decide_eq_true (show nI c' = nI c by rw [e49, nI_clamp (by omega)] at ec; rw [ec])]
          rfl
        have h1 := fa_cnt_mono (mpB M s (nI c)) (show a - 1 + 1 ≤ s by have := K.2.2.1; have := K.1.1; omega)
        rw [fa_cnt_yes hq] at h1
        omega
      · have e1 : saB h1 w g p L9 Z c = stlS h1 w g c (L9 c) Z p := if_pos ⟨by rw [h4, fa_lt, nI_toInt (by omega), ti_0]; omega, by rw [hL9, el, fa_lt, nI_toInt (by omega), ti_0]; omega⟩
        rw [e1, hL9]
        have hshi := sh_at (h1 := h1) (M1 := M1) (X := Z.1.1) R Bd A hs B hF hS (fun a K => ((C3 a (by have := K.1.2; omega)).2 K).2.2.1) hc (loss := mloV M c) rfl (by rw [el]; exact vbd_nI (by omega)) I.1 s (Nat.le_refl _)
        rw [← sh_loop h1 R A hs (x := (up2 Z.1.1 0 9 0, goK h1 w g Z.2 c)) (by
          unfold goK goS
          dsimp only
          rw [up2_row (show 2 ≠ 6 by decide), up2_row (show 2 ≠ 7 by decide), up2_row (show 2 ≠ 7 by decide), up2_row (show 2 ≠ 7 by decide), up2_row (show 2 ≠ 7 by decide)]
          exact I.1.1 2 (by decide)), ← hp] at hshi
        unfold stlS
        change shI Z.1.1 M M1 s c s (shS h1 w g c (mloV M c) Z p) _ _ at hshi
        generalize shS h1 w g c (mloV M c) Z p = y at hshi ⊢
        obtain ⟨j1, j2, j3, j4, j5⟩ := hshi
        rw [j1, nI_clamp (show fa_cnt (mpB M s (nI c)) s < 2147483648 by omega), ← ens, el]
        unfold payS
        have h159 : ∀ a, hp_i (hk h1 y.2) 159 a = hp_i h 159 a := fun a => congrFun ((hb_out h1 y.2.1 (b := 165) (n := 9) (x := 159) (by decide)).trans (hF 159 (by decide))) a
        have H := hou_e (BF := besB (hk h1 y.2) 20) (BP := besB (hk h1 y.2) 21) (BA := besB (hk h1 y.2) 22) (X := y.1) (N := Y.2) (R := Z.1.2) (A := fun i => (M1 63 (L i + 1)).toNatClampNeg) (l := l) hlst ⟨by omega, fun i hi => ?_, fun i j hi hj e => ?_, fun i hi => ?_⟩ (by omega) (fun k hk => by rw [j4 3 (by decide) (by decide) (by decide)]; exact I.2.2.1 k hk) h64
        · obtain ⟨v1, v2, v3, v4, v5⟩ := H
          refine ⟨j5.1, fun r hr => by rw [e2]; exact (v2 r hr).trans (i2 r hr), fun k hk => by rw [e2]; exact v3 k hk, fun a ha => ?_, fun a ha hz => ?_, fun r r0 r2 r3 r5 => (v1 r r3).trans ((j4 r r0 r2 r5).trans (I.2.2.2.2.2.1 r r0 r2 r3 r5)), by rw [bd64_e e2]; exact bd64_le (by omega) (v5 (100000 + 200 * c) (by omega) (by omega) I.2.2.2.2.2.2)⟩
          · rw [v1 2 (by decide), j3 a]
            have hiff : (1 ≤ a ∧ a ≤ s ∧ mpB M s (nI c) (a - 1) = true) ↔ (knA M n s a ∧ (M 49 a).toNatClampNeg = c) := by
              refine ⟨fun z => ?_, fun z => ?_⟩
              · have ha1 : a - 1 + 1 = a := by have := z.1; omega
                obtain ⟨c1, c2⟩ := Bool.and_eq_true_iff.mp z.2.2
                rw [ha1] at c1 c2
                refine ⟨⟨⟨z.1, by have := z.2.1; omega⟩, of_decide_eq_true c1⟩, ?_⟩
                rw [of_decide_eq_true c2, nI_clamp (by omega)]
              · obtain ⟨K, ec⟩ := z
                obtain ⟨c', hc', e49⟩ := (knA_at A K).1
                have ha1 : a - 1 + 1 = a := by have := K.1.1; omega
                refine ⟨K.1.1, K.2.2.1, ?_⟩
                unfold mpB
                rw [ha1, decide_eq_true K.2, e49, decide_eq_true (show nI c' = nI c by rw [e49, nI_clamp (by omega)] at ec; rw [ec])]
                rfl
            by_cases q : 1 ≤ a ∧ a ≤ s ∧ mpB M s (nI c) (a - 1) = true
            · refine (if_pos q).trans (if_pos ⟨(hiff.mp q).1, ?_⟩).symm
              rw [(hiff.mp q).2]
              omega
            · rw [if_neg q, I.2.2.2.1 a ha]
              by_cases q2 : knA M n s a ∧ (M 49 a).toNatClampNeg < c
              · exact (if_pos q2).trans (if_pos ⟨q2.1, by have := q2.2; omega⟩).symm
              · refine (if_neg q2).trans (if_neg (fun z => ?_)).symm
                have h1 := z.2
                have h2 : ¬ (M 49 a).toNatClampNeg < c := fun y => q2 ⟨z.1, y⟩
                exact q (hiff.mpr ⟨z.1, by omega⟩)
          · rw [e2, v4 a (fun i hi e => ?_)]
            · refine I.2.2.2.2.1 a ha ?_
              rcases hz with y | y
              · exact Or.inl y
              · exact Or.inr (by omega)
            · obtain ⟨-, K, ec⟩ := hact i hi
              rw [e] at K ec
              rcases hz with y | y
              · exact y K
              · rw [ec, nI_clamp (by omega)] at y
                omega
        · obtain ⟨b1, b2, b3⟩ := hin i hi
          obtain ⟨hLs, K, ec⟩ := hact i hi
          refine ⟨?_, by have := K.1.2; dsimp only; omega⟩
          have := j2 (L i) hLs b2
          rw [b3] at this
          exact this
        · obtain ⟨b1, b2, b3⟩ := hin i hi
          obtain ⟨d1, d2, d3⟩ := hin j hj
          dsimp only at e
          rw [← b3, ← d3, show L i = L j by omega]
        · obtain ⟨b1, b2, b3⟩ := hin i hi
          obtain ⟨hLs, K, ec⟩ := hact i hi
          have hn201 : L i + 1 < 201 := by have := K.1.2; omega
          obtain ⟨-, ⟨v, hv, ev9⟩, e159, o, ho, eo⟩ := knA_at A K
          obtain ⟨-, -, ⟨V, W1, G, e63⟩, V2, G2, e65⟩ := (C3 (L i + 1) hn201).2 K
          obtain ⟨RV, BdV, AV, BV⟩ := agr_rel G2 R Bd A B
          obtain ⟨x, hx, ex⟩ := mas_b (n := n) (s := s) (w := w) (g := g) (k := L i + 1) (M := V) (W := W1) ⟨v, by omega, by rw [G.1 50 (by decide) (by decide)]; exact ev9⟩
          have e63x : M1 63 (L i + 1) = nI x := e63.trans ex
          dsimp only
          rw [e63x, nI_clamp (show x < 2147483648 by omega), i2 63 (by decide), i2 65 (by decide), e65]
          refine ⟨hx, ?_, e63x, ?_⟩
          · rw [j3 (L i + 1)]
            exact (if_pos ⟨by omega, by omega, b2⟩).trans e63x
          · obtain ⟨e, he, em, hcase⟩ := man_eq (M := V2) (k := L i + 1) AV hs BV (by rw [G2.1 48 (by decide) (by decide)]; exact eo) (show o < 9 by omega)
            rw [em]
            rcases hcase with ⟨q1, q2⟩ | ⟨b, q1, q2⟩
            · refine Or.inl ⟨?_, ?_, ?_, by rw [q2]; rfl, ?_⟩
              · exact bes_n ((h159 _).trans (e159.trans eo)) ho (by rw [j5.1.2.1]; exact q1)
              · exact bes_n ((h159 _).trans (e159.trans eo)) ho (by rw [j5.1.2.1]; exact q1)
              · exact bes_n ((h159 _).trans (e159.trans eo)) ho (by rw [j5.1.2.1]; exact q1)
              · obtain ⟨RW, BdW, AW, BW⟩ := agr_rel G R Bd A B
                have hmt : mtO V s (V 48 (L i + 1)) n = 0 := by
                  rw [G.1 48 (by decide) (by decide), eo]
                  rcases kn_obj AW hs BW (show o < 9 by omega) with ⟨y1, y2⟩ | ⟨t, b, k, y1, t1, t2, y2, -⟩
                  · exact y1
                  · rw [q1] at y2; cases y2
                rw [mas_t0 hmt] at ex
                exact (nI_inj (b := 0) (by omega) (by omega) ex.symm)
            · have hb333 : hp_i (hk h1 y.2) b = hp_i h b := by
                rcases kn_obj A hs B (show o < 9 by omega) with ⟨y1, y2⟩ | ⟨t, b', k, y1, t1, t2, y2, y3, -⟩
                · rw [q1] at y2; cases y2
                · rw [q1] at y2
                  have eb := Option.some.inj y2
                  rw [hk_hi h1 y.2 (show 333 ≤ b by omega)]
                  exact (hS b (by omega)).1
              have hbe : ∀ t, t ≤ 2 → (besB (hk h1 y.2) (nI (20 + t)) (L i + 1) = true ↔ e = t) := fun t ht => by
                rw [bes_s ((h159 _).trans (e159.trans eo)) ho (by rw [j5.1.2.1]; exact q1)]
                rw [hb333, q2, decide_eq_true_iff, nI_eq (by omega) (by omega)]
                omega
              exact Or.inr ⟨e, he, rfl, hbe 0 (by decide), hbe 1 (by decide), hbe 2 (by decide)⟩
