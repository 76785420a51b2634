/-! ===== the calls: run ===== -/
theorem rncB_e (z : mM × Int32) (jz : Nat) : rncB z jz = (up2 (up2 (up2 (up2 (up2 (up2 (up2 z.1 68 jz (z.1 34 jz)) 69 jz (z.1 53 jz)) 70 jz (z.1 54 jz)) 71 jz (z.1 55 jz)) 72 jz (z.1 56 jz)) 73 jz (mloV z.1 jz)) 74 jz (z.1 57 jz), if z.1 53 jz = 0 then z.2 else z.2 + 1) := by
  by_cases q : z.1 53 jz = 0
  · rw [if_pos q]
    exact if_pos q
  · rw [if_neg q]
    exact if_neg q
theorem rnc_at {Z : mM} {x : Int32} : ∀ j, (∀ c, c < j → (itN rncB (Z, x) j).1 68 c = Z 34 c ∧ (itN rncB (Z, x) j).1 69 c = Z 53 c ∧ (itN rncB (Z, x) j).1 70 c = Z 54 c ∧ (itN rncB (Z, x) j).1 71 c = Z 55 c ∧ (itN rncB (Z, x) j).1 72 c = Z 56 c ∧ (itN rncB (Z, x) j).1 73 c = mloV Z c ∧ (itN rncB (Z, x) j).1 74 c = Z 57 c) ∧ (x = 0 → (itN rncB (Z, x) j).2 = nI (fa_cnt (mk (Z 53)) j))
  | 0 => ⟨fun c hc => absurd hc (Nat.not_lt_zero c), fun e => e⟩
  | j + 1 => by
    obtain ⟨i1, i2⟩ := rnc_at (Z := Z) (x := x) j
    have hr : ∀ r, r < 68 ∨ 74 < r → (itN rncB (Z, x) j).1 r = Z r := fun r h => rnc_row h j
    rw [itN_s, rncB_e]
    generalize itN rncB (Z, x) j = y at i1 i2 hr ⊢
    have em : mloV y.1 j = mloV Z j := by
      unfold mloV
      rw [hr 34 (by decide), hr 33 (by decide), hr 56 (by decide), hr 31 (by decide)]
    refine ⟨fun c hc => ?_, fun e => ?_⟩
    · dsimp only
      rw [em, hr 34 (by decide), hr 53 (by decide), hr 54 (by decide), hr 55 (by decide), hr 56 (by decide), hr 57 (by decide)]
      by_cases q : c = j
      · subst q
        refine ⟨?_, ?_, ?_, ?_, ?_, ?_, up2_s _ _ _ _⟩
        · rw [up2_row (show 68 ≠ 74 by decide), up2_row (show 68 ≠ 73 by decide), up2_row (show 68 ≠ 72 by decide), up2_row (show 68 ≠ 71 by decide), up2_row (show 68 ≠ 70 by decide), up2_row (show 68 ≠ 69 by decide), up2_s]
        · rw [up2_row (show 69 ≠ 74 by decide), up2_row (show 69 ≠ 73 by decide), up2_row (show 69 ≠ 72 by decide), up2_row (show 69 ≠ 71 by decide), up2_row (show 69 ≠ 70 by decide), up2_s]
        · rw [up2_row (show 70 ≠ 74 by decide), up2_row (show 70 ≠ 73 by decide), up2_row (show 70 ≠ 72 by decide), up2_row (show 70 ≠ 71 by decide), up2_s]
        · rw [up2_row (show 71 ≠ 74 by decide), up2_row (show 71 ≠ 73 by decide), up2_row (show 71 ≠ 72 by decide), up2_s]
        · rw [up2_row (show 72 ≠ 74 by decide), up2_row (show 72 ≠ 73 by decide), up2_s]
        · rw [up2_row (show 73 ≠ 74 by decide), up2_s]
      · repeat rw [up2_k _ _ q]
        exact i1 c (by omega)
    · dsimp only
      rw [hr 53 (by decide), i2 e]
      by_cases q : Z 53 j = 0
      · rw [if_pos q, fa_cnt_no (show mk (Z 53) j = false from decide_eq_false (not_not_intro q))]
      · rw [if_neg q, fa_cnt_yes (show mk (Z 53) j = true from decide_eq_true q), nI_1]
theorem rne_at {Z : mM} : ∀ j, (∀ r, r ≠ 75 → r ≠ 76 → r ≠ 77 → itN rneB Z j r = Z r) ∧ ∀ e, e < j → itN rneB Z j 75 e = Z 60 e ∧ itN rneB Z j 76 e = Z 61 e ∧ itN rneB Z j 77 e = Z 62 e
  | 0 => ⟨fun _ _ _ _ => rfl, fun e he => absurd he (Nat.not_lt_zero e)⟩
  | j + 1 => by
    obtain ⟨i1, i2⟩ := rne_at (Z := Z) j
    rw [itN_s]
    generalize itN rneB Z j = y at i1 i2 ⊢
    have e0 : rneB y j = up2 (up2 (up2 y 75 j (y 60 j)) 76 j (y 61 j)) 77 j (y 62 j) := rfl
    rw [e0, i1 60 (by decide) (by decide) (by decide), i1 61 (by decide) (by decide) (by decide), i1 62 (by decide) (by decide) (by decide)]
    refine ⟨fun r h5 h6 h7 => ?_, fun e he => ?_⟩
    · rw [up2_row h7, up2_row h6, up2_row h5]
      exact i1 r h5 h6 h7
    · by_cases q : e = j
      · subst q
        rw [up2_row (show 75 ≠ 77 by decide), up2_row (show 75 ≠ 76 by decide), up2_s, up2_row (show 76 ≠ 77 by decide), up2_s, up2_s]
        exact ⟨rfl, rfl, rfl⟩
      · repeat rw [up2_k _ _ q]
        exact i2 e (by omega)
theorem rna_at {Z : mM} : ∀ j, (∀ r, r ≠ 78 → r ≠ 79 → r ≠ 80 → itN rnaB Z j r = Z r) ∧ ∀ a, a < j → itN rnaB Z j 78 a = Z 66 a ∧ itN rnaB Z j 79 a = Z 63 a ∧ itN rnaB Z j 80 a = Z 64 a
  | 0 => ⟨fun _ _ _ _ => rfl, fun e he => absurd he (Nat.not_lt_zero e)⟩
  | j + 1 => by
    obtain ⟨i1, i2⟩ := rna_at (Z := Z) j
    rw [itN_s]
    generalize itN rnaB Z j = y at i1 i2 ⊢
    have e0 : rnaB y j = up2 (up2 (up2 y 78 j (y 66 j)) 79 j (y 63 j)) 80 j (y 64 j) := rfl
    rw [e0, i1 66 (by decide) (by decide) (by decide), i1 63 (by decide) (by decide) (by decide), i1 64 (by decide) (by decide) (by decide)]
    refine ⟨fun r h5 h6 h7 => ?_, fun e he => ?_⟩
    · rw [up2_row h7, up2_row h6, up2_row h5]
      exact i1 r h5 h6 h7
    · by_cases q : e = j
      · subst q
        rw [up2_row (show 78 ≠ 80 by decide), up2_row (show 78 ≠ 79 by decide), up2_s, up2_row (show 79 ≠ 80 by decide), up2_s, up2_s]
        exact ⟨rfl, rfl, rfl⟩
      · repeat rw [up2_k _ _ q]
        exact i2 e (by omega)
theorem mse_fr {Z Y : mM} {o : Int32} {n : Nat} (e : Y 66 = Z 66 ∧ Y 48 = Z 48 ∧ Y 64 = Z 64) : mseS Y o n = mseS Z o n := by
  unfold mseS
  have h : mseB Y o = mseB Z o := by
    funext f i
    unfold mseB
    rw [e.1, e.2.1, e.2.2]
  rw [h]
theorem rno_at {Z : mM} {n : Nat} : ∀ j, (∀ r, r ≠ 81 → itN (rnoB n) Z j r = Z r) ∧ ∀ o, o < j → itN (rnoB n) Z j 81 o = mseS Z (nI o) n
  | 0 => ⟨fun _ _ => rfl, fun e he => absurd he (Nat.not_lt_zero e)⟩
  | j + 1 => by
    obtain ⟨i1, i2⟩ := rno_at (Z := Z) (n := n) j
    rw [itN_s]
    generalize itN (rnoB n) Z j = y at i1 i2 ⊢
    unfold rnoB
    rw [mse_fr (Z := Z) ⟨i1 66 (by decide), i1 48 (by decide), i1 64 (by decide)⟩]
    refine ⟨fun r h => (up2_row h).trans (i1 r h), fun o ho => ?_⟩
    by_cases q : o = j
    · subst q; exact up2_s _ _ _ _
    · rw [up2_k _ _ q]; exact i2 o (by omega)
/-- what run leaves in the reference -/
theorem rn_at {w g m n : Nat} {M : mM} : (∀ r, r ≠ 0 → r < 68 ∨ 81 < r → rn4 w g m n M r = M r) ∧ (rn4 w g m n M 0 90 = 1 ∧ rn4 w g m n M 0 91 = nI (w * g) ∧ rn4 w g m n M 0 92 = M 0 54 ∧ rn4 w g m n M 0 103 = itN (fun f c => f + mloV M c) 0 (w * g)) ∧ (∀ k, k ≠ 90 → k ≠ 91 → k ≠ 92 → k ≠ 103 → rn4 w g m n M 0 k = M 0 k) ∧ (∀ c, c < w * g → rn4 w g m n M 68 c = M 34 c ∧ rn4 w g m n M 69 c = M 53 c ∧ rn4 w g m n M 70 c = M 54 c ∧ rn4 w g m n M 71 c = M 55 c ∧ rn4 w g m n M 72 c = M 56 c ∧ rn4 w g m n M 73 c = mloV M c ∧ rn4 w g m n M 74 c = M 57 c) ∧ (∀ e, e < m → rn4 w g m n M 75 e = M 60 e ∧ rn4 w g m n M 76 e = M 61 e ∧ rn4 w g m n M 77 e = M 62 e) ∧ (∀ a, a < 201 → rn4 w g m n M 78 a = M 66 a ∧ rn4 w g m n M 79 a = M 63 a ∧ rn4 w g m n M 80 a = M 64 a) ∧ (∀ o, o < 9 → rn4 w g m n M 81 o = mseS M (nI o) n) ∧ (rn1 w g M).2 = nI (fa_cnt (mk (M 53)) (w * g)) := by
  have h0 : ∀ r, r ≠ 0 → up2 (up2 (up2 M 0 90 1) 0 91 (nI (w * g))) 0 92 (M 0 54) r = M r := fun r h => (up2_row h).trans ((up2_row h).trans (up2_row h))
  have hml : ∀ Y : mM, Y 34 = M 34 → Y 33 = M 33 → Y 56 = M 56 → Y 31 = M 31 → ∀ c, mloV Y c = mloV M c := fun Y e1 e2 e3 e4 c => by
    unfold mloV
    rw [e1, e2, e3, e4]
  obtain ⟨c1, c2⟩ := rnc_at (Z := up2 (up2 (up2 M 0 90 1) 0 91 (nI (w * g))) 0 92 (M 0 54)) (x := 0) (w * g)
  have c3 : ∀ r, r < 68 ∨ 74 < r → (rn1 w g M).1 r = up2 (up2 (up2 M 0 90 1) 0 91 (nI (w * g))) 0 92 (M 0 54) r := fun r h => rnc_row h (w * g)
  change (∀ c, c < w * g → (rn1 w g M).1 68 c = _ ∧ (rn1 w g M).1 69 c = _ ∧ (rn1 w g M).1 70 c = _ ∧ (rn1 w g M).1 71 c = _ ∧ (rn1 w g M).1 72 c = _ ∧ (rn1 w g M).1 73 c = _ ∧ (rn1 w g M).1 74 c = _) at c1
  change (0 : Int32) = 0 → (rn1 w g M).2 = _ at c2
  obtain ⟨d1, d2⟩ := rne_at (Z := (rn1 w g M).1) m
  change (∀ r, r ≠ 75 → r ≠ 76 → r ≠ 77 → rn2 w g m M r = _) at d1
  change (∀ e, e < m → rn2 w g m M 75 e = _ ∧ rn2 w g m M 76 e = _ ∧ rn2 w g m M 77 e = _) at d2
  have hr2 : ∀ r, r ≠ 0 → r < 68 ∨ 77 < r → rn2 w g m M r = M r := fun r h h9 => (d1 r (by omega) (by omega) (by omega)).trans ((c3 r (by omega)).trans (h0 r h))
  obtain ⟨a1, a2⟩ := rna_at (Z := up2 (rn2 w g m M) 0 103 (itN (fun f c => f + mloV (rn2 w g m M) c) 0 (w * g))) 201
  change (∀ r, r ≠ 78 → r ≠ 79 → r ≠ 80 → rn3 w g m M r = _) at a1
  change (∀ a, a < 201 → rn3 w g m M 78 a = _ ∧ rn3 w g m M 79 a = _ ∧ rn3 w g m M 80 a = _) at a2
  obtain ⟨o1, o2⟩ := rno_at (Z := rn3 w g m M) (n := n) 9
  change (∀ r, r ≠ 81 → rn4 w g m n M r = _) at o1
  change (∀ o, o < 9 → rn4 w g m n M 81 o = _) at o2
  have hr3 : ∀ r, r ≠ 0 → r < 68 ∨ 80 < r → rn3 w g m M r = M r := fun r h h9 => (a1 r (by omega) (by omega) (by omega)).trans ((up2_row h).trans (hr2 r h (by omega)))
  have esum : itN (fun f c => f + mloV (rn2 w g m M) c) 0 (w * g) = itN (fun f c => f + mloV M c) 0 (w * g) := itN_ext _ (fun j _ z => by rw [hml _ (hr2 34 (by decide) (by decide)) (hr2 33 (by decide) (by decide)) (hr2 56 (by decide) (by decide)) (hr2 31 (by decide) (by decide))])
  have e30 : rn4 w g m n M 0 = up2 (rn2 w g m M) 0 103 (itN (fun f c => f + mloV (rn2 w g m M) c) 0 (w * g)) 0 := (o1 0 (by decide)).trans (a1 0 (by decide) (by decide) (by decide))
  have e20 : rn2 w g m M 0 = up2 (up2 (up2 M 0 90 1) 0 91 (nI (w * g))) 0 92 (M 0 54) 0 := (d1 0 (by decide) (by decide) (by decide)).trans (c3 0 (by decide))
  refine ⟨fun r h h9 => (o1 r (by omega)).trans (hr3 r h (by omega)), ⟨?_, ?_, ?_, ?_⟩, fun k h1 h2 h3 h4 => ?_, fun c hc => ?_, fun e he => ?_, fun a ha => ?_, fun o ho => ?_, ?_⟩
  · rw [e30, up2_k _ _ (show 90 ≠ 103 by decide), e20, up2_k _ _ (show 90 ≠ 92 by decide), up2_k _ _ (show 90 ≠ 91 by decide), up2_s]
  · rw [e30, up2_k _ _ (show 91 ≠ 103 by decide), e20, up2_k _ _ (show 91 ≠ 92 by decide), up2_s]
  · rw [e30, up2_k _ _ (show 92 ≠ 103 by decide), e20, up2_s]
  · rw [e30, up2_s, esum]
  · rw [e30, up2_k _ _ h4, e20, up2_k _ _ h3, up2_k _ _ h2, up2_k _ _ h1]
  · have hh : ∀ r, 68 ≤ r → r ≤ 74 → rn4 w g m n M r = (rn1 w g M).1 r := fun r h1 h2 => (o1 r (by omega)).trans ((a1 r (by omega) (by omega) (by omega)).trans ((up2_row (by omega)).trans (d1 r (by omega) (by omega) (by omega))))
    rw [hh 68 (by decide) (by decide), hh 69 (by decide) (by decide), hh 70 (by decide) (by decide), hh 71 (by decide) (by decide), hh 72 (by decide) (by decide), hh 73 (by decide) (by decide), hh 74 (by decide) (by decide)]
    have := c1 c hc
    rw [h0 34 (by decide), h0 53 (by decide), h0 54 (by decide), h0 55 (by decide), h0 56 (by decide), h0 57 (by decide), hml _ (h0 34 (by decide)) (h0 33 (by decide)) (h0 56 (by decide)) (h0 31 (by decide))] at this
    exact this
  · have hh : ∀ r, 75 ≤ r → r ≤ 77 → rn4 w g m n M r = rn2 w g m M r := fun r h1 h2 => (o1 r (by omega)).trans ((a1 r (by omega) (by omega) (by omega)).trans (up2_row (by omega)))
    rw [hh 75 (by decide) (by decide), hh 76 (by decide) (by decide), hh 77 (by decide) (by decide)]
    have := d2 e he
    rw [c3 60 (by decide), c3 61 (by decide), c3 62 (by decide), h0 60 (by decide), h0 61 (by decide), h0 62 (by decide)] at this
    exact this
  · rw [o1 78 (by decide), o1 79 (by decide), o1 80 (by decide)]
    have := a2 a ha
    rw [up2_row (show 66 ≠ 0 by decide), up2_row (show 63 ≠ 0 by decide), up2_row (show 64 ≠ 0 by decide), hr2 66 (by decide) (by decide), hr2 63 (by decide) (by decide), hr2 64 (by decide) (by decide)] at this
    exact this
  · rw [o2 o ho]
    exact mse_fr ⟨hr3 66 (by decide) (by decide), hr3 48 (by decide) (by decide), hr3 64 (by decide) (by decide)⟩
  · rw [c2 rfl, h0 53 (by decide)]
