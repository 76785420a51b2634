/-! ===== class against reference: premises of the contracts ===== -/
theorem rA_s {h : hp_T} {M : mM} {w g n : Nat} (A : rA (hp_i h) M w g n) : ∃ s, s ≤ n ∧ (if M 0 68 = -1 then M 0 62 else M 0 68) = nI s ∧ horS h = nI s := by
  obtain ⟨⟨a1, a2, a3⟩, ⟨b1, b2⟩, -⟩ := A
  unfold horS
  rw [a1, a2, b1]
  rcases b2 with z | ⟨s, s1, s2⟩
  · exact ⟨n, Nat.le_refl _, if_pos z, if_pos z⟩
  · have hne : ¬ M 0 68 = -1 := by rw [s2]; exact nI_nm1 (by omega)
    exact ⟨s, s1, (if_neg hne).trans s2, (if_neg hne).trans s2⟩
theorem refI_rA {h : hp_T} {M : mM} {w g n s : Nat} (R : rC (hp_i h) M w g) (A : rA (hp_i h) M w g n) (B : rT h M n) (hs : s ≤ n) (e : (if M 0 68 = -1 then M 0 62 else M 0 68) = nI s) : refI M n s w g := by
  refine ⟨⟨A.1.2.1, A.1.2.2, e, hs⟩, R.2.1, fun a h1 h2 h3 => ?_, fun a h1 h2 h3 => ?_, fun a h1 h2 h3 => ?_⟩
  · obtain ⟨b, k, b1, b2, b3, b4, b5, b6, -⟩ := B a h1 h2 h3
    exact ⟨k, mtI_of b6⟩
  · obtain ⟨-, o, ho, eo⟩ := (A.2.2 a h1 h2).2.2.2.2.1 h3
    exact ⟨o, by omega, eo⟩
  · obtain ⟨-, -, z, -⟩ := (A.2.2 a h1 h2).2.2.2.2.2 h3
    exact z
theorem actK_rA {h : hp_T} {M : mM} {w g n s : Nat} (R : rC (hp_i h) M w g) (A : rA (hp_i h) M w g n) (B : rT h M n) (hs : s ≤ n) (e : horS h = nI s) : actK h w g n s := by
  have hcy := cty_n R.1
  refine ⟨⟨A.1.2.2, A.1.1, fun a h1 h2 => ?_⟩, hs, e, fun a h1 h2 h3 b hb => ?_, fun a h1 h2 h3 => ?_⟩
  · have Q := A.2.2 a h1 h2
    obtain ⟨q1, q2, q3, q4, q5, q6⟩ := Q
    rw [q1]
    refine ⟨q3, fun z => ?_, fun z => ?_, fun z => ?_⟩
    · obtain ⟨f, o, ho, eo⟩ := q5 z
      exact ⟨o, by omega, f.trans eo⟩
    · obtain ⟨b, k, b1, b2, b3, -⟩ := B a h1 h2 z
      exact ⟨b, b1, b2, b3⟩
    · obtain ⟨f1, f2, ⟨c, hc, ec⟩, v, hv, evv⟩ := q6 z
      exact ⟨⟨c, by omega, f1.trans ec⟩, v, by omega, f2.trans evv⟩
  · have Q := A.2.2 a h1 h2
    obtain ⟨b', k, b1, b2, b3, b4, -⟩ := B a h1 h2 (Q.1.symm.trans h3)
    rw [b2] at hb
    rw [← Option.some.inj hb]
    exact b4
  · have Q := A.2.2 a h1 h2
    obtain ⟨f1, -, ⟨c, hc, ec⟩, -⟩ := Q.2.2.2.2.2 (Q.1.symm.trans h3)
    exact ⟨c, hc, f1.trans ec⟩
theorem brnI_rA {F M : mM} {w g m : Nat} (R : rC F M w g) (Bd : bC M) (E9 : rE F M w g m) : brnI F w g m := by
  obtain ⟨-, -, a1, a2, a3, -⟩ := R
  obtain ⟨e1, e2, e3, e4⟩ := E9
  obtain ⟨d1, d2, -, d4, -⟩ := Bd
  refine ⟨e3, e1, fun e he => ?_, fun e he => ?_, fun c hc => ?_, fun c hc => ?_, fun c hc => ?_⟩
  · obtain ⟨⟨-, -, z, -⟩, -, -, ⟨k, k1, k2, k3⟩, -⟩ := e4 e he
    exact ⟨k, k2, z.trans k3⟩
  · obtain ⟨⟨-, z, -, -⟩, -, ⟨k, k1, k3⟩, -, -⟩ := e4 e he
    exact ⟨k, k1, z.trans k3⟩
  · obtain ⟨k, hk, z⟩ := d1 c hc
    exact ⟨k, by omega, by rw [a2]; exact z⟩
  · obtain ⟨k, hk, z⟩ := d2 c hc
    exact ⟨k, by omega, by rw [a3]; exact z⟩
  · obtain ⟨k, hk, z⟩ := d4 c hc
    rw [a1, z]
    rcases (show k = 0 ∨ k = 1 by omega) with q | q
    · exact Or.inl (by rw [q]; rfl)
    · exact Or.inr (by rw [q]; rfl)
