/-! ===== class against reference: premises of the contracts ===== -/
theorem rA_s {h : hp_T} {M : mM} {w g n : Nat} (A : rA (hp_i h) M w g n) : ∃ s, s ≤ n ∧ (if M 0 68 = -1 then M 0 62 else M 0 68) = nI s ∧ horS h = nI s := by
  obtain ⟨⟨a1, a2, a3⟩, ⟨b1, b2⟩, -⟩ := A
  unfold horS
  rw [a1, a2, b1]
  rcases b2 with z | ⟨s, s1, s2⟩
  · exact ⟨n, Nat.le_refl _, if_pos z, if_pos z⟩
  · have hne : ¬ M 0 68 = -1 := by rw [s2]; exact nI_nm1 (by omega)
    exact ⟨s, s1, (if_neg hne).trans s2, (if_neg hne).trans s2⟩
theorem refI_rA {h : hp_T} {M : mM} {w g n s : Nat} (R : rC (hp_i h) M w g) (A : rA (hp_i h) M w g n) (B : rT h M n) (hs : s ≤ n) (e : (if M 0 68 = -1 then M 0 62 else M 0 68) = nI s) : refI M n s w g := by
  refine ⟨⟨A.1.2.1, A.1.2.2, e, hs⟩, R.2.1, fun a h1 h2 h3 => ?_, fun a h1 h2 h3 => ?_, fun a h1 h2 h3 => ?_⟩
  · obtain ⟨b, k, b1, b2, b3, b4, b5, b6, -⟩ := B a h1 h2 h3
    exact ⟨k, mtI_of b6⟩
  · obtain ⟨-, o, ho, eo⟩ := (A.2.2 a h1 h2).2.2.2.2.1 h3
    exact ⟨o, by omega, eo⟩
  · obtain ⟨-, -, z, -⟩ := (A.2.2 a h1 h2).2.2.2.2.2 h3
    exact z
