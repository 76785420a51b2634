/-! ===== the parsers agree: facts without brackets ===== -/
theorem fac_a {M : mM} {tx : Nat → Nat} {L o : Nat} {Z : rZ} {q : pS} {r2 fa r0 : rZ → Bool × rZ} (T : txM M tx L) (R : rV M) (H : sumH M tx L o r2) (I : prI M tx L Z q o) (D : cdI tx L Z q []) (h0 : q.2.2.2.2.2.1 = 0 ∨ P1 (q.2.2.2.2.2.2.2.2.2 (q.2.2.2.2.2.1 - 1)) = false) (h11 : ¬ rtok Z = nI 11) (h91 : ¬ rtok Z = nI 91) : endQ M tx L Z q o (facS9 M L q) (facS fa r0 (cmpS r2) o Z) := by
  unfold facS
  by_cases y9 : rtok Z = nI 9
  · rw [if_pos (show rtok Z = 9 from y9)]
    exact fac_9 T R I D y9
  by_cases y10 : rtok Z = nI 10
  · rw [if_neg (show ¬ rtok Z = 9 from y9), if_pos (show rtok Z = 10 from y10)]
    exact fac_10 T R I D y10
  rw [if_neg (show ¬ rtok Z = 9 from y9), if_neg (show ¬ rtok Z = 10 from y10), if_neg (show ¬ rtok Z = 11 from h11), if_neg (show ¬ rtok Z = 91 from h91)]
  have e9 := (hqW (k := 9) (l := 3) (r := 14) T R I.1 I.2.1.1 (by decide) rfl rfl).2 y9
  have e10 := (hqW (k := 10) (l := 6) (r := 15) T R I.1 I.2.1.1 (by decide) rfl rfl).2 y10
  have ef : facS9 M L q = fac2 M L (sumS M L q) := by
    obtain ⟨aT, eN, bD, bP, cD, wT, oP, bS, cS, wS⟩ := q
    exact (if_pos (by rw [e9]; rfl)).trans (if_pos (by rw [e10]; rfl))
  rw [ef]
  exact cmp_a T H I D h0
