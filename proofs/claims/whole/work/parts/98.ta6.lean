/-! ===== the parsers agree: the reference's loops as equations ===== -/
theorem opF_s {M : mM} {L k : Nat} {q : pS} : opF M L (k + 1) q = if q.2.2.1 = 0 then (if (opB M L q).1 = true then opF M L k (opB M L q).2 else (opB M L q).2) else q := rfl
theorem opF_x {M : mM} {L : Nat} {q : pS} (h : ¬ q.2.2.1 = 0) : ∀ k, opF M L k q = q
  | 0 => rfl
  | k + 1 => by rw [opF_s, if_neg h]
theorem rms_lt {L : Nat} {q r : pS} (I : rI L r) (h0 : q.2.2.1 = 0) (h : q.1 + 1 ≤ r.1) : rms L r < rms L q := by
  unfold rms
  rw [if_pos h0]
  have := I.1
  split <;> omega
theorem opF_f {M : mM} {L : Nat} : ∀ (k j : Nat) (q : pS), rI L q → rms L q < k → rms L q < j → opF M L k q = opF M L j q
  | 0, _, _, _, h, _ => absurd h (Nat.not_lt_zero _)
  | _ + 1, 0, _, _, _, h => absurd h (Nat.not_lt_zero _)
  | k + 1, j + 1, q, I, h1, h2 => by
    rw [opF_s, opF_s]
    by_cases z : q.2.2.1 = 0
    · rw [if_pos z, if_pos z]
      obtain ⟨i1, i2⟩ := opB_I (M := M) I
      by_cases y : (opB M L q).1 = true
      · rw [if_pos y, if_pos y]
        have := rms_lt i1 z (i2 y)
        exact opF_f k j _ i1 (by omega) (by omega)
      · rw [if_neg y, if_neg y]
    · rw [if_neg z, if_neg z]
theorem rms_le {L : Nat} {q : pS} (hL : L ≤ 600) : rms L q < 699 := by
  unfold rms
  split <;> omega
theorem opF_q {M : mM} {L : Nat} {q : pS} (hL : L ≤ 600) (I : rI L q) (h0 : q.2.2.1 = 0) : opF M L 700 q = if (opB M L q).1 = true then opF M L 700 (opB M L q).2 else (opB M L q).2 := by
  obtain ⟨i1, i2⟩ := opB_I (M := M) I
  rw [show opF M L 700 q = opF M L (699 + 1) q from rfl, opF_s, if_pos h0]
  by_cases y : (opB M L q).1 = true
  · rw [if_pos y, if_pos y]
    exact opF_f 699 700 _ i1 (rms_le hL) (Nat.lt_succ_of_lt (rms_le hL))
  · rw [if_neg y, if_neg y]
theorem opE_x {M : mM} {L : Nat} {q : pS} (h : ¬ q.2.2.1 = 0) : opE M L q = q := by
  obtain ⟨aT, eN, bD, bP, cD, wT, oP, bS, cS, wS⟩ := q
  exact if_neg h
theorem oneS_x {M : mM} {L : Nat} {q : pS} (h : ¬ q.2.2.1 = 0) : oneS M L q = q := by
  unfold oneS
  rw [opF_x h, opE_x h]
/-- what opens is taken -/
theorem one_op {M : mM} {L : Nat} {q : pS} (hL : L ≤ 600) (I : rI L q) (h0 : q.2.2.1 = 0) (h : (opB M L q).1 = true) : oneS M L q = oneS M L (opB M L q).2 := by
  unfold oneS
  rw [opF_q hL I h0, if_pos h]
/-- nothing opens -/
theorem one_no {M : mM} {L : Nat} {q : pS} (hL : L ≤ 600) (I : rI L q) (h0 : q.2.2.1 = 0) (h : ¬ (opB M L q).1 = true) : oneS M L q = opE M L (opB M L q).2 := by
  unfold oneS
  rw [opF_q hL I h0, if_neg h]
theorem gcF_s {M : mM} {L k : Nat} {q : pS} : gcF M L (k + 1) q = if (gcB M L q).1 = true then gcF M L k (gcB M L q).2 else (gcB M L q).2 := rfl
theorem gcF_f {M : mM} {L : Nat} : ∀ (k j : Nat) (q : pS), rI L q → L - q.1 < k → L - q.1 < j → gcF M L k q = gcF M L j q
  | 0, _, _, _, h, _ => absurd h (Nat.not_lt_zero _)
  | _ + 1, 0, _, _, _, h => absurd h (Nat.not_lt_zero _)
  | k + 1, j + 1, q, I, h1, h2 => by
    rw [gcF_s, gcF_s]
    obtain ⟨t1, -, t3, -⟩ := gcB_T (M := M) I
    by_cases y : (gcB M L q).1 = true
    · rw [if_pos y, if_pos y]
      have := t3 y
      have := t1.1.1
      exact gcF_f k j _ t1.1 (by omega) (by omega)
    · rw [if_neg y, if_neg y]
theorem gcF_q {M : mM} {L : Nat} {q : pS} (hL : L ≤ 600) (I : rI L q) : gcF M L 700 q = if (gcB M L q).1 = true then gcF M L 700 (gcB M L q).2 else (gcB M L q).2 := by
  obtain ⟨t1, -, -, -⟩ := gcB_T (M := M) I
  rw [show gcF M L 700 q = gcF M L (699 + 1) q from rfl, gcF_s]
  by_cases y : (gcB M L q).1 = true
  · rw [if_pos y, if_pos y]
    exact gcF_f 699 700 _ t1.1 (by omega) (by omega)
  · rw [if_neg y, if_neg y]
theorem gon_gc {M : mM} {L : Nat} {q : pS} (hL : L ≤ 600) (I : rI L q) (h : (gcB M L q).1 = true) : gonQ M L q = gonQ M L (gcB M L q).2 := by
  unfold gonQ
  rw [gcF_q hL I, if_pos h]
theorem gon_no {M : mM} {L : Nat} {q : pS} (hL : L ≤ 600) (I : rI L q) (h : ¬ (gcB M L q).1 = true) : gonQ M L q = gsR M L (gcB M L q).2 := by
  unfold gonQ
  rw [gcF_q hL I, if_neg h]
/-- from the place where a sum may go on -/
def goK9 (M : mM) (L : Nat) (q : pS) : pS := if (gonQ M L q).1 = true then sumF M L 700 (gonQ M L q).2 else (gonQ M L q).2
theorem sumF_s {M : mM} {L k : Nat} {q : pS} : sumF M L (k + 1) q = if q.2.2.1 = 0 then (if (oneS M L q).2.2.1 = 0 then (if (gonQ M L (oneS M L q)).1 = true then sumF M L k (gonQ M L (oneS M L q)).2 else (gonQ M L (oneS M L q)).2) else oneS M L q) else q := rfl
theorem sumF_x {M : mM} {L : Nat} {q : pS} (h : ¬ q.2.2.1 = 0) : ∀ k, sumF M L k q = q
  | 0 => rfl
  | k + 1 => by rw [sumF_s, if_neg h]
theorem sumF_f {M : mM} {L : Nat} (hL : L ≤ 600) : ∀ (k j : Nat) (q : pS), rI L q → rms L q < k → rms L q < j → sumF M L k q = sumF M L j q
  | 0, _, _, _, h, _ => absurd h (Nat.not_lt_zero _)
  | _ + 1, 0, _, _, _, h => absurd h (Nat.not_lt_zero _)
  | k + 1, j + 1, q, I, h1, h2 => by
    rw [sumF_s, sumF_s]
    by_cases z : q.2.2.1 = 0
    · rw [if_pos z, if_pos z]
      by_cases w : (oneS M L q).2.2.1 = 0
      · rw [if_pos w, if_pos w]
        have o1 := oneS_T (M := M) I
        obtain ⟨g1, g2⟩ := gonQ_T (M := M) hL o1.1 w
        by_cases y : (gonQ M L (oneS M L q)).1 = true
        · rw [if_pos y, if_pos y]
          have h3 := g2 y
          have h4 := o1.2.1
          have := rms_lt g1.1 z (show q.1 + 1 ≤ (gonQ M L (oneS M L q)).2.1 by omega)
          exact sumF_f hL k j _ g1.1 (by omega) (by omega)
        · rw [if_neg y, if_neg y]
      · rw [if_neg w, if_neg w]
    · rw [if_neg z, if_neg z]
theorem sumF_q {M : mM} {L : Nat} {q : pS} (hL : L ≤ 600) (I : rI L q) (h0 : q.2.2.1 = 0) : sumF M L 700 q = if (oneS M L q).2.2.1 = 0 then goK9 M L (oneS M L q) else oneS M L q := by
  rw [show sumF M L 700 q = sumF M L (699 + 1) q from rfl, sumF_s, if_pos h0]
  by_cases w : (oneS M L q).2.2.1 = 0
  · rw [if_pos w, if_pos w]
    have o1 := oneS_T (M := M) I
    obtain ⟨g1, g2⟩ := gonQ_T (M := M) hL o1.1 w
    unfold goK9
    by_cases y : (gonQ M L (oneS M L q)).1 = true
    · rw [if_pos y, if_pos y]
      exact sumF_f hL 699 700 _ g1.1 (rms_le hL) (Nat.lt_succ_of_lt (rms_le hL))
    · rw [if_neg y, if_neg y]
  · rw [if_neg w, if_neg w]
/-- an opening is passed -/
theorem sum_op {M : mM} {L : Nat} {q : pS} (hL : L ≤ 600) (I : rI L q) (h0 : q.2.2.1 = 0) (h : (opB M L q).1 = true) : sumF M L 700 q = sumF M L 700 (opB M L q).2 := by
  obtain ⟨i1, -⟩ := opB_I (M := M) I
  rw [sumF_q hL I h0, one_op hL I h0 h]
  by_cases z : (opB M L q).2.2.2.1 = 0
  · rw [sumF_q hL i1 z]
  · rw [oneS_x z, if_neg z, sumF_x z]
/-- a closing is passed -/
theorem go_gc {M : mM} {L : Nat} {q : pS} (hL : L ≤ 600) (I : rI L q) (h : (gcB M L q).1 = true) : goK9 M L q = goK9 M L (gcB M L q).2 := by
  unfold goK9
  rw [gon_gc hL I h]
