/-! ===== the parsers agree: the loops of tests as equations ===== -/
theorem rms_lt2 {L : Nat} {q r : pS} (I : rI L r) (h0 : q.2.2.1 = 0) (h : r.2.2.1 = 0 → q.1 + 1 ≤ r.1) : rms L r < rms L q := by
  unfold rms
  rw [if_pos h0]
  have := I.1
  by_cases z : r.2.2.1 = 0
  · rw [if_pos z]
    have := h z
    omega
  · rw [if_neg z]
    omega
theorem gtF_s {M : mM} {L k : Nat} {q : pS} : gtF M L (k + 1) q = if (gtB M L q).1 = true then gtF M L k (gtB M L q).2 else (gtB M L q).2 := rfl
theorem gtF_f {M : mM} {L : Nat} : ∀ (k j : Nat) (q : pS), rI L q → L - q.1 < k → L - q.1 < j → gtF M L k q = gtF M L j q
  | 0, _, _, _, h, _ => absurd h (Nat.not_lt_zero _)
  | _ + 1, 0, _, _, _, h => absurd h (Nat.not_lt_zero _)
  | k + 1, j + 1, q, I, h1, h2 => by
    rw [gtF_s, gtF_s]
    obtain ⟨t1, t3, -, -⟩ := gtB_T (M := M) I
    by_cases y : (gtB M L q).1 = true
    · rw [if_pos y, if_pos y]
      have := t3 y
      have := t1.1.1
      exact gtF_f k j _ t1.1 (by omega) (by omega)
    · rw [if_neg y, if_neg y]
theorem gtF_q {M : mM} {L : Nat} {q : pS} (hL : L ≤ 600) (I : rI L q) : gtF M L 700 q = if (gtB M L q).1 = true then gtF M L 700 (gtB M L q).2 else (gtB M L q).2 := by
  obtain ⟨t1, -, -, -⟩ := gtB_T (M := M) I
  rw [show gtF M L 700 q = gtF M L (699 + 1) q from rfl, gtF_s]
  by_cases y : (gtB M L q).1 = true
  · rw [if_pos y, if_pos y]
    exact gtF_f 699 700 _ t1.1 (by omega) (by omega)
  · rw [if_neg y, if_neg y]
theorem got_gt {M : mM} {L : Nat} {q : pS} (hL : L ≤ 600) (I : rI L q) (h : (gtB M L q).1 = true) : gotQ M L q = gotQ M L (gtB M L q).2 := by
  unfold gotQ
  rw [gtF_q hL I, if_pos h]
theorem got_no {M : mM} {L : Nat} {q : pS} (hL : L ≤ 600) (I : rI L q) (h : ¬ (gtB M L q).1 = true) : gotQ M L q = gtR M L (gtB M L q).2 := by
  unfold gotQ
  rw [gtF_q hL I, if_neg h]
theorem tsB_T9 {M : mM} {L : Nat} {q : pS} (hL : L ≤ 600) (I : rI L q) (h0 : q.2.2.1 = 0) : rI L (tsB M L q).2 ∧ ((tsB M L q).1 = true → rms L (tsB M L q).2 < rms L q) := by
  have s1 := skb_T (M := M) I
  have hle := (skb_le (M := M) (L := L) (a := q.1)).1
  by_cases y91 : lkV M L q.1 = 91
  · have hlt : skb M L q.1 < L := by
      rcases Nat.lt_or_ge (skb M L q.1) L with w | w
      · exact w
      · rw [lk_out (show ¬ skb M L q.1 < L by omega)] at y91
        exact absurd y91 (by decide)
    obtain ⟨o1, o2⟩ := opn_T (v := 25) (p := nI (skb M L q.1)) s1.1 hlt
    have e : tsB M L q = (true, s0 (opS (skb M L q.1, q.2) 25 (nI (skb M L q.1))) ((opS (skb M L q.1, q.2) 25 (nI (skb M L q.1))).1 + 1)) := by
      obtain ⟨aT, eN, bD, bP, cD, wT, oP, bS, cS, wS⟩ := q
      exact if_pos y91
    rw [e]
    refine ⟨o1.1, fun _ => rms_lt2 o1.1 h0 (fun _ => ?_)⟩
    show q.1 + 1 ≤ (opS (skb M L q.1, q.2) 25 (nI (skb M L q.1))).1 + 1
    have : skb M L q.1 + 1 ≤ (opS (skb M L q.1, q.2) 25 (nI (skb M L q.1))).1 + 1 := o2
    omega
  · by_cases yn : hrQ M L (skb M L q.1, q.2) 3 (M 13) = true
    · obtain ⟨n1, n2⟩ := not_T (v := 16) (p := nI (skb M L q.1)) s1.1 yn
      have e : tsB M L q = (true, asS9 M L (opS (skb M L q.1, q.2) 16 (nI (skb M L q.1))) 3 (M 13)) := by
        obtain ⟨aT, eN, bD, bP, cD, wT, oP, bS, cS, wS⟩ := q
        exact (if_neg y91).trans (if_neg (by rw [yn]; decide))
      rw [e]
      refine ⟨n1.1, fun _ => rms_lt2 n1.1 h0 (fun z => ?_)⟩
      have : skb M L q.1 + 1 ≤ (asS9 M L (opS (skb M L q.1, q.2) 16 (nI (skb M L q.1))) 3 (M 13)).1 := n2 z
      show q.1 + 1 ≤ (asS9 M L (opS (skb M L q.1, q.2) 16 (nI (skb M L q.1))) 3 (M 13)).1
      omega
    · have yn' : hrQ M L (skb M L q.1, q.2) 3 (M 13) = false := by
        cases hh : hrQ M L (skb M L q.1, q.2) 3 (M 13) with
        | false => rfl
        | true => exact absurd hh yn
      have f1 := facS_T (M := M) hL s1.1
      obtain ⟨t1, t2⟩ := tsC_T (M := M) f1.1
      have e : tsB M L q = tsC M L (facS9 M L (skb M L q.1, q.2)) := by
        obtain ⟨aT, eN, bD, bP, cD, wT, oP, bS, cS, wS⟩ := q
        exact (if_neg y91).trans (if_pos (by rw [yn']; rfl))
      rw [e]
      refine ⟨t1.1, fun z => rms_lt2 t1.1 h0 (fun _ => ?_)⟩
      have a1 := t2 z
      have a2 : skb M L q.1 ≤ (facS9 M L (skb M L q.1, q.2)).1 := f1.2.1
      omega
theorem tsF_s {M : mM} {L k : Nat} {q : pS} : tsF M L (k + 1) q = if q.2.2.1 = 0 then (if (tsB M L q).1 = true then tsF M L k (tsB M L q).2 else (tsB M L q).2) else q := rfl
theorem tsF_x {M : mM} {L : Nat} {q : pS} (h : ¬ q.2.2.1 = 0) : ∀ k, tsF M L k q = q
  | 0 => rfl
  | k + 1 => by rw [tsF_s, if_neg h]
theorem tsF_f {M : mM} {L : Nat} (hL : L ≤ 600) : ∀ (k j : Nat) (q : pS), rI L q → rms L q < k → rms L q < j → tsF M L k q = tsF M L j q
  | 0, _, _, _, h, _ => absurd h (Nat.not_lt_zero _)
  | _ + 1, 0, _, _, _, h => absurd h (Nat.not_lt_zero _)
  | k + 1, j + 1, q, I, h1, h2 => by
    rw [tsF_s, tsF_s]
    by_cases z : q.2.2.1 = 0
    · rw [if_pos z, if_pos z]
      obtain ⟨i1, i2⟩ := tsB_T9 (M := M) hL I z
      by_cases y : (tsB M L q).1 = true
      · rw [if_pos y, if_pos y]
        have := i2 y
        exact tsF_f hL k j _ i1 (by omega) (by omega)
      · rw [if_neg y, if_neg y]
    · rw [if_neg z, if_neg z]
theorem tsF_q {M : mM} {L : Nat} {q : pS} (hL : L ≤ 600) (I : rI L q) (h0 : q.2.2.1 = 0) : tsF M L 700 q = if (tsB M L q).1 = true then tsF M L 700 (tsB M L q).2 else (tsB M L q).2 := by
  obtain ⟨i1, i2⟩ := tsB_T9 (M := M) hL I h0
  rw [show tsF M L 700 q = tsF M L (699 + 1) q from rfl, tsF_s, if_pos h0]
  by_cases y : (tsB M L q).1 = true
  · rw [if_pos y, if_pos y]
    exact tsF_f hL 699 700 _ i1 (rms_le hL) (Nat.lt_succ_of_lt (rms_le hL))
  · rw [if_neg y, if_neg y]
/-- from behind a fact -/
def gotK (M : mM) (L : Nat) (q : pS) : pS := if (tsC M L q).1 = true then tsF M L 700 (tsC M L q).2 else (tsC M L q).2
