/-! ===== the parsers agree: words and numbers in a part ===== -/
theorem rt_nat {M : mM} {tx : Nat → Nat} {L : Nat} {Z : rZ} {q : pS} (T : txM M tx L) (C : cur9 M tx L Z q) : ∃ t, t < 256 ∧ rtok Z = nI t := by
  obtain ⟨⟨e1, -, -⟩, g, s3, -, s5⟩ := cur_at T C
  rw [e1]
  by_cases q1 : skb M L q.1 < L
  · have hz := s5 q1
    have h3 := srt_3 (tx (skb M L q.1))
    have l2 := (T.2 _ q1).2
    rcases (show srt (tx (skb M L q.1)) = 1 ∨ srt (tx (skb M L q.1)) = 2 ∨ srt (tx (skb M L q.1)) = 3 by omega) with d | d | d
    · have hb := g.2.1 q1 (Or.inl d)
      rw [d] at hb
      rw [tk_1 q1 d hb]
      have hw := wrd_le (tx := tx) (L := L) (a := skb M L q.1)
      split
      · exact ⟨25, by decide, rfl⟩
      · exact ⟨_, by omega, rfl⟩
    · have hb := g.2.1 q1 (Or.inr d)
      rw [d] at hb
      rw [tk_2 q1 d hb]
      show ∃ t, t < 256 ∧ (if bf tx (skb M L q.1) = 1 then (25 : Int32) else 23) = nI t
      split
      · exact ⟨25, by decide, rfl⟩
      · exact ⟨23, by decide, rfl⟩
    · rw [tk_3 q1 d]
      split
      · exact ⟨_, l2, rfl⟩
      · exact ⟨25, by decide, rfl⟩
  · rw [tk_L q1]
    exact ⟨24, by decide, rfl⟩
theorem cnt_up {tx : Nat → Nat} {L a b : Nat} (h : cnt tx L a < cnt tx L b) : a < b := by
  rcases Nat.lt_or_ge a b with w | w
  · exact w
  · have := cnt_mono (tx := tx) (L := L) (i := b) (a - b)
    rw [show b + (a - b) = a by omega] at this
    omega
/-- a token is taken on both sides, nothing else -/
theorem adv_pr {M : mM} {tx : Nat → Nat} {L o : Nat} {Z : rZ} {q q2 : pS} (T : txM M tx L) (I : prI M tx L Z q o) (D : cdI tx L Z q []) (C2 : cur9 M tx L (rnxt Z) q2) (e : q2.2.2 = q.2.2) : prI M tx L (rnxt Z) q2 o ∧ cdI tx L (rnxt Z) q2 [] ∧ cnt tx L q2.1 = cnt tx L q.1 + 1 ∧ q2.2.2.2.2.1 + q2.2.2.2.2.2.1 + 1 ≤ q2.1 + 2 := by
  have k1 := jn_cnt T I.1 C2
  have hlt := cnt_up (show cnt tx L q.1 < cnt tx L q2.1 by omega)
  obtain ⟨C, ⟨z0, z1⟩, ⟨i1, i2⟩, i3, i4⟩ := I
  obtain ⟨c1, c2, c3, -⟩ := D
  have c2' : q.2.2.2.2.1 + 0 ≤ cnt tx L q.1 := c2
  have i2' : q.2.2.2.2.1 + q.2.2.2.2.2.1 ≤ q.1 + 2 := i2
  refine ⟨⟨C2, ⟨by rw [e]; exact z0, (up2_k _ _ (show 1 ≠ 13 by decide)).trans z1⟩, ⟨C2.2.2.1, ?_⟩, by rw [e]; exact i3, i4⟩, ⟨?_, ?_, fun i hi => ?_, fun j hj => absurd hj (Nat.not_lt_zero j)⟩, k1, ?_⟩
  · rw [e]
    omega
  · rw [e]
    exact (up2_k _ _ (show 4 ≠ 13 by decide)).trans c1
  · rw [e, k1]
    show q.2.2.2.2.1 + 0 ≤ _
    omega
  · rw [e] at hi ⊢
    rw [show rnxt Z 1 = Z 1 from up2_row (by decide)]
    exact c3 i hi
  · rw [e]
    omega
/-- a code is written on both sides -/
theorem cw_at {M : mM} {tx : Nat → Nat} {L o : Nat} {Z : rZ} {q : pS} {y t n : Int32} (T : txM M tx L) (I : prI M tx L Z q o) (D : cdI tx L Z q []) (hr : q.2.2.2.2.1 + q.2.2.2.2.2.1 + 1 ≤ q.1 + 2) (hs : q.2.2.2.2.1 + 1 ≤ cnt tx L q.1) (hc : cdR y (t + n <<< (7 &&& 31))) : prI M tx L (remi Z t n) (cdS q y) o ∧ cdI tx L (remi Z t n) (cdS q y) [] := by
  obtain ⟨c1, c2, c3, -⟩ := D
  have c1' : Z 0 4 = nI q.2.2.2.2.1 := c1
  have h6 := cnt_600 T I.1
  obtain ⟨e1, e2, e3, e4, e5⟩ := emi_at (tx := tx) (L := L) (t := t) (n := n) c1' (by omega)
  obtain ⟨C, ⟨z0, z1⟩, ⟨i1, i2⟩, i3, i4⟩ := I
  refine ⟨⟨cur_em C, ⟨z0, e4.trans z1⟩, ⟨i1, ?_⟩, i3, i4⟩, ⟨e1, hs, fun i hi => ?_, fun j hj => absurd hj (Nat.not_lt_zero j)⟩⟩
  · show q.2.2.2.2.1 + 1 + q.2.2.2.2.2.1 ≤ q.1 + 2
    omega
  · have hi' : i < q.2.2.2.2.1 + 1 := hi
    show cdR (va_up q.2.2.2.2.2.2.2.2.1 q.2.2.2.2.1 y i) _
    by_cases w : i = q.2.2.2.2.1
    · rw [w, va_s, e2]
      exact hc
    · rw [va_n w, e3 i (by omega)]
      exact c3 i (by omega)
theorem opB_no {M : mM} {tx : Nat → Nat} {L : Nat} {Z : rZ} {q : pS} (T : txM M tx L) (R : rV M) (C : cur9 M tx L Z q) (h0 : q.2.2.1 = 0) (h40 : ¬ rtok Z = nI 40) (h7 : ¬ rtok Z = nI 7) (h8 : ¬ rtok Z = nI 8) : opB M L q = (false, (skb M L q.1, q.2)) := by
  have C9 : cur9 M tx L Z (skb M L q.1, q.2) := cur_sk T C rfl rfl
  have q7 := hq_e T R C9 h0 (k := 7) (by decide)
  have q8 := hq_e T R C9 h0 (k := 8) (by decide)
  rw [decide_eq_false h7] at q7
  rw [decide_eq_false h8] at q8
  have h1 := (tok_c T C (c := 40) (by decide) sg_ok.1).1
  obtain ⟨aT, eN, bD, bP, cD, wT, oP, bS, cS, wS⟩ := q
  have q7' : hrQ M L ((skb M L aT), eN, bD, bP, cD, wT, oP, bS, cS, wS) 3 (M 23) = false := q7
  have q8' : hrQ M L ((skb M L aT), eN, bD, bP, cD, wT, oP, bS, cS, wS) 3 (M 24) = false := q8
  exact (if_neg (fun z => h40 (h1.mp z))).trans ((if_pos (by rw [q7']; rfl)).trans (if_pos (by rw [q8']; rfl)))
theorem nrm {M : mM} {tx : Nat → Nat} {L o : Nat} {Z : rZ} {q : pS} (T : txM M tx L) (I : prI M tx L Z q o) (D : cdI tx L Z q []) : prI M tx L Z (skb M L q.1, q.2) o ∧ cdI tx L Z (skb M L q.1, q.2) [] ∧ cnt tx L (skb M L q.1) = cnt tx L q.1 := by
  have k := (sk_pl T I.1.2.2).2.1
  have C9 : cur9 M tx L Z (skb M L q.1, q.2) := cur_sk T I.1 rfl rfl
  have hle := (skb_le (M := M) (L := L) (a := q.1)).1
  obtain ⟨C, z, ⟨i1, i2⟩, i3⟩ := I
  obtain ⟨c1, c2, c3⟩ := D
  refine ⟨⟨C9, z, ⟨C9.2.2.1, ?_⟩, i3⟩, ⟨c1, ?_, c3⟩, k⟩
  · show q.2.2.2.2.1 + q.2.2.2.2.2.1 ≤ skb M L q.1 + 2
    have : q.2.2.2.2.1 + q.2.2.2.2.2.1 ≤ q.1 + 2 := i2
    omega
  · show _ ≤ cnt tx L (skb M L q.1)
    rw [k]
    exact c2
theorem shl_bv (x : BitVec 32) : x <<< (7 : Nat) = x * 128#32 := by
  rw [BitVec.shiftLeft_eq_mul_twoPow, show BitVec.twoPow 32 7 = 128#32 from by decide]
theorem shl_nI {v : Nat} : nI v <<< ((7 : Int32) &&& 31) = nI (128 * v) := by
  have h : nI v <<< ((7 : Int32) &&& 31) = nI v * 128 := Int32.toBitVec_inj.mp (shl_bv (nI v).toBitVec)
  rw [h, show (128 : Int32) = nI 128 from rfl, pk_mul, Nat.mul_comm]
