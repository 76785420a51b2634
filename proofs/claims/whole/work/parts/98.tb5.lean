/-! ===== the parsers agree: closing, comma, the wrong sign ===== -/
def clQ (p : Nat) (q : pS) : pS := s6 (s5 (dwQ (p + 1, q.2.1, q.2.2) (tmP (bsQ q) q.2.2.2.2.2.2.2.2.2)) ((dwQ (p + 1, q.2.1, q.2.2) (tmP (bsQ q) q.2.2.2.2.2.2.2.2.2)).2.2.2.2.2.1 - 1)) ((dwQ (p + 1, q.2.1, q.2.2) (tmP (bsQ q) q.2.2.2.2.2.2.2.2.2)).2.2.2.2.2.2.1 - 1)
/-- a mark of sums lies under what waits -/
def mkI (q qm : pS) (ps : List Int32) (w0 : Nat) (v : Int32) : Prop := skI9 q qm ps ∧ qm.2.2.2.2.2.1 = w0 + 1 ∧ qm.2.2.2.2.2.2.2.2.2 w0 = v ∧ isMk v ∧ bsQ qm ≤ w0 ∧ ∀ j, j < ps.length → P1 (ps.getD j 0) = true
theorem cl_b {M : mM} {tx : Nat → Nat} {L o w0 : Nat} {v : Int32} {Y : rZ} {q qm : pS} {ps : List Int32} (T : txM M tx L) (I : prI M tx L Y q (o + 1)) (D : cdI tx L Y q ps) (K : mkI q qm ps w0 v) (h : rtok Y = nI 41) : (prI M tx L (rnxt Y) (clQ (skb M L q.1) q) o ∧ cdI tx L (rnxt Y) (clQ (skb M L q.1) q) []) ∧ (clQ (skb M L q.1) q).2.2.2.2.2.1 = w0 ∧ (clQ (skb M L q.1) q).2.2.2.2.1 = q.2.2.2.2.1 + ps.length ∧ cnt tx L (clQ (skb M L q.1) q).1 = cnt tx L q.1 + 1 := by
  obtain ⟨S, hw, ht, hv, hb, hp⟩ := K
  obtain ⟨d1, d2, d3, d4⟩ := tm_dq (a := skb M L q.1 + 1) (eN := q.2.1) S hw ht hv hb hp
  have hcur := (tok_c T I.1 (c := 41) (by decide) sg_ok.2.1).2 h (clQ (skb M L q.1) q) rfl rfl
  have k1 := jn_cnt T I.1 hcur
  obtain ⟨C, ⟨z0, z1⟩, ⟨i1, i2⟩, i3, i4⟩ := I
  obtain ⟨c1, c2, c3, c4⟩ := D
  have hle := (skb_le (M := M) (L := L) (a := q.1)).1
  have e6 : (clQ (skb M L q.1) q).2.2.2.2.2.1 = w0 := by
    show (dwQ (skb M L q.1 + 1, q.2.1, q.2.2) (tmP (bsQ q) q.2.2.2.2.2.2.2.2.2)).2.2.2.2.2.1 - 1 = w0
    rw [d1]
    rfl
  have e5 : (clQ (skb M L q.1) q).2.2.2.2.1 = q.2.2.2.2.1 + ps.length := d2
  have s1 := S.1
  refine ⟨⟨⟨hcur, ⟨z0, (up2_k _ _ (show 1 ≠ 13 by decide)).trans z1⟩, ⟨hcur.2.2.1, ?_⟩, ?_, by omega⟩, ?_, ?_, fun i hi => ?_, fun j hj => absurd hj (Nat.not_lt_zero j)⟩, e6, e5, k1⟩
  · rw [e5, e6]
    show _ ≤ (skb M L q.1 + 1) + 2
    have : q.2.2.2.2.1 + q.2.2.2.2.2.1 ≤ q.1 + 2 := i2
    omega
  · show q.2.2.2.2.2.2.1 - 1 = _
    rw [i3, show (1 : Int32) = nI 1 from rfl, nI_sub (a := o + 1) (b := 1) (by omega)]
    rfl
  · show rnxt Y 0 4 = nI ((clQ (skb M L q.1) q).2.2.2.2.1 + 0)
    rw [e5, Nat.add_zero]
    exact (up2_k _ _ (show 4 ≠ 13 by decide)).trans c1
  · show (clQ (skb M L q.1) q).2.2.2.2.1 + 0 ≤ _
    rw [e5, k1]
    omega
  · rw [e5] at hi
    rw [show rnxt Y 1 = Y 1 from up2_row (by decide)]
    by_cases y : i < q.2.2.2.2.1
    · rw [show (clQ (skb M L q.1) q).2.2.2.2.2.2.2.2.1 i = q.2.2.2.2.2.2.2.2.1 i from d3 i y]
      exact c3 i y
    · obtain ⟨j, hj, ej⟩ : ∃ j, j < ps.length ∧ i = q.2.2.2.2.1 + j := ⟨i - q.2.2.2.2.1, by omega, by omega⟩
      subst ej
      rw [show (clQ (skb M L q.1) q).2.2.2.2.2.2.2.2.1 (q.2.2.2.2.1 + j) = ps.getD j 0 from d4 j hj]
      exact c4 j hj
theorem gc_k {M : mM} {tx : Nat → Nat} {L o w0 : Nat} {v : Int32} {Y : rZ} {q qm : pS} {ps : List Int32} (T : txM M tx L) (I : prI M tx L Y q (o + 1)) (K : mkI q qm ps w0 v) (h : rtok Y = nI 41) : (v = 20 → gcB M L q = (true, clQ (skb M L q.1) q)) ∧ (v = 23 → gcB M L q = (true, cdS (clQ (skb M L q.1) q) 5)) ∧ (v = 24 → gcB M L q = (true, cdS (clQ (skb M L q.1) q) 6)) := by
  obtain ⟨S, hw, ht, hv, hb, hp⟩ := K
  obtain ⟨d1, -, -, -⟩ := tm_dq (a := skb M L q.1 + 1) (eN := q.2.1) S hw ht hv hb hp
  obtain ⟨m1, m2⟩ := mk_top (a := skb M L q.1) (eN := q.2.1) S hw ht hv hb hp
  have lk := (tok_c T I.1 (c := 41) (by decide) sg_ok.2.1).1.mpr h
  obtain ⟨aT, eN, bD, bP, cD, wT, oP, bS, cS, wS⟩ := q
  have mt : (dwQ ((skb M L aT) + 1, eN, bD, bP, cD, wT, oP, bS, cS, wS) (tmP bS wS)).2.2.2.2.2.2.2.2.2 ((dwQ ((skb M L aT) + 1, eN, bD, bP, cD, wT, oP, bS, cS, wS) (tmP bS wS)).2.2.2.2.2.1 - 1) = v := by
    have d1' : (dwQ ((skb M L aT) + 1, eN, bD, bP, cD, wT, oP, bS, cS, wS) (tmP bS wS)).2.2.2.2.2.1 = w0 + 1 := d1
    rw [d1']
    exact m2
  have mv : mkV ((skb M L aT), eN, bD, bP, cD, wT, oP, bS, cS, wS) = v := m1
  refine ⟨fun e => ?_, fun e => ?_, fun e => ?_⟩ <;> subst e
  · exact (if_pos lk).trans ((if_pos mv).trans (if_pos mt))
  · exact (if_pos lk).trans ((if_neg (by rw [mv]; decide)).trans ((if_pos mv).trans ((if_neg (by rw [mt]; decide)).trans (if_pos mt))))
  · exact (if_pos lk).trans ((if_neg (by rw [mv]; decide)).trans ((if_neg (by rw [mv]; decide)).trans ((if_pos mv).trans ((if_neg (by rw [mt]; decide)).trans (if_neg (by rw [mt]; decide))))))
theorem skQ_e {M : mM} {tx : Nat → Nat} {L : Nat} {Y : rZ} {q : pS} (T : txM M tx L) (C : cur9 M tx L Y q) (h0 : q.2.2.1 = 0) (h3 : rjn 3 (rtok Y) = false) (h2 : rjn 2 (rtok Y) = false) : bI (tgQ M L (skb M L q.1, q.2) 42) = 0 ∧ bI (tgQ M L (skb M L q.1, q.2) 47) = 0 ∧ bI (tgQ M L (skb M L q.1, q.2) 43) = 0 ∧ bI (tgQ M L (skb M L q.1, q.2) 45) = 0 := by
  obtain ⟨s40, s41, s42, s43, s44, s45, s47, -⟩ := sg_ok
  have t42 := tg_e T C h0 (c := 42) (by decide) s42
  have t47 := tg_e T C h0 (c := 47) (by decide) s47
  have t43 := tg_e T C h0 (c := 43) (by decide) s43
  have t45 := tg_e T C h0 (c := 45) (by decide) s45
  unfold rjn at h3 h2
  rw [if_neg (by decide), if_neg (by decide), if_neg (by decide)] at h3
  rw [if_neg (by decide), if_neg (by decide), if_pos rfl] at h2
  have n3 := of_decide_eq_false h3
  have n2 := of_decide_eq_false h2
  rw [decide_eq_false (show ¬ rtok Y = nI 42 from fun z => n3 (Or.inl z))] at t42
  rw [decide_eq_false (show ¬ rtok Y = nI 47 from fun z => n3 (Or.inr z))] at t47
  rw [decide_eq_false (show ¬ rtok Y = nI 43 from fun z => n2 (Or.inl z))] at t43
  rw [decide_eq_false (show ¬ rtok Y = nI 45 from fun z => n2 (Or.inr z))] at t45
  rw [show (42 : Int32) = nI 42 from rfl, show (47 : Int32) = nI 47 from rfl, show (43 : Int32) = nI 43 from rfl, show (45 : Int32) = nI 45 from rfl, t42, t47, t43, t45]
  exact ⟨rfl, rfl, rfl, rfl⟩
theorem stp_1 {M : mM} {tx : Nat → Nat} {L : Nat} {Y : rZ} {q : pS} (T : txM M tx L) (C : cur9 M tx L Y q) : stp9 (skb M L q.1, q.2.1, 1, nI (skb M L q.1), q.2.2.2.2) (rref Y 1 (rher Y)) := by
  refine ⟨by show ¬ (1 : Int32) = 0; decide, ?_, ?_⟩
  · exact (up2_k _ _ (show 1 ≠ 2 by decide)).trans (up2_s _ _ _ _)
  · exact (up2_s _ _ _ _).trans (cur_at T C).1.2.1
theorem bad_k {M : mM} {tx : Nat → Nat} {L o w0 : Nat} {v : Int32} {Y : rZ} {q qm : pS} {ps : List Int32} (T : txM M tx L) (I : prI M tx L Y q o) (K : mkI q qm ps w0 v) (hv9 : v = 20 ∨ v = 23 ∨ v = 24) (h : ¬ rtok Y = nI 41) (h3 : rjn 3 (rtok Y) = false) (h2 : rjn 2 (rtok Y) = false) : stp9 (goK9 M L q) (rref Y 1 (rher Y)) := by
  obtain ⟨S, hw, ht, hv, hb, hp⟩ := K
  obtain ⟨m1, -⟩ := mk_top (a := skb M L q.1) (eN := q.2.1) S hw ht hv hb hp
  have eg := gon_sg T I h
  obtain ⟨t1, t2, t3, t4⟩ := skQ_e T I.1 I.2.1.1 h3 h2
  have st := stp_1 T I.1
  have h0 := I.2.1.1
  have es : gsR M L (skb M L q.1, q.2) = (false, (skb M L q.1, q.2.1, 1, nI (skb M L q.1), q.2.2.2.2)) := by
    obtain ⟨aT, eN, bD, bP, cD, wT, oP, bS, cS, wS⟩ := q
    have mv : mkV ((skb M L aT), eN, bD, bP, cD, wT, oP, bS, cS, wS) = v := m1
    have n21 : ¬ v = 21 := by rcases hv9 with e | e | e <;> subst e <;> decide
    have n22 : ¬ v = 22 := by rcases hv9 with e | e | e <;> subst e <;> decide
    have n1 : ¬ v = -1 := by rcases hv9 with e | e | e <;> subst e <;> decide
    have ef : flS9 ((skb M L aT), eN, bD, bP, cD, wT, oP, bS, cS, wS) 1 (nI (skb M L aT)) = ((skb M L aT), eN, 1, nI (skb M L aT), cD, wT, oP, bS, cS, wS) := fl_0 h0
    have h0' : bD = 0 := h0
    refine ((if_pos t1).trans ((if_pos t2).trans ((if_pos t3).trans ((if_pos t4).trans ((if_neg (by rw [mv]; exact n21)).trans ((if_neg (by rw [mv]; exact n22)).trans ((if_neg (by rw [mv]; exact n1)).trans (if_pos h0')))))))).trans ?_
    rw [ef]
  unfold goK9
  rw [eg, es]
  exact st
