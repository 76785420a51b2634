/-! ===== the parsers agree: min and max ===== -/
theorem ag_ok {M : mM} {L : Nat} {q : pS} {c : Int32} (h0 : q.2.2.1 = 0) (h : lkV M L q.1 = c) : agS M L q c = (skb M L q.1 + 1, q.2) := by
  have e1 : tgQ M L q c = true := by
    unfold tgQ
    rw [if_pos h0]
    exact decide_eq_true h
  have e2 : tgS M L q c = (skb M L q.1 + 1, q.2) := (if_pos h0).trans (if_pos h)
  unfold agS
  rw [if_pos h0, if_pos e1, e2]
theorem ag_no {M : mM} {L : Nat} {q : pS} {c : Int32} (h0 : q.2.2.1 = 0) (h : ¬ lkV M L q.1 = c) : agS M L q c = (skb M L q.1, q.2.1, 1, nI (skb M L q.1), q.2.2.2.2) := by
  have e1 : ¬ tgQ M L q c = true := by
    unfold tgQ
    rw [if_pos h0, decide_eq_false h]
    exact fun z => Bool.noConfusion z
  have e2 : tgS M L q c = (skb M L q.1, q.2) := (if_pos h0).trans (if_neg h)
  unfold agS
  rw [if_pos h0, if_neg e1, e2]
  exact fl_0 h0
theorem ag_x {M : mM} {L : Nat} {q : pS} {c : Int32} (h0 : ¬ q.2.2.1 = 0) : agS M L q c = q := if_neg h0
theorem opB_m {M : mM} {tx : Nat → Nat} {L k : Nat} {v : Int32} {Z : rZ} {q q1 : pS} (T : txM M tx L) (R : rV M) (C : cur9 M tx L Z q) (h0 : q.2.2.1 = 0) (hk : (k = 7 ∧ v = 21) ∨ (k = 8 ∧ v = 22)) (h : rtok Z = nI k) (e1 : q1 = wkQ M L k (skb M L q.1, q.2)) : opB M L q = (true, if lkV M L q1.1 = 40 then agS M L (opS (skb M L q1.1, q1.2) v (nI (skb M L q1.1))) 40 else agS M L (skb M L q1.1, q1.2) 40) := by
  have C9 : cur9 M tx L Z (skb M L q.1, q.2) := cur_sk T C rfl rfl
  have q7 := hq_e T R C9 h0 (k := 7) (by decide)
  have q8 := hq_e T R C9 h0 (k := 8) (by decide)
  have h1 := (tok_c T C (c := 40) (by decide) sg_ok.1).1
  rcases hk with ⟨ek, ev9⟩ | ⟨ek, ev9⟩
  · subst ek; subst ev9
    rw [h, decide_eq_true rfl] at q7
    have tk := tk_at (M := M) (L := L) (k := 7) (q := (skb M L q.1, q.2)) q7
    rw [← e1] at tk
    have h40 : ¬ lkV M L q.1 = nI 40 := fun z => absurd (h1.mp z) (by rw [h]; decide)
    obtain ⟨aT, eN, bD, bP, cD, wT, oP, bS, cS, wS⟩ := q
    have q7' : hrQ M L ((skb M L aT), eN, bD, bP, cD, wT, oP, bS, cS, wS) 3 (M 23) = true := q7
    have tk' : tkS9 M L ((skb M L aT), eN, bD, bP, cD, wT, oP, bS, cS, wS) 3 (M 23) = q1 := tk
    refine (if_neg h40).trans ((if_neg (by rw [q7']; decide)).trans ?_)
    rw [tk']
    by_cases y : lkV M L q1.1 = 40
    · exact (if_pos y).trans (congrArg (Prod.mk true) (if_pos y).symm)
    · exact (if_neg y).trans (congrArg (Prod.mk true) (if_neg y).symm)
  · subst ek; subst ev9
    rw [h, decide_eq_true rfl] at q8
    rw [h, decide_eq_false (show ¬ nI 8 = nI 7 by decide)] at q7
    have tk := tk_at (M := M) (L := L) (k := 8) (q := (skb M L q.1, q.2)) q8
    rw [← e1] at tk
    have h40 : ¬ lkV M L q.1 = nI 40 := fun z => absurd (h1.mp z) (by rw [h]; decide)
    obtain ⟨aT, eN, bD, bP, cD, wT, oP, bS, cS, wS⟩ := q
    have q7' : hrQ M L ((skb M L aT), eN, bD, bP, cD, wT, oP, bS, cS, wS) 3 (M 23) = false := q7
    have q8' : hrQ M L ((skb M L aT), eN, bD, bP, cD, wT, oP, bS, cS, wS) 3 (M 24) = true := q8
    have tk' : tkS9 M L ((skb M L aT), eN, bD, bP, cD, wT, oP, bS, cS, wS) 3 (M 24) = q1 := tk
    refine (if_neg h40).trans ((if_pos (by rw [q7']; rfl)).trans ((if_neg (by rw [q8']; decide)).trans ?_))
    rw [tk']
    by_cases y : lkV M L q1.1 = 40
    · exact (if_pos y).trans (congrArg (Prod.mk true) (if_pos y).symm)
    · exact (if_neg y).trans (congrArg (Prod.mk true) (if_neg y).symm)
/-- behind min or max: the bracket is there, or not -/
theorem op_m {M : mM} {tx : Nat → Nat} {L o k : Nat} {v : Int32} {Z : rZ} {q q1 : pS} (T : txM M tx L) (R : rV M) (I : prI M tx L Z q o) (hk : (k = 7 ∧ v = 21) ∨ (k = 8 ∧ v = 22)) (h : rtok Z = nI k) (e1 : q1 = wkQ M L k (skb M L q.1, q.2)) (I1 : prI M tx L (rnxt Z) q1 o) : (rtok (rnxt Z) = nI 40 → o < 6 → sumF M L 700 q = sumF M L 700 (pshQ (skb M L q1.1) v q1)) ∧ (rtok (rnxt Z) = nI 40 → o = 6 → stp9 (sumF M L 700 q) (rref (rnxt Z) 3 (rher (rnxt Z)))) ∧ (¬ rtok (rnxt Z) = nI 40 → stp9 (sumF M L 700 q) (rref (rnxt Z) 1 (rher (rnxt Z)))) := by
  have e := opB_m T R I.1 I.2.1.1 hk h e1
  have hop := sum_op T.1 I.2.2.1 I.2.1.1 (by rw [e])
  rw [e] at hop
  have h1 := (tok_c T I1.1 (c := 40) (by decide) sg_ok.1).1
  have hid := skb_id T I1.1.2.2.1
  refine ⟨fun y ho => ?_, fun y ho => ?_, fun y => ?_⟩
  · have lk : lkV M L q1.1 = 40 := h1.mpr y
    have lk2 : lkV M L (skb M L q1.1) = 40 := (lk_sk T I1.1.2.2.1).trans lk
    rw [hop]
    show sumF M L 700 (if lkV M L q1.1 = 40 then agS M L (opS (skb M L q1.1, q1.2) v (nI (skb M L q1.1))) 40 else agS M L (skb M L q1.1, q1.2) 40) = _
    rw [if_pos lk, opS_o (q := (skb M L q1.1, q1.2)) I1.2.2.2.1 ho, ag_ok (q := psS (skb M L q1.1, q1.2.1, q1.2.2.1, q1.2.2.2.1, q1.2.2.2.2.1, q1.2.2.2.2.2.1, q1.2.2.2.2.2.2.1 + 1, q1.2.2.2.2.2.2.2) v) I1.2.1.1 lk2]
    show sumF M L 700 (skb M L (skb M L q1.1) + 1, _) = _
    rw [hid]
    rfl
  · have lk : lkV M L q1.1 = 40 := h1.mpr y
    have h6 : q1.2.2.2.2.2.2.1 = nI 6 := by rw [I1.2.2.2.1, ho]
    rw [hop]
    show stp9 (sumF M L 700 (if lkV M L q1.1 = 40 then agS M L (opS (skb M L q1.1, q1.2) v (nI (skb M L q1.1))) 40 else agS M L (skb M L q1.1, q1.2) 40)) _
    rw [if_pos lk, opS_6 (q := (skb M L q1.1, q1.2)) h6 I1.2.1.1, ag_x (show ¬ (3 : Int32) = 0 by decide), sumF_x (show ¬ (3 : Int32) = 0 by decide)]
    exact ⟨show ¬ (3 : Int32) = 0 by decide, (rref_at (Z := rnxt Z) (k := 3) (p := rher (rnxt Z))).1, (rref_at (Z := rnxt Z) (k := 3) (p := rher (rnxt Z))).2.trans (cur_at T I1.1).1.2.1⟩
  · have lk : ¬ lkV M L q1.1 = 40 := fun z => y (h1.mp z)
    have lk2 : ¬ lkV M L (skb M L q1.1) = 40 := by rw [lk_sk T I1.1.2.2.1]; exact lk
    have st := stp_1 T I1.1
    rw [hop]
    show stp9 (sumF M L 700 (if lkV M L q1.1 = 40 then agS M L (opS (skb M L q1.1, q1.2) v (nI (skb M L q1.1))) 40 else agS M L (skb M L q1.1, q1.2) 40)) _
    rw [if_neg lk, ag_no (q := (skb M L q1.1, q1.2)) I1.2.1.1 lk2, sumF_x (show ¬ (1 : Int32) = 0 by decide)]
    show stp9 (skb M L (skb M L q1.1), q1.2.1, 1, nI (skb M L (skb M L q1.1)), q1.2.2.2.2) _
    rw [hid]
    exact st
