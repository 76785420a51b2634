/-! ===== the parsers agree: what opens in a test ===== -/
theorem ts_91 {M : mM} {tx : Nat → Nat} {L o : Nat} {Z : rZ} {q : pS} (T : txM M tx L) (I : prI M tx L Z q o) (h : rtok Z = nI 91) : (o < 6 → tsF M L 700 q = tsF M L 700 (pshQ (skb M L q.1) 25 q)) ∧ (o = 6 → stp9 (tsF M L 700 q) (rref Z 3 (rher Z))) := by
  have lk := (tok_c T I.1 (c := 91) (by decide) sg_ok.2.2.2.2.2.2.2.2.2.2.2.1).1.mpr h
  have e : tsB M L q = (true, s0 (opS (skb M L q.1, q.2) 25 (nI (skb M L q.1))) ((opS (skb M L q.1, q.2) 25 (nI (skb M L q.1))).1 + 1)) := by
    obtain ⟨aT, eN, bD, bP, cD, wT, oP, bS, cS, wS⟩ := q
    exact if_pos lk
  have hop := tsF_q (M := M) T.1 I.2.2.1 I.2.1.1
  rw [e, if_pos rfl] at hop
  refine ⟨fun ho => ?_, fun ho => ?_⟩
  · rw [hop, opS_o (q := (skb M L q.1, q.2)) I.2.2.2.1 ho]
    rfl
  · have h6 : q.2.2.2.2.2.2.1 = nI 6 := by rw [I.2.2.2.1, ho]
    rw [hop, opS_6 (q := (skb M L q.1, q.2)) h6 I.2.1.1, tsF_x (show ¬ (3 : Int32) = 0 by decide)]
    exact ⟨show ¬ (3 : Int32) = 0 by decide, (rref_at (Z := Z) (k := 3) (p := rher Z)).1, (rref_at (Z := Z) (k := 3) (p := rher Z)).2.trans (cur_at T I.1).1.2.1⟩
/-- a word is taken and a mark is put -/
def wpsQ (p l : Nat) (v : Int32) (q : pS) : pS := (p + l, nI (p + l), q.2.2.1, q.2.2.2.1, q.2.2.2.2.1, q.2.2.2.2.2.1 + 1, q.2.2.2.2.2.2.1 + 1, q.2.2.2.2.2.2.2.1, q.2.2.2.2.2.2.2.2.1, va_up q.2.2.2.2.2.2.2.2.2 q.2.2.2.2.2.1 v)
theorem wps_pr {M : mM} {tx : Nat → Nat} {L o : Nat} {Z : rZ} {q : pS} (T : txM M tx L) (R : rV M) (I : prI M tx L Z q o) (D : cdI tx L Z q []) (h : rtok Z = nI 11) (ho : o < 6) : prI M tx L (rnxt Z) (wpsQ (skb M L q.1) 3 16 q) (o + 1) ∧ cdI tx L (rnxt Z) (wpsQ (skb M L q.1) 3 16 q) [] ∧ skI9 (wpsQ (skb M L q.1) 3 16 q) q [16] := by
  have hcur : cur9 M tx L (rnxt Z) (wpsQ (skb M L q.1) 3 16 q) := adv_w T I.1 (show 11 < 23 by decide) ((tok_w T I.1 I.2.1.1 (by decide) (rV_K R (show 11 < 23 by decide))).2 h) _ rfl rfl
  obtain ⟨C, ⟨z0, z1⟩, ⟨i1, i2⟩, i3, i4⟩ := I
  obtain ⟨c1, c2, c3, -⟩ := D
  have hle := (skb_le (M := M) (L := L) (a := q.1)).1
  have k1 := jn_cnt T C hcur
  refine ⟨⟨hcur, ⟨z0, (up2_k _ _ (show 1 ≠ 13 by decide)).trans z1⟩, ⟨hcur.2.2.1, ?_⟩, ?_, by omega⟩, ⟨(up2_k _ _ (show 4 ≠ 13 by decide)).trans c1, ?_, fun i hi => ?_, fun j hj => absurd hj (Nat.not_lt_zero j)⟩, rfl, rfl, fun i hi => va_n (by omega), fun j hj => ?_⟩
  · show q.2.2.2.2.1 + (q.2.2.2.2.2.1 + 1) ≤ (skb M L q.1 + 3) + 2
    have : q.2.2.2.2.1 + q.2.2.2.2.2.1 ≤ q.1 + 2 := i2
    omega
  · show q.2.2.2.2.2.2.1 + 1 = _
    rw [i3, nI_1]
  · rw [k1]
    have : q.2.2.2.2.1 + 0 ≤ cnt tx L q.1 := c2
    show q.2.2.2.2.1 + 0 ≤ _
    omega
  · rw [show rnxt Z 1 = Z 1 from up2_row (by decide)]
    exact c3 i hi
  · have e0 : j = 0 := by
      have : j < 1 := hj
      omega
    subst e0
    exact va_s
theorem ts_11 {M : mM} {tx : Nat → Nat} {L o : Nat} {Z : rZ} {q : pS} (T : txM M tx L) (R : rV M) (I : prI M tx L Z q o) (h : rtok Z = nI 11) : (o < 6 → tsF M L 700 q = tsF M L 700 (wpsQ (skb M L q.1) 3 16 q)) ∧ (o = 6 → stp9 (tsF M L 700 q) (rref Z 3 (rher Z))) := by
  have C9 : cur9 M tx L Z (skb M L q.1, q.2) := cur_sk T I.1 rfl rfl
  have hid := skb_id T I.1.2.2.1
  obtain ⟨e1, -⟩ := (hqW (k := 11) (l := 3) (r := 13) T R C9 I.2.1.1 (by decide) rfl rfl).1 h
  have n91 : ¬ lkV M L q.1 = nI 91 := fun z => absurd ((tok_c T I.1 (c := 91) (by decide) sg_ok.2.2.2.2.2.2.2.2.2.2.2.1).1.mp z) (by rw [h]; decide)
  have e : tsB M L q = (true, asS9 M L (opS (skb M L q.1, q.2) 16 (nI (skb M L q.1))) 3 (M 13)) := by
    obtain ⟨aT, eN, bD, bP, cD, wT, oP, bS, cS, wS⟩ := q
    exact (if_neg n91).trans (if_neg (by rw [e1]; decide))
  have hop := tsF_q (M := M) T.1 I.2.2.1 I.2.1.1
  rw [e, if_pos rfl] at hop
  refine ⟨fun ho => ?_, fun ho => ?_⟩
  · rw [hop, opS_o (q := (skb M L q.1, q.2)) I.2.2.2.1 ho]
    have C8 : cur9 M tx L Z (psS (skb M L q.1, q.2.1, q.2.2.1, q.2.2.2.1, q.2.2.2.2.1, q.2.2.2.2.2.1, q.2.2.2.2.2.2.1 + 1, q.2.2.2.2.2.2.2) 16) := cur_sk T I.1 rfl rfl
    obtain ⟨e8, -⟩ := (hqW (k := 11) (l := 3) (r := 13) T R C8 I.2.1.1 (by decide) rfl rfl).1 h
    have ea : asS9 M L (psS (skb M L q.1, q.2.1, q.2.2.1, q.2.2.2.1, q.2.2.2.2.1, q.2.2.2.2.2.1, q.2.2.2.2.2.2.1 + 1, q.2.2.2.2.2.2.2) 16) 3 (M 13) = wpsQ (skb M L q.1) 3 16 q := by
      refine (if_pos I.2.1.1).trans ((if_pos e8).trans ((if_pos e8).trans ?_))
      show (skb M L (skb M L q.1) + 3, nI (skb M L (skb M L q.1) + 3), _) = _
      rw [hid]
      rfl
    exact congrArg (tsF M L 700) ea
  · have h6 : q.2.2.2.2.2.2.1 = nI 6 := by rw [I.2.2.2.1, ho]
    rw [hop, opS_6 (q := (skb M L q.1, q.2)) h6 I.2.1.1]
    have ea : asS9 M L ((skb M L q.1, q.2.1, 3, nI (skb M L q.1), q.2.2.2.2) : pS) 3 (M 13) = (skb M L q.1, q.2.1, 3, nI (skb M L q.1), q.2.2.2.2) := if_neg (show ¬ (3 : Int32) = 0 by decide)
    show stp9 (tsF M L 700 (asS9 M L ((skb M L q.1, q.2.1, 3, nI (skb M L q.1), q.2.2.2.2) : pS) 3 (M 13))) _
    rw [ea, tsF_x (show ¬ (3 : Int32) = 0 by decide)]
    exact ⟨show ¬ (3 : Int32) = 0 by decide, (rref_at (Z := Z) (k := 3) (p := rher Z)).1, (rref_at (Z := Z) (k := 3) (p := rher Z)).2.trans (cur_at T I.1).1.2.1⟩
