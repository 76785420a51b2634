/-! ===== the parsers agree: what opens and closes ===== -/
theorem mk_ps {ws : Nat → Int32} {b w0 : Nat} (hb : b ≤ w0) (hm : isMk (ws w0)) : ∀ (ps : List Int32), wtI ws (w0 + 1) ps → (∀ j, j < ps.length → ¬ isMk (ps.getD j 0)) → mkF ws b (w0 + 1 + ps.length) = ws w0
  | [], _, _ => by
    show mkF ws b (w0 + 1) = _
    have e : mkF ws b (w0 + 1) = if w0 < b then -1 else if isMk (ws w0) then ws w0 else mkF ws b w0 := rfl
    rw [e, if_neg (by omega), if_pos hm]
  | v :: ps, hw, hn => by
    obtain ⟨a1, a2⟩ := wtI_c hw
    have hl : (v :: ps).length = ps.length + 1 := rfl
    have e : mkF ws b (w0 + 1 + (v :: ps).length) = if w0 + 1 + ps.length < b then -1 else if isMk (ws (w0 + 1 + ps.length)) then ws (w0 + 1 + ps.length) else mkF ws b (w0 + 1 + ps.length) := rfl
    have h0 : ¬ isMk v := hn 0 (by omega)
    rw [e, if_neg (by omega), a1, if_neg h0]
    exact mk_ps hb hm ps a2 (fun j hj => hn (j + 1) (by omega))
theorem P1_mk {x : Int32} (h : P1 x = true) : ¬ isMk x := by
  unfold P1 at h
  simp only [Bool.or_eq_true, decide_eq_true_eq] at h
  rcases h with ((h | h) | h) | h <;> subst h <;> decide
/-- a sign is taken and a mark is put -/
def pshQ (p : Nat) (v : Int32) (q : pS) : pS := (p + 1, q.2.1, q.2.2.1, q.2.2.2.1, q.2.2.2.2.1, q.2.2.2.2.2.1 + 1, q.2.2.2.2.2.2.1 + 1, q.2.2.2.2.2.2.2.1, q.2.2.2.2.2.2.2.2.1, va_up q.2.2.2.2.2.2.2.2.2 q.2.2.2.2.2.1 v)
theorem psh_pr {M : mM} {tx : Nat → Nat} {L o c : Nat} {v : Int32} {Z : rZ} {q : pS} (T : txM M tx L) (I : prI M tx L Z q o) (D : cdI tx L Z q []) (hc : c < 256) (hs : isSg c) (h : rtok Z = nI c) (ho : o < 6) : prI M tx L (rnxt Z) (pshQ (skb M L q.1) v q) (o + 1) ∧ cdI tx L (rnxt Z) (pshQ (skb M L q.1) v q) [] ∧ skI9 (pshQ (skb M L q.1) v q) q [v] := by
  have hcur := (tok_c T I.1 hc hs).2 h (pshQ (skb M L q.1) v q) rfl rfl
  obtain ⟨C, ⟨z0, z1⟩, ⟨i1, i2⟩, i3, i4⟩ := I
  obtain ⟨c1, c2, c3, -⟩ := D
  have hle := (skb_le (M := M) (L := L) (a := q.1)).1
  have k1 := jn_cnt T C hcur
  refine ⟨⟨hcur, ⟨z0, (up2_k _ _ (show 1 ≠ 13 by decide)).trans z1⟩, ⟨hcur.2.2.1, ?_⟩, ?_, by omega⟩, ⟨(up2_k _ _ (show 4 ≠ 13 by decide)).trans c1, ?_, fun i hi => ?_, fun j hj => absurd hj (Nat.not_lt_zero j)⟩, rfl, rfl, fun i hi => va_n (by omega), fun j hj => ?_⟩
  · show q.2.2.2.2.1 + (q.2.2.2.2.2.1 + 1) ≤ (skb M L q.1 + 1) + 2
    have : q.2.2.2.2.1 + q.2.2.2.2.2.1 ≤ q.1 + 2 := i2
    omega
  · show q.2.2.2.2.2.2.1 + 1 = _
    rw [i3, nI_1]
  · rw [k1]
    have : q.2.2.2.2.1 + 0 ≤ cnt tx L q.1 := c2
    show q.2.2.2.2.1 + 0 ≤ _
    omega
  · rw [show rnxt Z 1 = Z 1 from up2_row (by decide)]
    exact c3 i hi
  · have e0 : j = 0 := by
      have : j < 1 := hj
      omega
    subst e0
    exact va_s
theorem opS_6 {q : pS} {v p : Int32} (h : q.2.2.2.2.2.2.1 = nI 6) (h0 : q.2.2.1 = 0) : opS q v p = (q.1, q.2.1, 3, p, q.2.2.2.2) := (if_pos h).trans (fl_0 h0)
theorem opS_o {q : pS} {v p : Int32} {o : Nat} (h : q.2.2.2.2.2.2.1 = nI o) (ho : o < 6) : opS q v p = psS (q.1, q.2.1, q.2.2.1, q.2.2.2.1, q.2.2.2.2.1, q.2.2.2.2.2.1, q.2.2.2.2.2.2.1 + 1, q.2.2.2.2.2.2.2) v := if_neg (by rw [h, show (6 : Int32) = nI 6 from rfl]; exact nI_ne (a := o) (b := 6) (by omega) (by decide) (by omega))
/-- the opening of a bracket -/
theorem opB_40 {M : mM} {tx : Nat → Nat} {L : Nat} {Z : rZ} {q : pS} (T : txM M tx L) (C : cur9 M tx L Z q) (h : rtok Z = nI 40) : opB M L q = (true, s0 (opS (skb M L q.1, q.2) 20 (nI (skb M L q.1))) ((opS (skb M L q.1, q.2) 20 (nI (skb M L q.1))).1 + 1)) := by
  have h1 := (tok_c T C (c := 40) (by decide) sg_ok.1).1
  obtain ⟨aT, eN, bD, bP, cD, wT, oP, bS, cS, wS⟩ := q
  exact if_pos (h1.mpr h)
theorem op_40 {M : mM} {tx : Nat → Nat} {L o : Nat} {Z : rZ} {q : pS} (T : txM M tx L) (I : prI M tx L Z q o) (h : rtok Z = nI 40) : (o < 6 → sumF M L 700 q = sumF M L 700 (pshQ (skb M L q.1) 20 q)) ∧ (o = 6 → stp9 (sumF M L 700 q) (rref Z 3 (rher Z))) := by
  have e := opB_40 T I.1 h
  have hop := sum_op T.1 I.2.2.1 I.2.1.1 (by rw [e])
  rw [e] at hop
  refine ⟨fun ho => ?_, fun ho => ?_⟩
  · rw [hop, opS_o (q := (skb M L q.1, q.2)) I.2.2.2.1 ho]
    rfl
  · have h6 : q.2.2.2.2.2.2.1 = nI 6 := by rw [I.2.2.2.1, ho]
    rw [hop, opS_6 (q := (skb M L q.1, q.2)) h6 I.2.1.1, sumF_x (show ¬ (3 : Int32) = 0 by decide)]
    refine ⟨by show ¬ (3 : Int32) = 0; decide, ?_, ?_⟩
    · exact (up2_k _ _ (show 1 ≠ 2 by decide)).trans (up2_s _ _ _ _)
    · refine (up2_s _ _ _ _).trans ?_
      exact (cur_at T I.1).1.2.1
/-- the last mark -/
theorem mk_top {q qm : pS} {ps : List Int32} {v : Int32} {w0 a : Nat} {eN : Int32} (S : skI9 q qm ps) (hw : qm.2.2.2.2.2.1 = w0 + 1) (ht : qm.2.2.2.2.2.2.2.2.2 w0 = v) (hv : isMk v) (hb : bsQ qm ≤ w0) (hp : ∀ j, j < ps.length → P1 (ps.getD j 0) = true) : mkV (a, eN, q.2.2) = v ∧ q.2.2.2.2.2.2.2.2.2 w0 = v := by
  obtain ⟨s1, s2, s3, s4⟩ := S
  have e0 : q.2.2.2.2.2.2.2.2.2 w0 = v := (s3 w0 (by omega)).trans ht
  refine ⟨?_, e0⟩
  rw [hw] at s4 s1
  have h := mk_ps (b := bsQ q) (w0 := w0) (by rw [s2]; exact hb) (by rw [e0]; exact hv) ps s4 (fun j hj => P1_mk (hp j hj))
  show mkF q.2.2.2.2.2.2.2.2.2 (bsQ q) q.2.2.2.2.2.1 = v
  rw [s1, h, e0]
theorem tm_dq {q qm : pS} {ps : List Int32} {v : Int32} {w0 a : Nat} {eN : Int32} (S : skI9 q qm ps) (hw : qm.2.2.2.2.2.1 = w0 + 1) (ht : qm.2.2.2.2.2.2.2.2.2 w0 = v) (hv : isMk v) (hb : bsQ qm ≤ w0) (hp : ∀ j, j < ps.length → P1 (ps.getD j 0) = true) : (dwQ (a, eN, q.2.2) (tmP (bsQ q) q.2.2.2.2.2.2.2.2.2)).2.2.2.2.2.1 = w0 + 1 ∧ (dwQ (a, eN, q.2.2) (tmP (bsQ q) q.2.2.2.2.2.2.2.2.2)).2.2.2.2.1 = q.2.2.2.2.1 + ps.length ∧ (∀ i, i < q.2.2.2.2.1 → (dwQ (a, eN, q.2.2) (tmP (bsQ q) q.2.2.2.2.2.2.2.2.2)).2.2.2.2.2.2.2.2.1 i = q.2.2.2.2.2.2.2.2.1 i) ∧ ∀ j, j < ps.length → (dwQ (a, eN, q.2.2) (tmP (bsQ q) q.2.2.2.2.2.2.2.2.2)).2.2.2.2.2.2.2.2.1 (q.2.2.2.2.1 + j) = ps.getD j 0 := by
  obtain ⟨-, e0⟩ := mk_top (a := a) (eN := eN) S hw ht hv hb hp
  have S2 : skI9 (a, eN, q.2.2) qm ps := S
  rw [← hw]
  refine dq_at S2 (fun j hj => ?_) (Or.inr ?_)
  · obtain ⟨i, hi, e⟩ := wt_at S.2.2.2 hj
    unfold tmP
    rw [e, decide_eq_true (show bsQ q ≤ qm.2.2.2.2.2.1 + j by rw [S.2.1]; omega), decide_eq_false (P1_mk (hp i hi))]
    rfl
  · unfold tmP
    rw [hw, show w0 + 1 - 1 = w0 from rfl, e0, decide_eq_true hv]
    exact Bool.and_false _
