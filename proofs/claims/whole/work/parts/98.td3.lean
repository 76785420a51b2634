/-! ===== the parsers agree: the closing of a test's bracket ===== -/
def brQ (p : Nat) (q : pS) : pS := s6 (s5 (dwQ (p + 1, q.2.1, q.2.2) (nsP q.2.2.2.2.2.2.2.2.2)) ((dwQ (p + 1, q.2.1, q.2.2) (nsP q.2.2.2.2.2.2.2.2.2)).2.2.2.2.2.1 - 1)) ((dwQ (p + 1, q.2.1, q.2.2) (nsP q.2.2.2.2.2.2.2.2.2)).2.2.2.2.2.2.1 - 1)
/-- the mark of a test's bracket lies under what waits -/
def mbI (q qm : pS) (ps : List Int32) (w0 : Nat) : Prop := skI9 q qm ps ∧ qm.2.2.2.2.2.1 = w0 + 1 ∧ qm.2.2.2.2.2.2.2.2.2 w0 = 25 ∧ ∀ j, j < ps.length → PO (ps.getD j 0) = true
theorem PO_25 {x : Int32} (h : PO x = true) : ¬ x = 25 := fun e => by
  subst e
  exact absurd h (by decide)
theorem ns_dq {q qm : pS} {ps : List Int32} {w0 a : Nat} {eN : Int32} (K : mbI q qm ps w0) : (dwQ (a, eN, q.2.2) (nsP q.2.2.2.2.2.2.2.2.2)).2.2.2.2.2.1 = w0 + 1 ∧ (dwQ (a, eN, q.2.2) (nsP q.2.2.2.2.2.2.2.2.2)).2.2.2.2.1 = q.2.2.2.2.1 + ps.length ∧ (∀ i, i < q.2.2.2.2.1 → (dwQ (a, eN, q.2.2) (nsP q.2.2.2.2.2.2.2.2.2)).2.2.2.2.2.2.2.2.1 i = q.2.2.2.2.2.2.2.2.1 i) ∧ ∀ j, j < ps.length → (dwQ (a, eN, q.2.2) (nsP q.2.2.2.2.2.2.2.2.2)).2.2.2.2.2.2.2.2.1 (q.2.2.2.2.1 + j) = ps.getD j 0 := by
  obtain ⟨S, hw, ht, hp⟩ := K
  have S2 : skI9 (a, eN, q.2.2) qm ps := S
  have e0 : q.2.2.2.2.2.2.2.2.2 w0 = 25 := (S.2.2.1 w0 (by omega)).trans ht
  rw [← hw]
  refine dq_at S2 (fun j hj => ?_) (Or.inr ?_)
  · obtain ⟨i, hi, e⟩ := wt_at S.2.2.2 hj
    show (!decide (q.2.2.2.2.2.2.2.2.2 (qm.2.2.2.2.2.1 + j) = 25)) = true
    rw [e, decide_eq_false (PO_25 (hp i hi))]
    rfl
  · show (!decide (q.2.2.2.2.2.2.2.2.2 (qm.2.2.2.2.2.1 - 1) = 25)) = false
    rw [hw, show w0 + 1 - 1 = w0 from rfl, decide_eq_true e0]
    rfl
theorem br_b {M : mM} {tx : Nat → Nat} {L o w0 : Nat} {Y : rZ} {q qm : pS} {ps : List Int32} (T : txM M tx L) (I : prI M tx L Y q (o + 1)) (D : cdI tx L Y q ps) (K : mbI q qm ps w0) (h : rtok Y = nI 93) : (prI M tx L (rnxt Y) (brQ (skb M L q.1) q) o ∧ cdI tx L (rnxt Y) (brQ (skb M L q.1) q) []) ∧ (brQ (skb M L q.1) q).2.2.2.2.2.1 = w0 ∧ (brQ (skb M L q.1) q).2.2.2.2.1 = q.2.2.2.2.1 + ps.length ∧ cnt tx L (brQ (skb M L q.1) q).1 = cnt tx L q.1 + 1 := by
  obtain ⟨d1, d2, d3, d4⟩ := ns_dq (a := skb M L q.1 + 1) (eN := q.2.1) K
  obtain ⟨S, hw, ht, hp⟩ := K
  have hcur := (tok_c T I.1 (c := 93) (by decide) sg_ok.2.2.2.2.2.2.2.2.2.2.2.2).2 h (brQ (skb M L q.1) q) rfl rfl
  have k1 := jn_cnt T I.1 hcur
  obtain ⟨C, ⟨z0, z1⟩, ⟨i1, i2⟩, i3, i4⟩ := I
  obtain ⟨c1, c2, c3, c4⟩ := D
  have hle := (skb_le (M := M) (L := L) (a := q.1)).1
  have e6 : (brQ (skb M L q.1) q).2.2.2.2.2.1 = w0 := by
    show (dwQ (skb M L q.1 + 1, q.2.1, q.2.2) (nsP q.2.2.2.2.2.2.2.2.2)).2.2.2.2.2.1 - 1 = w0
    rw [d1]
    rfl
  have e5 : (brQ (skb M L q.1) q).2.2.2.2.1 = q.2.2.2.2.1 + ps.length := d2
  have s1 := S.1
  refine ⟨⟨⟨hcur, ⟨z0, (up2_k _ _ (show 1 ≠ 13 by decide)).trans z1⟩, ⟨hcur.2.2.1, ?_⟩, ?_, by omega⟩, ?_, ?_, fun i hi => ?_, fun j hj => absurd hj (Nat.not_lt_zero j)⟩, e6, e5, k1⟩
  · rw [e5, e6]
    show _ ≤ (skb M L q.1 + 1) + 2
    have : q.2.2.2.2.1 + q.2.2.2.2.2.1 ≤ q.1 + 2 := i2
    omega
  · show q.2.2.2.2.2.2.1 - 1 = _
    rw [i3, show (1 : Int32) = nI 1 from rfl, nI_sub (a := o + 1) (b := 1) (by omega)]
    rfl
  · show rnxt Y 0 4 = nI ((brQ (skb M L q.1) q).2.2.2.2.1 + 0)
    rw [e5, Nat.add_zero]
    exact (up2_k _ _ (show 4 ≠ 13 by decide)).trans c1
  · show (brQ (skb M L q.1) q).2.2.2.2.1 + 0 ≤ _
    rw [e5, k1]
    omega
  · rw [e5] at hi
    rw [show rnxt Y 1 = Y 1 from up2_row (by decide)]
    by_cases y : i < q.2.2.2.2.1
    · rw [show (brQ (skb M L q.1) q).2.2.2.2.2.2.2.2.1 i = q.2.2.2.2.2.2.2.2.1 i from d3 i y]
      exact c3 i y
    · obtain ⟨j, hj, ej⟩ : ∃ j, j < ps.length ∧ i = q.2.2.2.2.1 + j := ⟨i - q.2.2.2.2.1, by omega, by omega⟩
      subst ej
      rw [show (brQ (skb M L q.1) q).2.2.2.2.2.2.2.2.1 (q.2.2.2.2.1 + j) = ps.getD j 0 from d4 j hj]
      exact c4 j hj
/-- a mark waits somewhere -/
theorem hs_mb {q qm : pS} {ps : List Int32} {w0 a : Nat} {eN : Int32} (K : mbI q qm ps w0) : hsV (a, eN, q.2.2) = true := by
  obtain ⟨S, hw, ht, hp⟩ := K
  have s1 := S.1
  exact anyb_in (k := w0) (show w0 < q.2.2.2.2.2.1 by omega) (decide_eq_true ((S.2.2.1 w0 (by omega)).trans ht))
theorem got_br {M : mM} {tx : Nat → Nat} {L o w0 : Nat} {Y : rZ} {q qm : pS} {ps : List Int32} (T : txM M tx L) (I : prI M tx L Y q o) (K : mbI q qm ps w0) (h16 : no16 q) (h : rtok Y = nI 93) : gotK M L q = gotK M L (brQ (skb M L q.1) q) := by
  have lk := (tok_c T I.1 (c := 93) (by decide) sg_ok.2.2.2.2.2.2.2.2.2.2.2.2).1.mpr h
  have hv := hs_mb (a := skb M L q.1) (eN := q.2.1) K
  have h0 := I.2.1.1
  have hd := dn_id h16
  have eb : gtB M L q = (true, dnQ (brQ (skb M L q.1) q)) := by
    obtain ⟨aT, eN, bD, bP, cD, wT, oP, bS, cS, wS⟩ := q
    exact (if_pos lk).trans (if_neg (by
      have hv' : hsV ((skb M L aT), eN, bD, bP, cD, wT, oP, bS, cS, wS) = true := hv
      rw [hv']
      decide))
  have e1 : tsC M L q = gotQ M L q := by
    unfold tsC
    rw [hd, if_pos h0]
  have e2 : tsC M L (brQ (skb M L q.1) q) = gotQ M L (dnQ (brQ (skb M L q.1) q)) := by
    unfold tsC
    exact if_pos (show (dnQ (brQ (skb M L q.1) q)).2.2.1 = 0 from (dnQ_b _).1.trans h0)
  have e3 := got_gt T.1 I.2.2.1 (by rw [eb])
  rw [eb] at e3
  unfold gotK
  rw [e1, e2, e3]
