/-! ===== the parsers agree: a whole test of a statement ===== -/
theorem got_end {M : mM} {tx : Nat → Nat} {L o : Nat} {Y : rZ} {q qm : pS} {ps : List Int32} (T : txM M tx L) (R : rV M) (I : prI M tx L Y q o) (S : skI9 q qm ps) (hw : qm.2.2.2.2.2.1 = 0) (hp : ∀ j, j < ps.length → PO (ps.getD j 0) = true) (h16 : no16 q) (h0 : rjn 0 (rtok Y) = false) (h1 : rjn 1 (rtok Y) = false) : gotK M L q = (skb M L q.1, q.2) := by
  have C9 : cur9 M tx L Y (skb M L q.1, q.2) := cur_sk T I.1 rfl rfl
  unfold rjn at h0 h1
  rw [if_pos rfl] at h0
  rw [if_neg (by decide), if_pos rfl] at h1
  have e12 := (hqW (k := 12) (l := 3) (r := 12) T R C9 I.2.1.1 (by decide) rfl rfl).2 (show ¬ rtok Y = nI 12 from of_decide_eq_false h1)
  have e13 := (hqW (k := 13) (l := 2) (r := 11) T R C9 I.2.1.1 (by decide) rfl rfl).2 (show ¬ rtok Y = nI 13 from of_decide_eq_false h0)
  have hv : hsV (skb M L q.1, q.2) = false := by
    obtain ⟨s1, s2, s3, s4⟩ := S
    rw [hw] at s1 s4
    refine anyb_no (fun k hk => ?_)
    have hk' : k < q.2.2.2.2.2.1 := hk
    obtain ⟨i, hi, e⟩ := wt_at s4 (show k < ps.length by omega)
    rw [Nat.zero_add] at e
    exact decide_eq_false (by
      show ¬ q.2.2.2.2.2.2.2.2.2 k = 25
      rw [e]
      exact PO_25 (hp i hi))
  have hf := I.2.1.1
  have h93 := (tok_c T I.1 (c := 93) (by decide) sg_ok.2.2.2.2.2.2.2.2.2.2.2.2).1
  have eb : gtB M L q = (false, (skb M L q.1, q.2)) := by
    by_cases y : rtok Y = nI 93
    · have lk := h93.mpr y
      obtain ⟨aT, eN, bD, bP, cD, wT, oP, bS, cS, wS⟩ := q
      have hv' : hsV ((skb M L aT), eN, bD, bP, cD, wT, oP, bS, cS, wS) = false := hv
      exact (if_pos lk).trans (if_pos (by rw [hv']; rfl))
    · exact gt_no T I.1 y
  have ec : tsC M L q = gtR M L (skb M L q.1, q.2) := by
    unfold tsC
    rw [dn_id h16, if_pos hf, got_no T.1 I.2.2.1 (by rw [eb]; exact fun z => Bool.noConfusion z), eb]
  have es : gtR M L (skb M L q.1, q.2) = (false, (skb M L q.1, q.2)) := by
    obtain ⟨aT, eN, bD, bP, cD, wT, oP, bS, cS, wS⟩ := q
    have hv' : hsV ((skb M L aT), eN, bD, bP, cD, wT, oP, bS, cS, wS) = false := hv
    exact (if_pos (by rw [e12]; rfl)).trans ((if_pos (by rw [e13]; rfl)).trans (if_pos (by rw [hv']; rfl)))
  unfold gotK
  rw [ec, es]
  rfl
theorem tesS_at {M : mM} {tx : Nat → Nat} {L o : Nat} {Z : rZ} {q : pS} {r0 : rZ → Bool × rZ} (T : txM M tx L) (R : rV M) (H : orH M tx L o r0) (I : prI M tx L Z q o) (D : cdI tx L Z q []) (hw : q.2.2.2.2.2.1 = 0) : endP M tx L Z q o nxT (tesS M L q) (r0 Z) := by
  obtain ⟨f3, h3⟩ := H Z q I D (Or.inl hw) (Or.inl hw)
  unfold tesS
  rcases h3 with ⟨ok, q1, ps, g1, I1, D1, S1, p1, ⟨b1, b2⟩, n0, n1, -⟩ | ⟨no, st⟩
  · have ge := got_end T R I1 S1 hw p1 (no16_t S1 p1 (by decide) (Or.inl hw)) n0 n1
    rw [g1, ge]
    have hf0 : ((skb M L q1.1, q1.2) : pS).2.2.1 = 0 := I1.2.1.1
    have ed : dtA (skb M L q1.1, q1.2) = dwQ (skb M L q1.1, q1.2) (fun _ => true) := if_pos hf0
    have S9 : skI9 (skb M L q1.1, q1.2) q ps := S1
    obtain ⟨d1, d2, d3, d4⟩ := dq_at (p := fun _ => true) S9 (fun _ _ => rfl) (Or.inl hw)
    rw [← ed] at d1 d2 d3 d4
    have e1 : (dtA (skb M L q1.1, q1.2)).1 = skb M L q1.1 := by rw [ed]; rfl
    have e2 : (dtA (skb M L q1.1, q1.2)).2.1 = q1.2.1 := by rw [ed]; rfl
    have e3 : (dtA (skb M L q1.1, q1.2)).2.2.1 = 0 := by rw [ed]; exact hf0
    have e7 : (dtA (skb M L q1.1, q1.2)).2.2.2.2.2.2.1 = q1.2.2.2.2.2.2.1 := by rw [ed]; rfl
    have e8 : bsQ (dtA (skb M L q1.1, q1.2)) = bsQ q1 := by rw [ed]; rfl
    have hle := (skb_le (M := M) (L := L) (a := q1.1)).1
    have k1 := (sk_pl T I1.1.2.2).2.1
    have hid := skb_id T I1.1.2.2.1
    generalize dtA (skb M L q1.1, q1.2) = q2 at d1 d2 d3 d4 e1 e2 e3 e7 e8 ⊢
    have hcur : cur9 M tx L (r0 Z).2 q2 := cur_sk T I1.1 e1 e2
    have d2' : q2.2.2.2.2.1 = q1.2.2.2.2.1 + ps.length := d2
    have i2 : q1.2.2.2.2.1 + q1.2.2.2.2.2.1 ≤ q1.1 + 2 := I1.2.2.1.2
    have s1 : q1.2.2.2.2.2.1 = q.2.2.2.2.2.1 + ps.length := S1.1
    obtain ⟨c1, c2, c3, c4⟩ := D1
    refine ⟨f3, Or.inl ⟨ok, ⟨hcur, ⟨e3, I1.2.1.2⟩, ⟨hcur.2.2.1, ?_⟩, e7.trans I1.2.2.2.1, I1.2.2.2.2⟩, ⟨?_, ?_, fun i hi => ?_, fun j hj => absurd hj (Nat.not_lt_zero j)⟩, ⟨d1, e8.trans S1.2.1, fun i hi => absurd hi (by omega), fun j hj => absurd hj (Nat.not_lt_zero j)⟩, ⟨?_, ?_⟩, ?_, n0, n1, trivial⟩⟩
    · show q2.2.2.2.2.1 + q2.2.2.2.2.2.1 ≤ q2.1 + 2
      omega
    · show (r0 Z).2 0 4 = nI (q2.2.2.2.2.1 + 0)
      rw [d2', Nat.add_zero]
      exact c1
    · show q2.2.2.2.2.1 + 0 ≤ cnt tx L q2.1
      rw [e1, k1]
      omega
    · have hi' : i < q2.2.2.2.2.1 := hi
      by_cases y : i < q1.2.2.2.2.1
      · rw [d3 i y]
        exact c3 i y
      · obtain ⟨j, hj, ej⟩ : ∃ j, j < ps.length ∧ i = q1.2.2.2.2.1 + j := ⟨i - q1.2.2.2.2.1, by omega, by omega⟩
        subst ej
        rw [show q2.2.2.2.2.2.2.2.2.1 (q1.2.2.2.2.1 + j) = ps.getD j 0 from d4 j hj]
        exact c4 j hj
    · rw [e1, k1]
      omega
    · rw [e1, k1]
      exact b2
    · rw [e1]
      exact hid
  · refine ⟨f3, Or.inr ⟨no, ?_⟩⟩
    unfold dtA
    rw [if_neg st.1]
    exact st
