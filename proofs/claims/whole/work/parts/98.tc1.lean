/-! ===== the parsers agree: the comma; a part, whole ===== -/
def cmQ (p : Nat) (q : pS) : pS := s9 (dwQ (p + 1, q.2.1, q.2.2) (tmP (bsQ q) q.2.2.2.2.2.2.2.2.2)) (va_up (dwQ (p + 1, q.2.1, q.2.2) (tmP (bsQ q) q.2.2.2.2.2.2.2.2.2)).2.2.2.2.2.2.2.2.2 ((dwQ (p + 1, q.2.1, q.2.2) (tmP (bsQ q) q.2.2.2.2.2.2.2.2.2)).2.2.2.2.2.1 - 1) ((dwQ (p + 1, q.2.1, q.2.2) (tmP (bsQ q) q.2.2.2.2.2.2.2.2.2)).2.2.2.2.2.2.2.2.2 ((dwQ (p + 1, q.2.1, q.2.2) (tmP (bsQ q) q.2.2.2.2.2.2.2.2.2)).2.2.2.2.2.1 - 1) + 2))
theorem cm_b {M : mM} {tx : Nat → Nat} {L o w0 : Nat} {v : Int32} {Y : rZ} {q qm : pS} {ps : List Int32} (T : txM M tx L) (I : prI M tx L Y q o) (D : cdI tx L Y q ps) (K : mkI q qm ps w0 v) (h : rtok Y = nI 44) : (prI M tx L (rnxt Y) (cmQ (skb M L q.1) q) o ∧ cdI tx L (rnxt Y) (cmQ (skb M L q.1) q) []) ∧ ((cmQ (skb M L q.1) q).2.2.2.2.2.1 = w0 + 1 ∧ (cmQ (skb M L q.1) q).2.2.2.2.2.2.2.2.2 w0 = v + 2 ∧ ∀ i, i < w0 → (cmQ (skb M L q.1) q).2.2.2.2.2.2.2.2.2 i = q.2.2.2.2.2.2.2.2.2 i) ∧ (cmQ (skb M L q.1) q).2.2.2.2.1 = q.2.2.2.2.1 + ps.length ∧ cnt tx L (cmQ (skb M L q.1) q).1 = cnt tx L q.1 + 1 := by
  obtain ⟨S, hw, ht, hv, hb, hp⟩ := K
  obtain ⟨d1, d2, d3, d4⟩ := tm_dq (a := skb M L q.1 + 1) (eN := q.2.1) S hw ht hv hb hp
  obtain ⟨-, m2⟩ := mk_top (a := skb M L q.1) (eN := q.2.1) S hw ht hv hb hp
  have hcur := (tok_c T I.1 (c := 44) (by decide) sg_ok.2.2.2.2.1).2 h (cmQ (skb M L q.1) q) rfl rfl
  have k1 := jn_cnt T I.1 hcur
  obtain ⟨C, ⟨z0, z1⟩, ⟨i1, i2⟩, i3, i4⟩ := I
  obtain ⟨c1, c2, c3, c4⟩ := D
  have hle := (skb_le (M := M) (L := L) (a := q.1)).1
  have e6 : (cmQ (skb M L q.1) q).2.2.2.2.2.1 = w0 + 1 := d1
  have e5 : (cmQ (skb M L q.1) q).2.2.2.2.1 = q.2.2.2.2.1 + ps.length := d2
  have e9 : (cmQ (skb M L q.1) q).2.2.2.2.2.2.2.2.2 = va_up q.2.2.2.2.2.2.2.2.2 w0 (v + 2) := by
    show va_up q.2.2.2.2.2.2.2.2.2 ((dwQ (skb M L q.1 + 1, q.2.1, q.2.2) (tmP (bsQ q) q.2.2.2.2.2.2.2.2.2)).2.2.2.2.2.1 - 1) (q.2.2.2.2.2.2.2.2.2 ((dwQ (skb M L q.1 + 1, q.2.1, q.2.2) (tmP (bsQ q) q.2.2.2.2.2.2.2.2.2)).2.2.2.2.2.1 - 1) + 2) = _
    rw [d1, show w0 + 1 - 1 = w0 from rfl, m2]
  have s1 := S.1
  refine ⟨⟨⟨hcur, ⟨z0, (up2_k _ _ (show 1 ≠ 13 by decide)).trans z1⟩, ⟨hcur.2.2.1, ?_⟩, i3, i4⟩, ?_, ?_, fun i hi => ?_, fun j hj => absurd hj (Nat.not_lt_zero j)⟩, ⟨e6, by rw [e9]; exact va_s, fun i hi => by rw [e9]; exact va_n (by omega)⟩, e5, k1⟩
  · rw [e5, e6]
    show _ ≤ (skb M L q.1 + 1) + 2
    have : q.2.2.2.2.1 + q.2.2.2.2.2.1 ≤ q.1 + 2 := i2
    omega
  · show rnxt Y 0 4 = nI ((cmQ (skb M L q.1) q).2.2.2.2.1 + 0)
    rw [e5, Nat.add_zero]
    exact (up2_k _ _ (show 4 ≠ 13 by decide)).trans c1
  · show (cmQ (skb M L q.1) q).2.2.2.2.1 + 0 ≤ _
    rw [e5, k1]
    omega
  · rw [e5] at hi
    rw [show rnxt Y 1 = Y 1 from up2_row (by decide)]
    by_cases y : i < q.2.2.2.2.1
    · rw [show (cmQ (skb M L q.1) q).2.2.2.2.2.2.2.2.1 i = q.2.2.2.2.2.2.2.2.1 i from d3 i y]
      exact c3 i y
    · obtain ⟨j, hj, ej⟩ : ∃ j, j < ps.length ∧ i = q.2.2.2.2.1 + j := ⟨i - q.2.2.2.2.1, by omega, by omega⟩
      subst ej
      rw [show (cmQ (skb M L q.1) q).2.2.2.2.2.2.2.2.1 (q.2.2.2.2.1 + j) = ps.getD j 0 from d4 j hj]
      exact c4 j hj
/-- at a mark of min or max: the comma, or a fault -/
theorem go_cm {M : mM} {tx : Nat → Nat} {L o w0 : Nat} {v : Int32} {Y : rZ} {q qm : pS} {ps : List Int32} (T : txM M tx L) (I : prI M tx L Y q o) (K : mkI q qm ps w0 v) (hv9 : v = 21 ∨ v = 22) (h3 : rjn 3 (rtok Y) = false) (h2 : rjn 2 (rtok Y) = false) : (rtok Y = nI 44 → goK9 M L q = sumF M L 700 (cmQ (skb M L q.1) q)) ∧ (¬ rtok Y = nI 44 → stp9 (goK9 M L q) (rref Y 1 (rher Y))) := by
  obtain ⟨S, hw, ht, hv, hb, hp⟩ := K
  obtain ⟨m1, -⟩ := mk_top (a := skb M L q.1) (eN := q.2.1) S hw ht hv hb hp
  obtain ⟨t1, t2, t3, t4⟩ := skQ_e T I.1 I.2.1.1 h3 h2
  have st := stp_1 T I.1
  have h0 := I.2.1.1
  have h1 := (tok_c T I.1 (c := 44) (by decide) sg_ok.2.2.2.2.1).1
  have hid := skb_id T I.1.2.2.1
  have lk2 := lk_sk T I.1.2.2.1
  have h41 := (tok_c T I.1 (c := 41) (by decide) sg_ok.2.1).1
  have es : ∀ (h : ¬ rtok Y = nI 41), gonQ M L q = if (agS M L (skb M L q.1, q.2) 44).2.2.1 = 0 then (true, s9 (dwQ (agS M L (skb M L q.1, q.2) 44) (tmP (bsQ (agS M L (skb M L q.1, q.2) 44)) (agS M L (skb M L q.1, q.2) 44).2.2.2.2.2.2.2.2.2)) (va_up (dwQ (agS M L (skb M L q.1, q.2) 44) (tmP (bsQ (agS M L (skb M L q.1, q.2) 44)) (agS M L (skb M L q.1, q.2) 44).2.2.2.2.2.2.2.2.2)).2.2.2.2.2.2.2.2.2 ((dwQ (agS M L (skb M L q.1, q.2) 44) (tmP (bsQ (agS M L (skb M L q.1, q.2) 44)) (agS M L (skb M L q.1, q.2) 44).2.2.2.2.2.2.2.2.2)).2.2.2.2.2.1 - 1) ((dwQ (agS M L (skb M L q.1, q.2) 44) (tmP (bsQ (agS M L (skb M L q.1, q.2) 44)) (agS M L (skb M L q.1, q.2) 44).2.2.2.2.2.2.2.2.2)).2.2.2.2.2.2.2.2.2 ((dwQ (agS M L (skb M L q.1, q.2) 44) (tmP (bsQ (agS M L (skb M L q.1, q.2) 44)) (agS M L (skb M L q.1, q.2) 44).2.2.2.2.2.2.2.2.2)).2.2.2.2.2.1 - 1) + 2))) else (false, agS M L (skb M L q.1, q.2) 44) := fun h => by
    rw [gon_sg T I h]
    obtain ⟨aT, eN, bD, bP, cD, wT, oP, bS, cS, wS⟩ := q
    have mv : mkV ((skb M L aT), eN, bD, bP, cD, wT, oP, bS, cS, wS) = v := m1
    refine (if_pos t1).trans ((if_pos t2).trans ((if_pos t3).trans ((if_pos t4).trans ?_)))
    rcases hv9 with e | e
    · subst e
      exact if_pos mv
    · subst e
      exact (if_neg (by rw [mv]; decide)).trans (if_pos mv)
  have es41 : rtok Y = nI 41 → gonQ M L q = gsR M L (skb M L q.1, q.2) := fun h => by
    have eg : gcB M L q = (false, (skb M L q.1, q.2)) := by
      have lk := h41.mpr h
      obtain ⟨aT, eN, bD, bP, cD, wT, oP, bS, cS, wS⟩ := q
      have mv : mkV ((skb M L aT), eN, bD, bP, cD, wT, oP, bS, cS, wS) = v := m1
      have n20 : ¬ v = 20 := by rcases hv9 with e | e <;> subst e <;> decide
      have n23 : ¬ v = 23 := by rcases hv9 with e | e <;> subst e <;> decide
      have n24 : ¬ v = 24 := by rcases hv9 with e | e <;> subst e <;> decide
      exact (if_pos lk).trans ((if_neg (by rw [mv]; exact n20)).trans ((if_neg (by rw [mv]; exact n23)).trans (if_neg (by rw [mv]; exact n24))))
    rw [gon_no T.1 I.2.2.1 (by rw [eg]; exact fun z => Bool.noConfusion z), eg]
  refine ⟨fun y => ?_, fun y => ?_⟩
  · have ea : agS M L (skb M L q.1, q.2) 44 = (skb M L q.1 + 1, q.2) := by
      rw [ag_ok (q := (skb M L q.1, q.2)) (c := 44) h0 (lk2.trans (h1.mpr y))]
      show (skb M L (skb M L q.1) + 1, q.2) = _
      rw [hid]
    have e := es (by rw [y]; decide)
    rw [ea] at e
    unfold goK9
    rw [e, if_pos (show ((skb M L q.1 + 1, q.2) : pS).2.2.1 = 0 from h0)]
    exact if_pos rfl
  · have ea : agS M L (skb M L q.1, q.2) 44 = (skb M L q.1, q.2.1, 1, nI (skb M L q.1), q.2.2.2.2) := by
      rw [ag_no (q := (skb M L q.1, q.2)) (c := 44) h0 (fun z => y (h1.mp (lk2.symm.trans z)))]
      show (skb M L (skb M L q.1), q.2.1, 1, nI (skb M L (skb M L q.1)), q.2.2.2.2) = _
      rw [hid]
    have e : gonQ M L q = (false, (skb M L q.1, q.2.1, 1, nI (skb M L q.1), q.2.2.2.2)) := by
      by_cases w : rtok Y = nI 41
      · rw [es41 w]
        obtain ⟨aT, eN, bD, bP, cD, wT, oP, bS, cS, wS⟩ := q
        have mv : mkV ((skb M L aT), eN, bD, bP, cD, wT, oP, bS, cS, wS) = v := m1
        have ea' : agS M L ((skb M L aT), eN, bD, bP, cD, wT, oP, bS, cS, wS) 44 = (skb M L aT, eN, 1, nI (skb M L aT), cD, wT, oP, bS, cS, wS) := ea
        have n1 : ¬ (agS M L ((skb M L aT), eN, bD, bP, cD, wT, oP, bS, cS, wS) 44).2.2.1 = 0 := by rw [ea']; exact (show ¬ (1 : Int32) = 0 by decide)
        refine ((if_pos t1).trans ((if_pos t2).trans ((if_pos t3).trans ((if_pos t4).trans ?_))))
        rcases hv9 with e | e
        · subst e
          exact (if_pos mv).trans ((if_neg n1).trans (by rw [ea']))
        · subst e
          exact (if_neg (by rw [mv]; decide)).trans ((if_pos mv).trans ((if_neg n1).trans (by rw [ea'])))
      · rw [es w, ea]
        exact if_neg (show ¬ (1 : Int32) = 0 by decide)
    unfold goK9
    rw [e]
    exact st
