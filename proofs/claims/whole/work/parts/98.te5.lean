/-! ===== the parsers agree: one statement ===== -/
theorem tk_24 {M : mM} {tx : Nat → Nat} {L : Nat} {Z : rZ} {q : pS} (T : txM M tx L) (C : cur9 M tx L Z q) : lkV M L q.1 = -1 ↔ rtok Z = 24 := by
  obtain ⟨⟨e1, -, -⟩, g, s3, -, s5⟩ := cur_at T C
  rw [e1]
  by_cases q1 : skb M L q.1 < L
  · obtain ⟨l1, l2⟩ := lk_in T q1
    have hz := s5 q1
    have h3 := srt_3 (tx (skb M L q.1))
    refine ⟨fun z => ?_, fun z => ?_⟩
    · exfalso
      rw [l1] at z
      have h := congrArg Int32.toInt z
      rw [nI_toInt (by omega), show (-1 : Int32).toInt = -1 from by decide] at h
      omega
    · exfalso
      rcases (show srt (tx (skb M L q.1)) = 1 ∨ srt (tx (skb M L q.1)) = 2 ∨ srt (tx (skb M L q.1)) = 3 by omega) with d | d | d
      · have hb := g.2.1 q1 (Or.inl d)
        rw [d] at hb
        rw [tk_1 q1 d hb] at z
        split at z
        · exact absurd z (by decide)
        · rw [show (24 : Int32) = nI 24 from rfl] at z
          have hw := wrd_le (tx := tx) (L := L) (a := skb M L q.1)
          have := (nI_q (by omega) (by omega)).mp z
          omega
      · have hb := g.2.1 q1 (Or.inr d)
        rw [d] at hb
        rw [tk_2 q1 d hb] at z
        have z2 : (if bf tx (skb M L q.1) = 1 then (25 : Int32) else 23) = 24 := z
        split at z2
        · exact absurd z2 (by decide)
        · exact absurd z2 (by decide)
      · rw [tk_3 q1 d] at z
        split at z
        · rename_i y
          have := (sg_t _ l2 y).1
          rw [show (24 : Int32) = nI 24 from rfl] at z
          have := (nI_q (by omega) (by omega)).mp z
          omega
        · exact absurd z (by decide)
  · rw [tk_L q1, lk_out q1]
    exact ⟨fun _ => rfl, fun _ => rfl⟩
/-- one statement that was read, on both sides -/
def kpI (M : mM) (Z : rZ) (l j i : Nat) : Prop := (∃ e x, e ≤ 2 ∧ M 26 i = 5 ∧ M 28 i = nI e ∧ Z 2 i = nI (20 + e) ∧ x ≤ l ∧ Z 3 i = nI x ∧ (i + 1 < j → Z 3 (i + 1) = nI x) ∧ (i + 1 = j → l = x)) ∨ (∃ t x m, t ≤ 4 ∧ M 26 i = nI t ∧ Z 2 i = nI (14 + t) ∧ x + m ≤ l ∧ Z 3 i = nI x ∧ (i + 1 < j → Z 3 (i + 1) = nI (x + m)) ∧ (i + 1 = j → l = x + m) ∧ M 27 i = nI x ∧ M 28 i = nI (x + m) ∧ ∀ y : Nat → Int32, (∀ k, k < m → cdR (y (x + k)) (Z 1 (x + k))) → psh y x m (0, fun _ => false) (decide (t < 3)))
def stI9 (M : mM) (tx : Nat → Nat) (L j : Nat) (Z : rZ) (q : pS) : Prop := (cur9 M tx L Z q ∧ q.2.2.1 = 0 ∧ Z 0 1 = 0) ∧ rJ L q ∧ cdI tx L Z q [] ∧ (Z 0 3 = nI j ∧ M 25 0 = nI j ∧ j ≤ 24) ∧ (gB q ∧ Z 0 2 = -1) ∧ ∀ i, i < j → kpI M Z q.2.2.2.2.1 j i
theorem txM_u {M : mM} {tx : Nat → Nat} {L r k : Nat} {v : Int32} (hr : r ≠ 1) (T : txM M tx L) : txM (up2 M r k v) tx L := ⟨T.1, fun i hi => by rw [up2_row (Ne.symm hr)]; exact T.2 i hi⟩
theorem rV_u {M : mM} {r k : Nat} {v : Int32} (hr : 25 ≤ r) (R : rV M) : rV (up2 M r k v) := fun a ha j hj => by rw [up2_row (show 2 + a ≠ r by omega)]; exact R a ha j hj
theorem stC_n {M : mM} {L j : Nat} {wh : Int32} {q : pS} (h : ¬ M 26 j = 5) : stC M L j wh q = (up2 (up2 M 28 j (nI q.2.2.2.2.1)) 25 0 (nI (j + 1)), agS (up2 M 28 j (nI q.2.2.2.2.1)) L q 59) := by
  obtain ⟨aT, eN, bD, bP, cD, wT, oP, bS, cS, wS⟩ := q
  exact if_neg h
theorem stC_5 {M : mM} {L j : Nat} {wh : Int32} {q : pS} (h : M 26 j = 5) : stC M L j wh q = (up2 (up2 M 28 j wh) 25 0 (nI (j + 1)), agS (up2 M 28 j wh) L q 59) := by
  obtain ⟨aT, eN, bD, bP, cD, wT, oP, bS, cS, wS⟩ := q
  exact if_pos h
/-- what taking the word of a statement leaves -/
theorem sB_r {Z : rZ} {w : Int32} {r : Nat} (h0 : r ≠ 0) (h2 : r ≠ 2) (h3 : r ≠ 3) : staB Z w r = Z r := by
  unfold staB rnxt
  rw [up2_row h0, up2_row h2, up2_row h3, up2_row h0]
theorem sB_0 {Z : rZ} {w : Int32} {k : Nat} (h3 : k ≠ 3) (h13 : k ≠ 13) : staB Z w 0 k = Z 0 k := by
  unfold staB rnxt
  rw [up2_k _ _ h3, up2_row (show 0 ≠ 2 by decide), up2_row (show 0 ≠ 3 by decide), up2_k _ _ h13]
theorem sB_13 {Z : rZ} {w : Int32} : staB Z w 0 13 = rnxt Z 0 13 := by
  unfold staB
  rw [up2_k _ _ (show 13 ≠ 3 by decide), up2_row (show 0 ≠ 2 by decide), up2_row (show 0 ≠ 3 by decide)]
theorem sB_3 {Z : rZ} {w : Int32} {j : Nat} (h3 : Z 0 3 = nI j) : staB Z w 0 3 = nI (j + 1) := by
  unfold staB
  rw [up2_s, h3, nI_1]
theorem sB_2 {Z : rZ} {w : Int32} {j : Nat} (hj : j < 24) (h3 : Z 0 3 = nI j) (i : Nat) : staB Z w 2 i = if i = j then w else Z 2 i := by
  unfold staB
  rw [up2_row (show 2 ≠ 0 by decide), h3, nI_clamp (by omega)]
  by_cases e : i = j
  · rw [if_pos e, e, up2_s]
  · rw [if_neg e, up2_k _ _ e, up2_row (show 2 ≠ 3 by decide)]
    unfold rnxt
    rw [up2_row (show 2 ≠ 0 by decide)]
theorem sB_f {Z : rZ} {w : Int32} {j : Nat} (hj : j < 24) (h3 : Z 0 3 = nI j) (i : Nat) : staB Z w 3 i = if i = j then Z 0 4 else Z 3 i := by
  unfold staB
  rw [up2_row (show 3 ≠ 0 by decide), up2_row (show 3 ≠ 2 by decide), h3, nI_clamp (by omega)]
  by_cases e : i = j
  · rw [if_pos e, e, up2_s]
  · rw [if_neg e, up2_k _ _ e]
    unfold rnxt
    rw [up2_row (show 3 ≠ 0 by decide)]
theorem cur_sB {M : mM} {tx : Nat → Nat} {L : Nat} {Z : rZ} {q : pS} {w : Int32} (C : cur9 M tx L (rnxt Z) q) : cur9 M tx L (staB Z w) q := by
  have n5 : ∀ r, r ≠ 0 → rnxt Z r = Z r := fun r h => up2_row h
  refine ⟨tokI_fr ?_ ?_ ⟨?_, ?_, ?_⟩ C.1, sB_13.trans C.2.1, C.2.2⟩
  · exact (sB_0 (by decide) (by decide)).trans (up2_k _ _ (by decide)).symm
  · exact (sB_0 (by decide) (by decide)).trans (up2_k _ _ (by decide)).symm
  · exact (sB_r (by decide) (by decide) (by decide)).trans (n5 5 (by decide)).symm
  · exact (sB_r (by decide) (by decide) (by decide)).trans (n5 6 (by decide)).symm
  · exact (sB_r (by decide) (by decide) (by decide)).trans (n5 7 (by decide)).symm
theorem prI_sB {M : mM} {tx : Nat → Nat} {L o : Nat} {Z : rZ} {q : pS} {w : Int32} (I : prI M tx L (rnxt Z) q o) (D : cdI tx L (rnxt Z) q []) : prI M tx L (staB Z w) q o ∧ cdI tx L (staB Z w) q [] := by
  obtain ⟨C, ⟨z0, z1⟩, i3⟩ := I
  obtain ⟨d1, d2, d3, d4⟩ := D
  have e1 : staB Z w 1 = rnxt Z 1 := (sB_r (by decide) (by decide) (by decide)).trans (show rnxt Z 1 = Z 1 from up2_row (by decide)).symm
  refine ⟨⟨cur_sB C, ⟨z0, (sB_0 (by decide) (by decide)).trans ((show rnxt Z 0 1 = Z 0 1 from up2_k _ _ (by decide)).symm.trans z1)⟩, i3⟩, ⟨(sB_0 (by decide) (by decide)).trans ((show rnxt Z 0 4 = Z 0 4 from up2_k _ _ (by decide)).symm.trans d1), d2, fun i hi => ?_, fun j hj => absurd hj (Nat.not_lt_zero j)⟩⟩
  rw [e1]
  exact d3 i hi
/-- behind one statement: both go on, or both stop with the same fault -/
def stO9 (M : mM) (tx : Nat → Nat) (L j : Nat) (Z Y : rZ) (q : pS) : Prop := Y 4 = Z 4 ∧ (stI9 M tx L (j + 1) Y q ∨ stp9 q Y)
theorem stp_gB {q : pS} (h : ¬ q.2.2.1 = 0) : gB q := fun z => absurd z h
/-- the sign that ends a statement -/
theorem st_59 {M3 M4 : mM} {tx : Nat → Nat} {L j : Nat} {Z Y : rZ} {q : pS} (T : txM M3 tx L) (I : prI M3 tx L Y q 0) (D : cdI tx L Y q []) (h4 : Y 4 = Z 4) (h3 : Y 0 3 = nI (j + 1)) (hj : j < 24) (h2 : Y 0 2 = -1) (hB : gB q) (hM : M4 25 0 = nI (j + 1)) (K : ∀ i, i < j + 1 → kpI M4 Y q.2.2.2.2.1 (j + 1) i) : stO9 M4 tx L j Z (rpas Y 59).2 (agS M3 L q 59) := by
  have C := I.1
  have h0 := I.2.1.1
  obtain ⟨c1, c2⟩ := tok_c T C (c := 59) (by decide) sg_ok.2.2.2.2.2.2.2.1
  by_cases h : rtok Y = nI 59
  · have C2 := c2 h (skb M3 L q.1 + 1, q.2) rfl rfl
    obtain ⟨I2, D2, -, -⟩ := adv_pr T I D C2 rfl
    rw [rpas_ok (t := 59) h, ag_ok (c := 59) h0 (c1.mpr h)]
    refine ⟨(show rnxt Y 4 = Y 4 from up2_row (by decide)).trans h4, Or.inl ⟨⟨C2, I2.2.1⟩, ⟨I2.2.2.1.1, ?_⟩, D2, ⟨(show rnxt Y 0 3 = Y 0 3 from up2_k _ _ (by decide)).trans h3, hM, hj⟩, ⟨hB, (show rnxt Y 0 2 = Y 0 2 from up2_k _ _ (by decide)).trans h2⟩, K⟩⟩
    have := I2.2.2.1.2
    exact Nat.le_trans (Nat.le_add_right _ _) this
  · rw [rpas_no (t := 59) h, ag_no (c := 59) h0 (fun z => h (c1.mp z))]
    obtain ⟨⟨-, e2, -⟩, -⟩ := cur_at T C
    refine ⟨?_, Or.inr ⟨by show ¬ (1 : Int32) = 0; decide, (rref_at (Z := Y) (k := 1) (p := rher Y)).1, (rref_at (Z := Y) (k := 1) (p := rher Y)).2.trans e2⟩⟩
    show rref Y 1 (rher Y) 4 = Z 4
    unfold rref
    rw [up2_row (by decide), up2_row (by decide)]
    exact h4
