/-! ===== the reference's reader: rows of older acts are not touched ===== -/
def stW (M : mM) (j : Nat) (W : Nat → Int32) (z : mM × pS) : Prop := (∀ r i, ¬ r = 25 → ¬ i = j → z.1 r i = M r i) ∧ (∀ i, ¬ i = 0 → z.1 25 i = M 25 i) ∧ gW W z.2
theorem stC_W {M : mM} {L j : Nat} {wh : Int32} {W : Nat → Int32} {q : pS} (h : gW W q) : stW M j W (stC M L j wh q) := by
  obtain ⟨aT, eN, bD, bP, cD, wT, oP, bS, cS, wS⟩ := q
  unfold stC
  dsimp only
  split
  · exact ⟨fun r i hr hi => by dsimp only; rw [up2_row hr, up2_k _ _ hi], fun i hi => by dsimp only; rw [up2_k _ _ hi, up2_row (show 25 ≠ 28 by decide)], gW_ag h⟩
  · exact ⟨fun r i hr hi => by dsimp only; rw [up2_row hr, up2_k _ _ hi], fun i hi => by dsimp only; rw [up2_k _ _ hi, up2_row (show 25 ≠ 28 by decide)], gW_ag h⟩
theorem stW_x {M : mM} {j : Nat} {W : Nat → Int32} {z : mM × pS} {r : Nat} {v : Int32} (hr : 26 ≤ r) (h : stW (up2 M r j v) j W z) : stW M j W z := ⟨fun r' i h1 h2 => (h.1 r' i h1 h2).trans (up2_k _ _ h2), fun i hi => (h.2.1 i hi).trans (congrFun (up2_row (show 25 ≠ r by omega)) i), h.2.2⟩
theorem stB_W {M : mM} {L j : Nat} {sv : Int32} {W : Nat → Int32} {q : pS} (h : gW W q) : stW M j W (stB M L j sv q) := by
  obtain ⟨aT, eN, bD, bP, cD, wT, oP, bS, cS, wS⟩ := q
  have hS : gW W (skb (up2 M 26 j sv) L aT, eN, bD, bP, cD, wT, oP, bS, cS, wS) := h
  unfold stB
  dsimp only
  repeat' split
  · exact stW_x (by decide) (stC_W (gW_fl (by decide) h))
  · exact stW_x (by decide) (stC_W (gW_fl (by decide) hS))
  · exact stW_x (by decide) (stC_W (gW_tk hS))
  · exact stW_x (by decide) (stC_W (gW_tk hS))
  · exact stW_x (by decide) (stC_W (gW_tk h))
  · exact stW_x (by decide) (stC_W (gW_sum h))
  · exact stW_x (by decide) (stC_W (gW_tes h))
theorem stA_W {M : mM} {L j : Nat} {W : Nat → Int32} {q : pS} (h : gW W q) : stW M j W (stA M L j q) := by
  obtain ⟨aT, eN, bD, bP, cD, wT, oP, bS, cS, wS⟩ := q
  unfold stA
  dsimp only
  repeat' split
  · exact stB_W h
  · exact stB_W (gW_tk h)
  · exact stB_W (gW_tk h)
  · exact stB_W (gW_tk h)
  · exact stB_W (gW_tk h)
  · exact stB_W (gW_tk h)
  · exact stB_W (gW_tk h)
theorem sta_W {M : mM} {L j : Nat} {W : Nat → Int32} {q : pS} (h : gW W q) : (∀ r i, ¬ r = 25 → 24 ≤ i → j ≤ 24 → (staS9 M L j q).1 r i = M r i) ∧ (∀ i, ¬ i = 0 → (staS9 M L j q).1 25 i = M 25 i) ∧ gW W (staS9 M L j q).2 := by
  obtain ⟨aT, eN, bD, bP, cD, wT, oP, bS, cS, wS⟩ := q
  by_cases h24 : nI j = 24
  · rw [show staS9 M L j (aT, eN, bD, bP, cD, wT, oP, bS, cS, wS) = (M, flS9 (skb M L aT, eN, bD, bP, cD, wT, oP, bS, cS, wS) 4 (nI (skb M L aT))) from if_pos h24]
    exact ⟨fun _ _ _ _ _ => rfl, fun _ _ => rfl, gW_fl (q := (skb M L aT, eN, bD, bP, cD, wT, oP, bS, cS, wS)) (by decide) h⟩
  · rw [show staS9 M L j (aT, eN, bD, bP, cD, wT, oP, bS, cS, wS) = stA (up2 M 27 j (nI cD)) L j (skb M L aT, eN, bD, bP, cD, 0, 0, 0, cS, wS) from if_neg h24]
    have hA := stW_x (r := 27) (by decide) (stA_W (M := up2 M 27 j (nI cD)) (L := L) (j := j) (W := W) (q := (skb M L aT, eN, bD, bP, cD, 0, 0, 0, cS, wS)) h)
    refine ⟨fun r i hr hi hj => hA.1 r i hr (fun e => ?_), hA.2⟩
    have : j = 24 := by omega
    subst this
    exact h24 rfl
theorem rsF_W {L : Nat} (hL6 : L ≤ 600) {W : Nat → Int32} : ∀ (k : Nat) (M : mM) (q : pS) (j : Nat), gW W q → rJ L q → j ≤ 24 → M 25 0 = nI j → (∀ r i, ¬ r = 25 → 24 ≤ i → (rsF L k (M, q)).1 r i = M r i) ∧ (∀ i, ¬ i = 0 → (rsF L k (M, q)).1 25 i = M 25 i) ∧ gW W (rsF L k (M, q)).2 := by
  intro k
  induction k with
  | zero => exact fun M q j h I hj e => ⟨fun _ _ _ _ => rfl, fun _ _ => rfl, h⟩
  | succ k ih =>
    intro M q j h I hj e
    have hk : q.1 ≤ skb M L q.1 ∧ (q.1 ≤ L → skb M L q.1 ≤ L) := skb_le
    have hJ : rJ L (skb M L q.1, q.2) := ⟨hk.2 I.1, by have := I.2; show q.2.2.2.2.1 ≤ skb M L q.1 + 2; omega⟩
    by_cases hb : q.2.2.1 = 0
    · by_cases hl : lkV M L q.1 = -1
      · rw [show rsF L (k + 1) (M, q) = (M, (skb M L q.1, q.2)) from (if_pos hb).trans (if_pos hl)]
        exact ⟨fun _ _ _ _ => rfl, fun _ _ => rfl, h⟩
      · rw [show rsF L (k + 1) (M, q) = rsF L k (staS9 M L (M 25 0).toNatClampNeg (skb M L q.1, q.2)) from (if_pos hb).trans (if_neg hl), e, nI_clamp (by omega)]
        have hT := sta_T hL6 e hJ hb
        have hW := sta_W (M := M) (L := L) (j := j) (W := W) (q := (skb M L q.1, q.2)) h
        generalize staS9 M L j (skb M L q.1, q.2) = z at hT hW
        have hj2 : ∃ j', j' ≤ 24 ∧ z.1 25 0 = nI j' := by
          by_cases h24 : j = 24
          · exact ⟨j, hj, (hT.2.2.2.2 (by rw [h24]; rfl)).2⟩
          · rcases hT.2.2.1 with e1 | ⟨e1, _⟩
            · exact ⟨j + 1, by omega, e1⟩
            · exact ⟨j, hj, e1⟩
        obtain ⟨j2, h2, e2⟩ := hj2
        have hr := ih z.1 z.2 j2 hW.2.2 hT.2.1 h2 e2
        exact ⟨fun r i h3 h4 => (hr.1 r i h3 h4).trans (hW.1 r i h3 h4 hj), fun i hi => (hr.2.1 i hi).trans (hW.2.1 i hi), hr.2.2⟩
    · rw [show rsF L (k + 1) (M, q) = (M, q) from if_neg hb]
      exact ⟨fun _ _ _ _ => rfl, fun _ _ => rfl, h⟩
/-- rows 25 .. 29 of the acts told before, when a text has been read -/
theorem rdR_W {M : mM} {L : Nat} {q : pS} (hL6 : L ≤ 600) : (∀ r i, ¬ r = 25 → ¬ r = 0 → 24 ≤ i → (rdR M L q).1 r i = M r i) ∧ (∀ i, ¬ i = 0 → (rdR M L q).1 25 i = M 25 i) ∧ ∀ i, 640 ≤ i → (rdR M L q).2.2.2.2.2.2.2.2.2.1 i = q.2.2.2.2.2.2.2.2.1 i := by
  have h := rsF_W (L := L) hL6 (W := q.2.2.2.2.2.2.2.2.1) 27 (up2 (up2 (up2 M 0 3 (nI L)) 0 1 0) 25 0 0) (0, -1, 0, -1, 0, q.2.2.2.2.2) 0 (fun _ _ => rfl) ⟨Nat.zero_le _, Nat.zero_le _⟩ (by decide) rfl
  have hr := (rdR_T (M := M) (q := q) hL6).2.2.1
  refine ⟨fun r i h1 h0 hi => ?_, fun i hi => ?_, fun i hi => h.2.2 i ?_⟩
  · refine (h.1 r i h1 hi).trans ?_
    rw [up2_row h1, up2_row h0, up2_row h0]
  · refine (h.2.1 i hi).trans ?_
    rw [up2_k _ _ hi, up2_row (show 25 ≠ 0 by decide), up2_row (show 25 ≠ 0 by decide)]
  · have h1 := hr.1
    have h2 := hr.2
    show (rdR M L q).2.2.2.2.2.1 ≤ i
    omega
