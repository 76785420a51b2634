/-! ===== the calls: terms ===== -/
theorem rdR_01 {M : mM} {L : Nat} {q : pS} (hL6 : L ≤ 600) : (rdR M L q).1 0 1 = 0 := by
  have h := rsF_T (L := L) hL6 27 (up2 (up2 (up2 M 0 3 (nI L)) 0 1 0) 25 0 0) (0, -1, 0, -1, 0, q.2.2.2.2.2) 0 ⟨Nat.zero_le _, Nat.zero_le _⟩ (by decide) rfl
  refine (congrFun (h.1 0 (by decide)) 1).trans ?_
  rw [up2_row (show 0 ≠ 25 by decide), up2_s]
theorem rdM_0 {M : mM} {L : Nat} {q : pS} {k : Nat} (h1 : k ≠ 2) (h2 : k ≠ 4) (h3 : k ≠ 5) (h4 : k ≠ 6) (h5 : k ≠ 37) (h6 : k ≠ 39) (h7 : k ≠ 40) (h8 : k ≠ 41) : rdM M L q 0 k = up2 (up2 (rdR M L q).1 0 7 (rdR M L q).2.2.2.1) 0 8 (rdR M L q).2.2.2.2.1 0 k := by
  unfold rdM pM
  rw [if_pos rfl, if_neg h1, if_neg h2, if_neg h3, if_neg h4, if_neg h5, if_neg h6, if_neg h7, if_neg h8]
theorem rdM_k {M : mM} {L : Nat} {q : pS} {k : Nat} (hL6 : L ≤ 600) (h : ¬ k ≤ 8) (h5 : k ≠ 37) (h6 : k ≠ 39) (h7 : k ≠ 40) (h8 : k ≠ 41) : rdM M L q 0 k = M 0 k := by
  rw [rdM_0 (by omega) (by omega) (by omega) (by omega) h5 h6 h7 h8, up2_k _ _ (show k ≠ 8 by omega), up2_k _ _ (show k ≠ 7 by omega)]
  exact (rdR_T hL6).2.1 k (by omega) (by omega)
theorem rdM_r {M : mM} {L : Nat} {q : pS} {r : Nat} (hL6 : L ≤ 600) (h0 : r ≠ 0) (h : ¬ (25 ≤ r ∧ r ≤ 30)) : rdM M L q r = M r := (rdM_x h0 (by omega) (by omega)).trans ((rdR_T hL6).1 r (by omega) (by omega))
theorem rdM_29 {M : mM} {L : Nat} {q : pS} : rdM M L q 29 = (rdR M L q).2.2.2.2.2.2.2.2.2.1 := by
  funext i
  unfold rdM pM
  rw [if_neg (show ¬ 29 = 0 by decide), if_pos rfl]
theorem rdM_old {M : mM} {L a c w b : Nat} (hL6 : L ≤ 600) : (∀ i, 1 ≤ i → rdM M L (pQ M a c w b) 25 i = M 25 i) ∧ (∀ r, 26 ≤ r ∧ r ≤ 28 → ∀ i, 24 ≤ i → rdM M L (pQ M a c w b) r i = M r i) ∧ ∀ i, 640 ≤ i → rdM M L (pQ M a c w b) 29 i = M 29 i := by
  obtain ⟨w1, w2, w3⟩ := rdR_W (M := M) (L := L) (q := pQ M a c w b) hL6
  refine ⟨fun i hi => ?_, fun r hr i hi => ?_, fun i hi => ?_⟩
  · rw [rdM_x (by decide) (by decide) (by decide)]
    exact w2 i (by omega)
  · rw [rdM_x (by omega) (by omega) (by omega)]
    exact w1 r i (by omega) (by omega) hi
  · rw [rdM_29]
    exact w3 i hi
theorem rRV_rd {F F1 M : mM} {L L0 : Nat} {q : pS} (hL6 : L ≤ 600) (e0 : F1 150 0 = 0) (e1 : F1 150 1 = (rdR M L q).2.2.2.1) (e2 : F1 150 2 = (rdR M L q).2.2.2.2.1) (e4 : F1 154 = F 154) (R : rRV F M L0) : rRV F1 (rdM M L q) 0 := by
  obtain ⟨⟨-, r4, -⟩, rv⟩ := R
  refine ⟨⟨⟨e0, ?_, Nat.zero_le _⟩, e4.trans (r4.trans (rdM_r hL6 (by decide) (by decide)).symm), fun i hi => absurd hi (Nat.not_lt_zero i), ⟨e1.trans ?_, e2.trans ?_⟩, (rdR M L q).2.1, (rdR M L q).2.2.2.2.2.1, (rdR M L q).2.2.2.2.2.2.1, (rdR M L q).2.2.2.2.2.2.2.2.1, rfl, rfl, rfl, rfl⟩, fun k hk j hj => ?_⟩
  · rw [rdM_0 (by decide) (by decide) (by decide) (by decide) (by decide) (by decide) (by decide) (by decide), up2_k _ _ (show 1 ≠ 8 by decide), up2_k _ _ (show 1 ≠ 7 by decide)]
    exact rdR_01 hL6
  · rw [rdM_0 (by decide) (by decide) (by decide) (by decide) (by decide) (by decide) (by decide) (by decide), up2_k _ _ (show 7 ≠ 8 by decide), up2_s]
  · rw [rdM_0 (by decide) (by decide) (by decide) (by decide) (by decide) (by decide) (by decide) (by decide), up2_s]
  · rw [rdM_r hL6 (show 2 + k ≠ 0 by omega) (by omega)]
    exact rv k hk j hj
theorem mte_no {M : mM} {L n : Nat} {o : Int32} {q : pS} (hn : n ≤ 200) (h : ¬ isTm o n) : mteF M L n o q = (up2 (pM M q) 0 1 0, -2) := by
  unfold mteF
  by_cases h1 : 0 ≤ o ∧ o ≤ 8
  · have h2 : n = 200 := by
      rcases Nat.lt_or_ge n 200 with y | y
      · exact absurd ⟨h1, y⟩ h
      · omega
    rw [if_neg (show ¬ zb (0 ≤ o ∧ o ≤ 8) = 0 by rw [zb_t h1]; decide), if_pos (show nI n = 200 by rw [h2]; rfl)]
  · rw [if_pos (show zb (0 ≤ o ∧ o ≤ 8) = 0 by rw [zb_f h1])]
theorem mte_yes {M : mM} {L n : Nat} {o : Int32} {q : pS} (h : isTm o n) : mteF M L n o q = if (rdR M L q).2.2.2.1 = 0 then (mcpS (n + 1) ((rdM M L q) 25 0).toNatClampNeg (rdR M L q).2.2.2.2.2.1 (macT (rdM M L q) n 1 o 0 0), nI (n + 1)) else (rdM M L q, -1) := by
  unfold mteF
  rw [if_neg (show ¬ zb (0 ≤ o ∧ o ≤ 8) = 0 by rw [zb_t h.1]; decide), if_neg (show ¬ nI n = 200 from fun y => by
    have := (nI_eq (a := n) (b := 200) (by omega) (by omega)).mp y
    omega)]
  by_cases e : (rdR M L q).2.2.2.1 = 0
  · rw [decide_eq_true e, if_pos e, if_neg (show ¬ bI true = 0 by decide)]
  · rw [decide_eq_false e, if_neg e, if_pos (show bI false = 0 by decide)]
