/-! ===== the reference's reader: reads; copies; terms ===== -/
/-- what reading leaves of the base: bounds -/
theorem rsF_T {L : Nat} (hL6 : L ≤ 600) : ∀ (k : Nat) (M : mM) (q : pS) (j : Nat), rJ L q → j ≤ 24 → M 25 0 = nI j → (∀ r, r < 25 ∨ 28 < r → (rsF L k (M, q)).1 r = M r) ∧ rJ L (rsF L k (M, q)).2 ∧ ∃ j', j' ≤ 24 ∧ (rsF L k (M, q)).1 25 0 = nI j' := by
  intro k
  induction k with
  | zero => exact fun M q j I hj e => ⟨fun _ _ => rfl, I, j, hj, e⟩
  | succ k ih =>
    intro M q j I hj e
    have hk : q.1 ≤ skb M L q.1 ∧ (q.1 ≤ L → skb M L q.1 ≤ L) := skb_le
    have hJ : rJ L (skb M L q.1, q.2) := ⟨hk.2 I.1, by have := I.2; show q.2.2.2.2.1 ≤ skb M L q.1 + 2; omega⟩
    by_cases hb : q.2.2.1 = 0
    · by_cases hl : lkV M L q.1 = -1
      · rw [show rsF L (k + 1) (M, q) = (M, (skb M L q.1, q.2)) from (if_pos hb).trans (if_pos hl)]
        exact ⟨fun _ _ => rfl, hJ, j, hj, e⟩
      · rw [show rsF L (k + 1) (M, q) = rsF L k (staS9 M L (M 25 0).toNatClampNeg (skb M L q.1, q.2)) from (if_pos hb).trans (if_neg hl), e, nI_clamp (by omega)]
        have hT := sta_T hL6 e hJ hb
        generalize staS9 M L j (skb M L q.1, q.2) = z at hT
        have hj2 : ∃ j', j' ≤ 24 ∧ z.1 25 0 = nI j' := by
          by_cases h24 : j = 24
          · exact ⟨j, hj, (hT.2.2.2.2 (by rw [h24]; rfl)).2⟩
          · rcases hT.2.2.1 with e1 | ⟨e1, _⟩
            · exact ⟨j + 1, by omega, e1⟩
            · exact ⟨j, hj, e1⟩
        obtain ⟨j2, h2, e2⟩ := hj2
        have hr := ih z.1 z.2 j2 hT.2.1 h2 e2
        exact ⟨fun r hr' => (hr.1 r hr').trans (hT.1 r hr'), hr.2⟩
    · rw [show rsF L (k + 1) (M, q) = (M, q) from if_neg hb]
      exact ⟨fun _ _ => rfl, I, j, hj, e⟩
/-- the text read -/
def rdR (M : mM) (L : Nat) (q : pS) : mM × pS := rsF L 27 ((up2 (up2 (up2 M 0 3 (nI L)) 0 1 0) 25 0 0), (0, -1, 0, -1, 0, q.2.2.2.2.2))
def rdM (M : mM) (L : Nat) (q : pS) : mM := pM (up2 (up2 (rdR M L q).1 0 7 (rdR M L q).2.2.2.1) 0 8 (rdR M L q).2.2.2.2.1) (rdR M L q).2
theorem l_rd (E : gE) {d : Nat} (h : hp_T) (hG : gr h) (N : mN) (r : mM × pS) : gf E mX12_reads d 67 [(0, .ref (E.1 + 247))] [] (hm h (pM r.1 r.2) N) (some (.int (bI (decide (r.2.2.2.1 = 0))))) (hm h (pM (up2 (up2 r.1 0 7 r.2.2.2.1) 0 8 r.2.2.2.2.1) r.2) N) := by
  refine gf_aload_n 0 dX12_reads_67 rfl rfl ?_
  refine gf_aload_n 0 dX12_reads_68 rfl rfl ?_
  refine gf_getI flX12_285 rfl dX12_reads_69 (gt_247 hG) ?_
  rw [show hp_i (hm h (pM r.1 r.2) N) 247 5 = r.2.2.2.1 from rfl]
  refine gf_putI flX12_406 rfl rfl dX12_reads_72 (gt_247 hG) ⟨rfl, rfl⟩ ?_
  rw [mI_0, pM_f (by decide)]
  refine gf_aload_n 0 dX12_reads_75 rfl rfl ?_
  refine gf_aload_n 0 dX12_reads_76 rfl rfl ?_
  refine gf_getI flX12_288 rfl dX12_reads_77 (gt_247 hG) ?_
  rw [show hp_i (hm h (pM (up2 r.1 0 7 r.2.2.2.1) r.2) N) 247 6 = r.2.2.2.2.1 from rfl]
  refine gf_putI flX12_13 rfl rfl dX12_reads_80 (gt_247 hG) ⟨rfl, rfl⟩ ?_
  rw [mI_0, pM_f (by decide)]
  refine gf_aload_n 0 dX12_reads_83 rfl rfl ?_
  refine gf_getI flX12_285 rfl dX12_reads_84 (gt_247 hG) ?_
  rw [show hp_i (hm h (pM (up2 (up2 r.1 0 7 r.2.2.2.1) 0 8 r.2.2.2.2.1) r.2) N) 247 5 = r.2.2.2.1 from rfl]
  refine gf_if_ne 94 dX12_reads_87 rfl (fun zc87 => ?_) (fun zc87 => ?_)
  · refine gf_iconst (0) dX12_reads_94 rfl ?_
    exact gf_bret dX12_reads_95 rfl (by rw [show decide (r.2.2.2.1 = 0) = false from decide_eq_false zc87]; rfl) (rfl)
  · refine gf_iconst (1) dX12_reads_90 rfl ?_
    refine gf_goto 95 dX12_reads_91 rfl ?_
    exact gf_bret dX12_reads_95 rfl (by rw [show decide (r.2.2.2.1 = 0) = true from decide_eq_true zc87]; rfl) (rfl)
theorem l_rds (E : gE) {d : Nat} (hd : 10 ≤ d) {L : Nat} (hL6 : L ≤ 600) (h : hp_T) (hG : gr h) (M : mM) (W : mN) (aT : Nat) (eN bD bP : Int32) (cD wT : Nat) (oP : Int32) (bS : Nat) (cS wS : Nat → Int32) (h1 : M 0 1 = nI L) (hT1 : ∀ i, i < L → ∃ q, q < 256 ∧ M 1 i = nI q) : ev E mX12_reads d [.ref (E.1 + 247)] (hm h (pM M (aT, eN, bD, bP, cD, wT, oP, bS, cS, wS)) W) (some (.int (bI (decide ((rdR M L (aT, eN, bD, bP, cD, wT, oP, bS, cS, wS)).2.2.2.1 = 0))))) (hm h (rdM M L (aT, eN, bD, bP, cD, wT, oP, bS, cS, wS)) W) := by
  refine ev_of rfl (fun q => absurd q (by decide)) (Nat.le_of_ble_eq_true rfl) ?_
  refine gf_aload_n 0 dX12_reads_0 rfl rfl ?_
  refine gf_aload_n 0 dX12_reads_1 rfl rfl ?_
  refine gf_getI flX12_282 rfl dX12_reads_2 (gt_247 hG) ?_
  rw [show hp_i (hm h (pM M (aT, eN, bD, bP, cD, wT, oP, bS, cS, wS)) W) 247 1 = nI L from h1]
  refine gf_putI flX12_294 rfl rfl dX12_reads_5 (gt_247 hG) ⟨rfl, rfl⟩ ?_
  rw [mI_0, pM_f (by decide)]
  refine gf_aload_n 0 dX12_reads_8 rfl rfl ?_
  refine gf_iconst (0) dX12_reads_9 rfl ?_
  refine gf_putI flX12_282 rfl rfl dX12_reads_10 (gt_247 hG) ⟨rfl, rfl⟩ ?_
  rw [mI_0, pM_f (by decide)]
  refine gf_aload_n 0 dX12_reads_13 rfl rfl ?_
  refine gf_iconst (0) dX12_reads_14 rfl ?_
  refine gf_putI flX12_291 rfl rfl dX12_reads_15 (gt_247 hG) ⟨rfl, rfl⟩ ?_
  rw [mI_0]
  rw [show up2 (pM (up2 (up2 M 0 3 (nI L)) 0 1 0) (aT, eN, bD, bP, cD, wT, oP, bS, cS, wS)) 0 2 0 = pM (up2 (up2 M 0 3 (nI L)) 0 1 0) (0, eN, bD, bP, cD, wT, oP, bS, cS, wS) from pM_2 (up2 (up2 M 0 3 (nI L)) 0 1 0) _ _]
  refine gf_aload_n 0 dX12_reads_18 rfl rfl ?_
  refine gf_iconst (-1) dX12_reads_19 rfl ?_
  refine gf_putI flX12_305 rfl rfl dX12_reads_20 (gt_247 hG) ⟨rfl, rfl⟩ ?_
  rw [mI_0, pM_4]
  refine gf_aload_n 0 dX12_reads_23 rfl rfl ?_
  refine gf_iconst (0) dX12_reads_24 rfl ?_
  refine gf_putI flX12_285 rfl rfl dX12_reads_25 (gt_247 hG) ⟨rfl, rfl⟩ ?_
  rw [mI_0, pM_5]
  refine gf_aload_n 0 dX12_reads_28 rfl rfl ?_
  refine gf_iconst (-1) dX12_reads_29 rfl ?_
  refine gf_putI flX12_288 rfl rfl dX12_reads_30 (gt_247 hG) ⟨rfl, rfl⟩ ?_
  rw [mI_0, pM_6]
  refine gf_aload_n 0 dX12_reads_33 rfl rfl ?_
  refine gf_getR flX12_87 rfl dX12_reads_34 (gt_247 hG) (gp_247_32 hG) ?_
  refine gf_iconst (0) dX12_reads_37 rfl ?_
  refine gf_iconst (0) dX12_reads_38 rfl ?_
  refine gf_iast 201 dX12_reads_39 (gt_272 hG) (gl_272 hG) (show (0 : Int32) = nI 0 from rfl) (by decide) (by decide) ?_
  rw [mI_25, pM_x (show 25 ≤ 25 ∧ 25 ≤ 28 by decide)]
  refine gf_aload_n 0 dX12_reads_40 rfl rfl ?_
  refine gf_iconst (0) dX12_reads_41 rfl ?_
  refine gf_putI flX12_329 rfl rfl dX12_reads_42 (gt_247 hG) ⟨rfl, rfl⟩ ?_
  rw [mI_0]
  rw [show up2 (pM (up2 (up2 (up2 M 0 3 (nI L)) 0 1 0) 25 0 0) (0, (-1), 0, (-1), cD, wT, oP, bS, cS, wS)) 0 37 0 = pM (up2 (up2 (up2 M 0 3 (nI L)) 0 1 0) 25 0 0) (0, (-1), 0, (-1), 0, wT, oP, bS, cS, wS) from pM_37 (up2 (up2 (up2 M 0 3 (nI L)) 0 1 0) 25 0 0) _ _]
  have T' : tpI (up2 (up2 (up2 M 0 3 (nI L)) 0 1 0) 25 0 0) L := ⟨rfl, hL6, hT1⟩
  exact gf_lw (l_rs E (by omega) h hG W hL6 (l_rd E h hG W (rdR M L (aT, eN, bD, bP, cD, wT, oP, bS, cS, wS))) 26 (up2 (up2 (up2 M 0 3 (nI L)) 0 1 0) 25 0 0) (0, -1, 0, -1, 0, wT, oP, bS, cS, wS) T' 0 ⟨by show 0 ≤ L; omega, by show 0 ≤ 2; omega⟩ (by omega) (Or.inl rfl) (Or.inl (by omega)) rfl) ⟨rfl, trivial⟩
