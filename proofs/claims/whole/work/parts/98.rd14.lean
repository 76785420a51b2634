/-! ===== the reference's reader: terms ===== -/
theorem e_X12_reads (E : gE) {d : Nat} (hd : 10 ≤ d) {L : Nat} (hL6 : L ≤ 600) (h : hp_T) (hG : gr h) (M : mM) (W : mN) (q : pS) (h1 : M 0 1 = nI L) (hT1 : ∀ i, i < L → ∃ q, q < 256 ∧ M 1 i = nI q) : ev E mX12_reads d [.ref (E.1 + 247)] (hm h (pM M q) W) (some (.int (bI (decide ((rdR M L q).2.2.2.1 = 0))))) (hm h (rdM M L q) W) := l_rds E hd hL6 h hG M W q.1 q.2.1 q.2.2.1 q.2.2.2.1 q.2.2.2.2.1 q.2.2.2.2.2.1 q.2.2.2.2.2.2.1 q.2.2.2.2.2.2.2.1 q.2.2.2.2.2.2.2.2.1 q.2.2.2.2.2.2.2.2.2 h1 hT1
/-- what is known of the text read -/
theorem rdR_T {M : mM} {L : Nat} {q : pS} (hL6 : L ≤ 600) : (∀ r, 0 < r → r < 25 ∨ 28 < r → (rdR M L q).1 r = M r) ∧ (∀ k, k ≠ 3 → k ≠ 1 → (rdR M L q).1 0 k = M 0 k) ∧ rJ L (rdR M L q).2 ∧ ∃ j, j ≤ 24 ∧ (rdR M L q).1 25 0 = nI j := by
  have h := rsF_T (L := L) hL6 27 (up2 (up2 (up2 M 0 3 (nI L)) 0 1 0) 25 0 0) (0, -1, 0, -1, 0, q.2.2.2.2.2) 0 ⟨Nat.zero_le _, Nat.zero_le _⟩ (by decide) rfl
  refine ⟨fun r h0 hr => ?_, fun k h3 h1 => ?_, h.2.1, h.2.2⟩
  · refine (h.1 r hr).trans ?_
    rw [up2_row (show r ≠ 25 by omega), up2_row (show r ≠ 0 by omega), up2_row (show r ≠ 0 by omega)]
  · refine (congrFun (h.1 0 (by decide)) k).trans ?_
    rw [up2_row (show 0 ≠ 25 by decide), up2_k _ _ h1, up2_k _ _ h3]
theorem rdM_x {M : mM} {L : Nat} {q : pS} {r : Nat} (h0 : r ≠ 0) (h1 : r ≠ 29) (h2 : r ≠ 30) : rdM M L q r = (rdR M L q).1 r := by
  funext i
  unfold rdM pM
  rw [if_neg h0, if_neg h1, if_neg h2, up2_row h0, up2_row h0]
theorem rdM_62 {M : mM} {L : Nat} {q : pS} (hL6 : L ≤ 600) {n : Nat} (hN : M 0 62 = nI n) : rdM M L q 0 62 = nI n := ((rdR_T hL6).2.1 62 (by decide) (by decide)).trans hN
theorem rdM_25 {M : mM} {L : Nat} {q : pS} (hL6 : L ≤ 600) : rdM M L q 25 0 = nI (rdM M L q 25 0).toNatClampNeg ∧ (rdM M L q 25 0).toNatClampNeg ≤ 24 := by
  obtain ⟨j, hj, e⟩ := (rdR_T (M := M) (q := q) hL6).2.2.2
  have e2 : rdM M L q 25 0 = nI j := (congrFun (rdM_x (by decide) (by decide) (by decide)) 0).trans e
  rw [e2, nI_clamp (by omega)]
  exact ⟨rfl, hj⟩
theorem rdM_37 {M : mM} {L : Nat} {q : pS} (hL6 : L ≤ 600) : rdM M L q 0 37 = nI (rdR M L q).2.2.2.2.2.1 ∧ (rdR M L q).2.2.2.2.2.1 ≤ 602 := by
  have hr := (rdR_T (M := M) (q := q) hL6).2.2.1
  have h1 := hr.1
  have h2 := hr.2
  exact ⟨rfl, by omega⟩
theorem macT_25 {M : mM} {n : Nat} {k o c v : Int32} : macT M n k o c v 25 = M 25 := by
  unfold macT
  rw [up2_row (by decide), up2_row (by decide), up2_row (by decide), up2_row (by decide), up2_row (by decide), up2_row (by decide)]
theorem macT_0 {M : mM} {n : Nat} {k o c v : Int32} {i : Nat} (h : i ≠ 62) : macT M n k o c v 0 i = M 0 i := by
  unfold macT
  rw [up2_row (by decide), up2_row (by decide), up2_row (by decide), up2_row (by decide), up2_row (by decide), up2_k _ _ h]
def mteF (M : mM) (L n : Nat) (o : Int32) (q : pS) : mM × Int32 := (if (zb (0 ≤ o ∧ o ≤ 8)) = 0 then ((up2 (pM M q) 0 1 0), (-2)) else (if (nI n) = 200 then ((up2 (pM M q) 0 1 0), (-2)) else (if (bI (decide ((rdR M L q).2.2.2.1 = 0))) = 0 then ((rdM M L q), (-1)) else ((mcpS (n + 1) ((rdM M L q) 25 0).toNatClampNeg (rdR M L q).2.2.2.2.2.1 (macT (rdM M L q) n 1 o 0 0)), (nI (n + 1))))))
theorem e_X12_terms (E : gE) {d : Nat} (hd : 11 ≤ d) {L n : Nat} (o : Int32) (hL6 : L ≤ 600) (h : hp_T) (hG : gr h) (M : mM) (W : mN) (q : pS) (h1 : M 0 1 = nI L) (hT1 : ∀ i, i < L → ∃ q, q < 256 ∧ M 1 i = nI q) (hN : M 0 62 = nI n) (hn2 : n ≤ 200) : ev E mX12_terms d [.ref (E.1 + 247), .int o] (hm h (pM M q) W) (some (.int (mteF M L n o q).2)) (hm h (mteF M L n o q).1 W) := by
  refine ev_of rfl (fun q => absurd q (by decide)) (Nat.le_of_ble_eq_true rfl) ?_
  refine gf_iload_n 1 dX12_terms_0 rfl rfl ?_
  refine gf_callS cmX12_isOffice lkX12_451 stX12_isOffice dX12_terms_1 (d1 := d - 1) (by omega) (e_X12_isOffice E (by omega) o _) rfl rfl (Nat.le_of_ble_eq_true rfl) ?_
  refine gf_if_eq 17 dX12_terms_4 rfl (fun zc4 => ?_) (fun zc4 => ?_)
  · refine gf_aload_n 0 dX12_terms_17 rfl rfl ?_
    refine gf_iconst (0) dX12_terms_18 rfl ?_
    refine gf_putI flX12_282 rfl rfl dX12_terms_19 (gt_247 hG) ⟨rfl, rfl⟩ ?_
    rw [mI_0]
    refine gf_bipush (-2) dX12_terms_22 rfl ?_
    exact gf_iretE dX12_terms_24 rfl (by rw [(show mteF M L n o q = ((up2 (pM M q) 0 1 0), (-2)) from if_pos zc4)]) (by rw [(show mteF M L n o q = ((up2 (pM M q) 0 1 0), (-2)) from if_pos zc4)])
  · refine gf_aload_n 0 dX12_terms_7 rfl rfl ?_
    refine gf_getI flX12_424 rfl dX12_terms_8 (gt_247 hG) ?_
    rw [show hp_i (hm h (pM M q) W) 247 62 = nI n from hN]
    refine gf_sipush (200) dX12_terms_11 rfl ?_
    refine gf_icmp_ne 25 dX12_terms_14 rfl (fun zc14 => ?_) (fun zc14 => ?_)
    · refine gf_aload_n 0 dX12_terms_25 rfl rfl ?_
      refine gf_callV cmX12_reads lkX12_472 imX12_reads seX12_reads ⟨rfl, by decide⟩ dX12_terms_26 (d1 := d - 1) (by omega) (gt_247 hG) (e_X12_reads E (by omega) hL6 h hG M W q h1 hT1) rfl rfl (Nat.le_of_ble_eq_true rfl) ?_
      refine gf_if_ne 34 dX12_terms_29 rfl (fun zc29 => ?_) (fun zc29 => ?_)
      · refine gf_aload_n 0 dX12_terms_34 rfl rfl ?_
        refine gf_iconst (1) dX12_terms_35 rfl ?_
        refine gf_iload_n 1 dX12_terms_36 rfl rfl ?_
        refine gf_iconst (0) dX12_terms_37 rfl ?_
        refine gf_iconst (0) dX12_terms_38 rfl ?_
        refine gf_callV cmX12_act lkX12_475 imX12_act seX12_act ⟨rfl, by decide⟩ dX12_terms_39 (d1 := d - 1) (by omega) (gt_247 hG) (e_X12_act E (by omega) 1 o 0 0 h hG (rdM M L q) W (rdM_62 hL6 hN) (show n < 200 from by rcases Nat.lt_or_ge n 200 with w9 | w9; exact w9; exact absurd (by rw [show n = 200 by omega]; rfl) zc14)) rfl rfl (Nat.le_of_ble_eq_true rfl) ?_
        refine gf_istore_n 2 dX12_terms_42 rfl (Nat.le_of_ble_eq_true rfl) ?_
        refine gf_aload_n 0 dX12_terms_43 rfl rfl ?_
        refine gf_iload_n 2 dX12_terms_44 rfl rfl ?_
        refine gf_callV cmX12_copies lkX12_479 imX12_copies seX12_copies ⟨rfl, by decide⟩ dX12_terms_45 (d1 := d - 1) (by omega) (gt_247 hG) (e_X12_copies E (a := n + 1) h hG (macT (rdM M L q) n 1 o 0 0) W (by omega) (Nat.succ_le_of_lt (show n < 200 from by rcases Nat.lt_or_ge n 200 with w9 | w9; exact w9; exact absurd (by rw [show n = 200 by omega]; rfl) zc14)) ((congrFun macT_25 0).trans (rdM_25 hL6).1) (rdM_25 hL6).2 ((macT_0 (by decide)).trans (rdM_37 hL6).1) (Nat.le_trans (rdM_37 hL6).2 (by decide))) rfl rfl (Nat.le_of_ble_eq_true rfl) ?_
        refine gf_iload_n 2 dX12_terms_48 rfl rfl ?_
        exact gf_iretE dX12_terms_49 rfl (by rw [(show mteF M L n o q = ((mcpS (n + 1) ((rdM M L q) 25 0).toNatClampNeg (rdR M L q).2.2.2.2.2.1 (macT (rdM M L q) n 1 o 0 0)), (nI (n + 1))) from (if_neg zc4).trans ((if_neg zc14).trans (if_neg zc29)))]) (by rw [(show mteF M L n o q = ((mcpS (n + 1) ((rdM M L q) 25 0).toNatClampNeg (rdR M L q).2.2.2.2.2.1 (macT (rdM M L q) n 1 o 0 0)), (nI (n + 1))) from (if_neg zc4).trans ((if_neg zc14).trans (if_neg zc29)))])
      · refine gf_iconst (-1) dX12_terms_32 rfl ?_
        exact gf_iretE dX12_terms_33 rfl (by rw [(show mteF M L n o q = ((rdM M L q), (-1)) from (if_neg zc4).trans ((if_neg zc14).trans (if_pos zc29)))]) (by rw [(show mteF M L n o q = ((rdM M L q), (-1)) from (if_neg zc4).trans ((if_neg zc14).trans (if_pos zc29)))])
    · refine gf_aload_n 0 dX12_terms_17 rfl rfl ?_
      refine gf_iconst (0) dX12_terms_18 rfl ?_
      refine gf_putI flX12_282 rfl rfl dX12_terms_19 (gt_247 hG) ⟨rfl, rfl⟩ ?_
      rw [mI_0]
      refine gf_bipush (-2) dX12_terms_22 rfl ?_
      exact gf_iretE dX12_terms_24 rfl (by rw [(show mteF M L n o q = ((up2 (pM M q) 0 1 0), (-2)) from (if_neg zc4).trans (if_pos zc14))]) (by rw [(show mteF M L n o q = ((up2 (pM M q) 0 1 0), (-2)) from (if_neg zc4).trans (if_pos zc14))])
