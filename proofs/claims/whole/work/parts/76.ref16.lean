/-! ===== the reference: premium, what is asked, the manner ===== -/
theorem poQ_ix {M : mM} {n s : Nat} {k : Int32} (q : poQ M n s k) (hn : n ≤ 200) : k = nI k.toNatClampNeg ∧ 1 ≤ k.toNatClampNeg ∧ k.toNatClampNeg ≤ n ∧ M 47 k.toNatClampNeg = 2 ∧ knP M s k.toNatClampNeg := by
  have h1 := q.1.1
  have h2 := q.1.2
  rw [fa_le, ti_1] at h1
  rw [fa_le, nI_toInt (by omega)] at h2
  have e := ix_nI (c := k) (by omega)
  refine ⟨e, ?_, ?_, q.2⟩
  · show 1 ≤ k.toInt.toNat
    omega
  · have := ix_lt (c := k) (n := n + 1) (by omega) (by omega)
    omega
theorem bI_vn (b : Bool) : vp_nar .boolean (bI b) = bI b := by cases b <;> rfl
/-- the statement at the place r, of the act a -/
def telR (V : Int32 → Int64) (M : mM) (a r : Nat) (W : tW) : tW := tlS V (fun j => M 29 (640 * a + j)) (M 27 r).toNatClampNeg W.2 ((M 28 r).toNatClampNeg - (M 27 r).toNatClampNeg)
theorem e_telR (E : gE) {d : Nat} (hd : 4 ≤ d) {n s w g cc a k : Nat} (h : hp_T) (hG : gr h) (M : mM) (N : mN) (A : macI M n s) (C : mcty M w g) (hcc : M 0 71 = nI cc) (hcw : cc < w * g) (ha : a ≤ 200) (T : mtI M a k) {x kind : Int32} (hk5 : ¬ kind = 5) (hx : laO M a kind = x) (hx1 : ¬ x = -1) (W : tW) : ev E mX12_tells d [.ref (E.1 + 247), .int (nI a), .int x] (sP h M N W) (some (.long ((telR (mtV M n s w g cc) M a x.toNatClampNeg W).2 0))) (sP h M N (telR (mtV M n s w g cc) M a x.toNatClampNeg W)) := by
  subst hx
  have hk24 := T.1
  have hl : laO M a kind = itN (laB M a kind) (-1) k := by unfold laO; rw [T.2.1, nI_clamp (by omega)]
  obtain ⟨q, hq, eq9, kq⟩ := (la_at M a kind k).resolve_left (fun z => hx1 (hl.trans z))
  rw [hl, eq9, nI_clamp (by omega)]
  obtain ⟨x, m, hx, hy, hxm, hok⟩ := T.2.2 q hq (fun z => hk5 (kq.symm.trans z))
  have e : telR (mtV M n s w g cc) M a (24 * a + q) W = tlS (mtV M n s w g cc) (fun j => M 29 (640 * a + j)) x W.2 m := by
    unfold telR
    rw [hx, hy, nI_clamp (by omega), nI_clamp (by omega), Nat.add_sub_cancel_left]
  rw [e]
  exact e_X12_tells E hd h hG M N A C hcc hcw ha hxm hok W hx hy (by omega)
theorem e_fuW (E : gE) {d : Nat} {x : Int32} (hx : ∃ k, k < 4 ∧ x = nI k) (h : hp_T) : ev E mX12_fuel d [.int x] h (some (.int ((gf_sc 3).getD x.toNatClampNeg 0))) h := by
  obtain ⟨k, hk, e⟩ := hx
  subst e
  rw [nI_clamp (by omega)]
  exact e_X12_fuel E (Nat.zero_le _) hk h
def mprS (n s w g : Nat) (k : Int32) (M : mM) (W : tW) : Int32 × qS := (if (bI (decide (poQ M n s k))) = 0 then ((-1), (M, W)) else (if (nI (mtO M s (M 48 k.toNatClampNeg) n)) = 0 then (0, (M, W)) else (if (laO M (mtO M s (M 48 k.toNatClampNeg) n) 4) = (-1) then (0, (M, W)) else (if 0 ≤ (lg_cmp ((telR (mtV (askM M (M 49 k.toNatClampNeg) (M 50 k.toNatClampNeg) ((nI (fa_cnt (mpB M s (M 49 k.toNatClampNeg)) n)) - 1) 0) n s w g (M 49 k.toNatClampNeg).toNatClampNeg) (askM M (M 49 k.toNatClampNeg) (M 50 k.toNatClampNeg) ((nI (fa_cnt (mpB M s (M 49 k.toNatClampNeg)) n)) - 1) 0) (mtO M s (M 48 k.toNatClampNeg) n) (laO M (mtO M s (M 48 k.toNatClampNeg) n) 4).toNatClampNeg W).2 0) 0) then ((Int64.toInt32 ((telR (mtV (askM M (M 49 k.toNatClampNeg) (M 50 k.toNatClampNeg) ((nI (fa_cnt (mpB M s (M 49 k.toNatClampNeg)) n)) - 1) 0) n s w g (M 49 k.toNatClampNeg).toNatClampNeg) (askM M (M 49 k.toNatClampNeg) (M 50 k.toNatClampNeg) ((nI (fa_cnt (mpB M s (M 49 k.toNatClampNeg)) n)) - 1) 0) (mtO M s (M 48 k.toNatClampNeg) n) (laO M (mtO M s (M 48 k.toNatClampNeg) n) 4).toNatClampNeg W).2 0)), ((askM M (M 49 k.toNatClampNeg) (M 50 k.toNatClampNeg) ((nI (fa_cnt (mpB M s (M 49 k.toNatClampNeg)) n)) - 1) 0), (telR (mtV (askM M (M 49 k.toNatClampNeg) (M 50 k.toNatClampNeg) ((nI (fa_cnt (mpB M s (M 49 k.toNatClampNeg)) n)) - 1) 0) n s w g (M 49 k.toNatClampNeg).toNatClampNeg) (askM M (M 49 k.toNatClampNeg) (M 50 k.toNatClampNeg) ((nI (fa_cnt (mpB M s (M 49 k.toNatClampNeg)) n)) - 1) 0) (mtO M s (M 48 k.toNatClampNeg) n) (laO M (mtO M s (M 48 k.toNatClampNeg) n) 4).toNatClampNeg W))) else (0, ((askM M (M 49 k.toNatClampNeg) (M 50 k.toNatClampNeg) ((nI (fa_cnt (mpB M s (M 49 k.toNatClampNeg)) n)) - 1) 0), (telR (mtV (askM M (M 49 k.toNatClampNeg) (M 50 k.toNatClampNeg) ((nI (fa_cnt (mpB M s (M 49 k.toNatClampNeg)) n)) - 1) 0) n s w g (M 49 k.toNatClampNeg).toNatClampNeg) (askM M (M 49 k.toNatClampNeg) (M 50 k.toNatClampNeg) ((nI (fa_cnt (mpB M s (M 49 k.toNatClampNeg)) n)) - 1) 0) (mtO M s (M 48 k.toNatClampNeg) n) (laO M (mtO M s (M 48 k.toNatClampNeg) n) 4).toNatClampNeg W)))))))
theorem e_X12_premium (E : gE) {d : Nat} (hd : 5 ≤ d) {n s w g : Nat} (k : Int32) (h : hp_T) (hG : gr h) (M : mM) (N : mN) (I : refI M n s w g) (W : tW) : ev E mX12_premium d [.ref (E.1 + 247), .int k] (sP h M N W) (some (.int (mprS n s w g k M W).1)) (sP h (mprS n s w g k M W).2.1 N (mprS n s w g k M W).2.2) := by
  refine ev_of rfl (fun q => absurd q (by decide)) (Nat.le_of_ble_eq_true rfl) ?_
  have hn2 := I.1.2.1
  refine gf_aload_n 0 dX12_premium_0 rfl rfl ?_
  refine gf_iload_n 1 dX12_premium_1 rfl rfl ?_
  refine gf_callV cmX12_isPolicy lkX12_517 imX12_isPolicy seX12_isPolicy ⟨rfl, by decide⟩ dX12_premium_2 (d1 := d - 1) (by omega) (gt_247 hG) (e_X12_isPolicy E (by omega) k h hG (up2 M 0 70 (nI W.1)) (uprL N 52 W.2) (n := n) (s := s) (show macI (up2 M 0 70 (nI W.1)) n s from (show macI M n s from I.1))) rfl rfl (Nat.le_of_ble_eq_true rfl) ?_
  rw [show decide (poQ (up2 M 0 70 (nI W.1)) n s k) = decide (poQ M n s k) from rfl]
  change gf _ _ _ _ _ _ (sP h M N W) _ _
  refine gf_if_ne 10 dX12_premium_5 rfl (fun zc5 => ?_) (fun zc5 => ?_)
  · have hpo : poQ M n s k := of_decide_eq_true (bI_t zc5)
    obtain ⟨hk1, hk2, hk3, hk4, hk5⟩ := poQ_ix hpo hn2
    have hle := mtO_le M s (M 48 k.toNatClampNeg) n
    obtain ⟨cz, hcz, ecz⟩ := I.2.2.2.2 _ hk2 hk3 hk4
    have hn : w * g ≤ 120 := Nat.le_trans (Nat.mul_le_mul I.2.1.1.2.1 I.2.1.1.2.2.2) (by decide)
    have hc9 : M 49 k.toNatClampNeg = nI (M 49 k.toNatClampNeg).toNatClampNeg ∧ (M 49 k.toNatClampNeg).toNatClampNeg < w * g := ax_ix ⟨cz, hcz, ecz⟩ hn
    refine gf_aload_n 0 dX12_premium_10 rfl rfl ?_
    refine gf_aload_n 0 dX12_premium_11 rfl rfl ?_
    refine gf_getR flX12_164 rfl dX12_premium_12 (gt_247 hG) (gp_247_64 hG) ?_
    refine gf_iload_n 1 dX12_premium_15 rfl rfl ?_
    refine gf_iald 201 dX12_premium_16 (gt_295 hG) (gl_295 hG) hk1 (by omega) (by decide) ?_
    refine gf_callV cmX12_termsOf lkX12_495 imX12_termsOf seX12_termsOf ⟨rfl, by decide⟩ dX12_premium_17 (d1 := d - 1) (by omega) (gt_247 hG) (e_X12_termsOf E (by omega) (M 48 k.toNatClampNeg) h hG (up2 M 0 70 (nI W.1)) (uprL N 52 W.2) (n := n) (s := s) (show macI (up2 M 0 70 (nI W.1)) n s from (show macI M n s from I.1))) rfl rfl (Nat.le_of_ble_eq_true rfl) ?_
    rw [show mtO (up2 M 0 70 (nI W.1)) s (M 48 k.toNatClampNeg) n = mtO M s (M 48 k.toNatClampNeg) n from rfl]
    change gf _ _ _ _ _ _ (sP h M N W) _ _
    refine gf_istore_n 2 dX12_premium_20 rfl (Nat.le_of_ble_eq_true rfl) ?_
    refine gf_iload_n 2 dX12_premium_21 rfl rfl ?_
    refine gf_if_ne 29 dX12_premium_22 rfl (fun zc22 => ?_) (fun zc22 => ?_)
    · have ht0 : ¬ (mtO M s (M 48 k.toNatClampNeg) n) = 0 := fun q => zc22 (by rw [q]; rfl)
      have hat := (mtO_at M s (M 48 k.toNatClampNeg) n).resolve_left ht0
      obtain ⟨kt, hT⟩ := I.2.2.1 _ hat.1 hat.2.1 hat.2.2
      refine gf_aload_n 0 dX12_premium_29 rfl rfl ?_
      refine gf_iload_n 2 dX12_premium_30 rfl rfl ?_
      refine gf_iconst (4) dX12_premium_31 rfl ?_
      refine gf_callV cmX12_lastOf lkX12_549 imX12_lastOf seX12_lastOf ⟨rfl, by decide⟩ dX12_premium_32 (d1 := d - 1) (by omega) (gt_247 hG) (e_X12_lastOf E (by omega) 4 h hG M N (a := (mtO M s (M 48 k.toNatClampNeg) n)) (show _ ≤ 200 by omega) hT.2.1 hT.1 W) rfl rfl (Nat.le_of_ble_eq_true rfl) ?_
      refine gf_istore_n 3 dX12_premium_35 rfl (Nat.le_of_ble_eq_true rfl) ?_
      refine gf_iload_n 3 dX12_premium_36 rfl rfl ?_
      refine gf_iconst (-1) dX12_premium_37 rfl ?_
      refine gf_icmp_ne 43 dX12_premium_38 rfl (fun zc38 => ?_) (fun zc38 => ?_)
      · refine gf_aload_n 0 dX12_premium_43 rfl rfl ?_
        refine gf_aload_n 0 dX12_premium_44 rfl rfl ?_
        refine gf_getR flX12_167 rfl dX12_premium_45 (gt_247 hG) (gp_247_65 hG) ?_
        refine gf_iload_n 1 dX12_premium_48 rfl rfl ?_
        refine gf_iald 201 dX12_premium_49 (gt_296 hG) (gl_296 hG) hk1 (by omega) (by decide) ?_
        refine gf_aload_n 0 dX12_premium_50 rfl rfl ?_
        refine gf_getR flX12_170 rfl dX12_premium_51 (gt_247 hG) (gp_247_66 hG) ?_
        refine gf_iload_n 1 dX12_premium_54 rfl rfl ?_
        refine gf_iald 201 dX12_premium_55 (gt_297 hG) (gl_297 hG) hk1 (by omega) (by decide) ?_
        refine gf_aload_n 0 dX12_premium_56 rfl rfl ?_
        refine gf_aload_n 0 dX12_premium_57 rfl rfl ?_
        refine gf_getR flX12_167 rfl dX12_premium_58 (gt_247 hG) (gp_247_65 hG) ?_
        refine gf_iload_n 1 dX12_premium_61 rfl rfl ?_
        refine gf_iald 201 dX12_premium_62 (gt_296 hG) (gl_296 hG) hk1 (by omega) (by decide) ?_
        refine gf_callV cmX12_policiesOn lkX12_552 imX12_policiesOn seX12_policiesOn ⟨rfl, by decide⟩ dX12_premium_63 (d1 := d - 1) (by omega) (gt_247 hG) (e_X12_policiesOn E (by omega) (M 49 k.toNatClampNeg) h hG (up2 M 0 70 (nI W.1)) (uprL N 52 W.2) (n := n) (s := s) (show macI (up2 M 0 70 (nI W.1)) n s from (show macI M n s from I.1))) rfl rfl (Nat.le_of_ble_eq_true rfl) ?_
        rw [show fa_cnt (mpB (up2 M 0 70 (nI W.1)) s (M 49 k.toNatClampNeg)) n = fa_cnt (mpB M s (M 49 k.toNatClampNeg)) n from rfl]
        change gf _ _ _ _ _ _ (sP h M N W) _ _
        refine gf_iconst (1) dX12_premium_66 rfl ?_
        refine gf_isub dX12_premium_67 ?_
        refine gf_iconst (0) dX12_premium_68 rfl ?_
        refine gf_callV cmX12_asksOf lkX12_555 imX12_asksOf seX12_asksOf ⟨rfl, by decide⟩ dX12_premium_69 (d1 := d - 1) (by omega) (gt_247 hG) (e_X12_asksOf E (by omega) (M 49 k.toNatClampNeg) (M 50 k.toNatClampNeg) ((nI (fa_cnt (mpB M s (M 49 k.toNatClampNeg)) n)) - 1) 0 h hG M N W) rfl rfl (Nat.le_of_ble_eq_true rfl) ?_
        refine gf_aload_n 0 dX12_premium_72 rfl rfl ?_
        refine gf_iload_n 2 dX12_premium_73 rfl rfl ?_
        refine gf_iload_n 3 dX12_premium_74 rfl rfl ?_
        refine gf_callV cmX12_tells lkX12_545 imX12_tells seX12_tells ⟨rfl, by decide⟩ dX12_premium_75 (d1 := d - 1) (by omega) (gt_247 hG) (e_telR E (by omega) h hG (askM M (M 49 k.toNatClampNeg) (M 50 k.toNatClampNeg) ((nI (fa_cnt (mpB M s (M 49 k.toNatClampNeg)) n)) - 1) 0) N (n := n) (s := s) (w := w) (g := g) (cc := (M 49 k.toNatClampNeg).toNatClampNeg) (show macI (askM M (M 49 k.toNatClampNeg) (M 50 k.toNatClampNeg) ((nI (fa_cnt (mpB M s (M 49 k.toNatClampNeg)) n)) - 1) 0) n s from I.1) (show mcty (askM M (M 49 k.toNatClampNeg) (M 50 k.toNatClampNeg) ((nI (fa_cnt (mpB M s (M 49 k.toNatClampNeg)) n)) - 1) 0) w g from I.2.1) (show M 49 k.toNatClampNeg = nI (M 49 k.toNatClampNeg).toNatClampNeg from hc9.1) hc9.2 (a := (mtO M s (M 48 k.toNatClampNeg) n)) (k := kt) (show _ ≤ 200 by omega) (show mtI (askM M (M 49 k.toNatClampNeg) (M 50 k.toNatClampNeg) ((nI (fa_cnt (mpB M s (M 49 k.toNatClampNeg)) n)) - 1) 0) (mtO M s (M 48 k.toNatClampNeg) n) kt from hT) (kind := 4) (by decide) rfl zc38 W) rfl rfl (Nat.le_of_ble_eq_true rfl) ?_
        refine gf_lstore dX12_premium_78 (Nat.le_of_ble_eq_true rfl) ?_
        refine gf_lload dX12_premium_80 rfl ?_
        refine gf_lconst (0) dX12_premium_82 rfl ?_
        refine gf_lcmp dX12_premium_83 ?_
        refine gf_if_ge 91 dX12_premium_84 rfl (fun zc84 => ?_) (fun zc84 => ?_)
        · refine gf_lload dX12_premium_91 rfl ?_
          refine gf_l2i dX12_premium_93 ?_
          exact gf_iretE dX12_premium_94 rfl (by rw [show mprS n s w g k M W = ((Int64.toInt32 ((telR (mtV (askM M (M 49 k.toNatClampNeg) (M 50 k.toNatClampNeg) ((nI (fa_cnt (mpB M s (M 49 k.toNatClampNeg)) n)) - 1) 0) n s w g (M 49 k.toNatClampNeg).toNatClampNeg) (askM M (M 49 k.toNatClampNeg) (M 50 k.toNatClampNeg) ((nI (fa_cnt (mpB M s (M 49 k.toNatClampNeg)) n)) - 1) 0) (mtO M s (M 48 k.toNatClampNeg) n) (laO M (mtO M s (M 48 k.toNatClampNeg) n) 4).toNatClampNeg W).2 0)), ((askM M (M 49 k.toNatClampNeg) (M 50 k.toNatClampNeg) ((nI (fa_cnt (mpB M s (M 49 k.toNatClampNeg)) n)) - 1) 0), (telR (mtV (askM M (M 49 k.toNatClampNeg) (M 50 k.toNatClampNeg) ((nI (fa_cnt (mpB M s (M 49 k.toNatClampNeg)) n)) - 1) 0) n s w g (M 49 k.toNatClampNeg).toNatClampNeg) (askM M (M 49 k.toNatClampNeg) (M 50 k.toNatClampNeg) ((nI (fa_cnt (mpB M s (M 49 k.toNatClampNeg)) n)) - 1) 0) (mtO M s (M 48 k.toNatClampNeg) n) (laO M (mtO M s (M 48 k.toNatClampNeg) n) 4).toNatClampNeg W))) from (if_neg zc5).trans ((if_neg zc22).trans ((if_neg zc38).trans (if_pos zc84)))]; first | done | rfl) (by rw [show mprS n s w g k M W = ((Int64.toInt32 ((telR (mtV (askM M (M 49 k.toNatClampNeg) (M 50 k.toNatClampNeg) ((nI (fa_cnt (mpB M s (M 49 k.toNatClampNeg)) n)) - 1) 0) n s w g (M 49 k.toNatClampNeg).toNatClampNeg) (askM M (M 49 k.toNatClampNeg) (M 50 k.toNatClampNeg) ((nI (fa_cnt (mpB M s (M 49 k.toNatClampNeg)) n)) - 1) 0) (mtO M s (M 48 k.toNatClampNeg) n) (laO M (mtO M s (M 48 k.toNatClampNeg) n) 4).toNatClampNeg W).2 0)), ((askM M (M 49 k.toNatClampNeg) (M 50 k.toNatClampNeg) ((nI (fa_cnt (mpB M s (M 49 k.toNatClampNeg)) n)) - 1) 0), (telR (mtV (askM M (M 49 k.toNatClampNeg) (M 50 k.toNatClampNeg) ((nI (fa_cnt (mpB M s (M 49 k.toNatClampNeg)) n)) - 1) 0) n s w g (M 49 k.toNatClampNeg).toNatClampNeg) (askM M (M 49 k.toNatClampNeg) (M 50 k.toNatClampNeg) ((nI (fa_cnt (mpB M s (M 49 k.toNatClampNeg)) n)) - 1) 0) (mtO M s (M 48 k.toNatClampNeg) n) (laO M (mtO M s (M 48 k.toNatClampNeg) n) 4).toNatClampNeg W))) from (if_neg zc5).trans ((if_neg zc22).trans ((if_neg zc38).trans (if_pos zc84)))]; first | done | rfl)
        · refine gf_iconst (0) dX12_premium_87 rfl ?_
          refine gf_goto 94 dX12_premium_88 rfl ?_
          exact gf_iretE dX12_premium_94 rfl (by rw [show mprS n s w g k M W = (0, ((askM M (M 49 k.toNatClampNeg) (M 50 k.toNatClampNeg) ((nI (fa_cnt (mpB M s (M 49 k.toNatClampNeg)) n)) - 1) 0), (telR (mtV (askM M (M 49 k.toNatClampNeg) (M 50 k.toNatClampNeg) ((nI (fa_cnt (mpB M s (M 49 k.toNatClampNeg)) n)) - 1) 0) n s w g (M 49 k.toNatClampNeg).toNatClampNeg) (askM M (M 49 k.toNatClampNeg) (M 50 k.toNatClampNeg) ((nI (fa_cnt (mpB M s (M 49 k.toNatClampNeg)) n)) - 1) 0) (mtO M s (M 48 k.toNatClampNeg) n) (laO M (mtO M s (M 48 k.toNatClampNeg) n) 4).toNatClampNeg W))) from (if_neg zc5).trans ((if_neg zc22).trans ((if_neg zc38).trans (if_neg zc84)))]; first | done | rfl) (by rw [show mprS n s w g k M W = (0, ((askM M (M 49 k.toNatClampNeg) (M 50 k.toNatClampNeg) ((nI (fa_cnt (mpB M s (M 49 k.toNatClampNeg)) n)) - 1) 0), (telR (mtV (askM M (M 49 k.toNatClampNeg) (M 50 k.toNatClampNeg) ((nI (fa_cnt (mpB M s (M 49 k.toNatClampNeg)) n)) - 1) 0) n s w g (M 49 k.toNatClampNeg).toNatClampNeg) (askM M (M 49 k.toNatClampNeg) (M 50 k.toNatClampNeg) ((nI (fa_cnt (mpB M s (M 49 k.toNatClampNeg)) n)) - 1) 0) (mtO M s (M 48 k.toNatClampNeg) n) (laO M (mtO M s (M 48 k.toNatClampNeg) n) 4).toNatClampNeg W))) from (if_neg zc5).trans ((if_neg zc22).trans ((if_neg zc38).trans (if_neg zc84)))]; first | done | rfl)
      · refine gf_iconst (0) dX12_premium_41 rfl ?_
        exact gf_iretE dX12_premium_42 rfl (by rw [show mprS n s w g k M W = (0, (M, W)) from (if_neg zc5).trans ((if_neg zc22).trans (if_pos zc38))]; first | done | rfl) (by rw [show mprS n s w g k M W = (0, (M, W)) from (if_neg zc5).trans ((if_neg zc22).trans (if_pos zc38))]; first | done | rfl)
    · refine gf_iconst (-1) dX12_premium_25 rfl ?_
      refine gf_goto 35 dX12_premium_26 rfl ?_
      refine gf_istore_n 3 dX12_premium_35 rfl (Nat.le_of_ble_eq_true rfl) ?_
      refine gf_iload_n 3 dX12_premium_36 rfl rfl ?_
      refine gf_iconst (-1) dX12_premium_37 rfl ?_
      refine gf_icmp_ne 43 dX12_premium_38 rfl (fun q => absurd (rfl) q) (fun _ => ?_)
      refine gf_iconst (0) dX12_premium_41 rfl ?_
      exact gf_iretE dX12_premium_42 rfl (by rw [show mprS n s w g k M W = (0, (M, W)) from (if_neg zc5).trans (if_pos zc22)]; first | done | rfl) (by rw [show mprS n s w g k M W = (0, (M, W)) from (if_neg zc5).trans (if_pos zc22)]; first | done | rfl)
  · refine gf_iconst (-1) dX12_premium_8 rfl ?_
    exact gf_iretE dX12_premium_9 rfl (by rw [show mprS n s w g k M W = ((-1), (M, W)) from if_pos zc5]; first | done | rfl) (by rw [show mprS n s w g k M W = ((-1), (M, W)) from if_pos zc5]; first | done | rfl)
def mmaS (n s k : Nat) (M : mM) : Int32 := (if (nI (mtO M s (M 48 k) n)) = 0 then 1 else (if (laO M (mtO M s (M 48 k) n) 5) = (-1) then 1 else (M 28 ((laO M (mtO M s (M 48 k) n) 5).toNatClampNeg))))
theorem e_X12_mannerOf (E : gE) {d : Nat} (hd : 4 ≤ d) {n s w g k : Nat} (h : hp_T) (hG : gr h) (M : mM) (N : mN) (I : refI M n s w g) (W : tW) (hk : k ≤ 200) : ev E mX12_mannerOf d [.ref (E.1 + 247), .int (nI k)] (sP h M N W) (some (.int (mmaS n s k M))) (sP h M N W) := by
  refine ev_of rfl (fun q => absurd q (by decide)) (Nat.le_of_ble_eq_true rfl) ?_
  have hn2 := I.1.2.1
  have hle := mtO_le M s (M 48 k) n
  refine gf_aload_n 0 dX12_mannerOf_0 rfl rfl ?_
  refine gf_aload_n 0 dX12_mannerOf_1 rfl rfl ?_
  refine gf_getR flX12_164 rfl dX12_mannerOf_2 (gt_247 hG) (gp_247_64 hG) ?_
  refine gf_iload_n 1 dX12_mannerOf_5 rfl rfl ?_
  refine gf_iald 201 dX12_mannerOf_6 (gt_295 hG) (gl_295 hG) rfl (by omega) (by decide) ?_
  refine gf_callV cmX12_termsOf lkX12_495 imX12_termsOf seX12_termsOf ⟨rfl, by decide⟩ dX12_mannerOf_7 (d1 := d - 1) (by omega) (gt_247 hG) (e_X12_termsOf E (by omega) (M 48 k) h hG (up2 M 0 70 (nI W.1)) (uprL N 52 W.2) (n := n) (s := s) (show macI (up2 M 0 70 (nI W.1)) n s from (show macI M n s from I.1))) rfl rfl (Nat.le_of_ble_eq_true rfl) ?_
  rw [show mtO (up2 M 0 70 (nI W.1)) s (M 48 k) n = mtO M s (M 48 k) n from rfl]
  change gf _ _ _ _ _ _ (sP h M N W) _ _
  refine gf_istore_n 2 dX12_mannerOf_10 rfl (Nat.le_of_ble_eq_true rfl) ?_
  refine gf_iload_n 2 dX12_mannerOf_11 rfl rfl ?_
  refine gf_if_ne 19 dX12_mannerOf_12 rfl (fun zc12 => ?_) (fun zc12 => ?_)
  · have ht0 : ¬ (mtO M s (M 48 k) n) = 0 := fun q => zc12 (by rw [q]; rfl)
    have hat := (mtO_at M s (M 48 k) n).resolve_left ht0
    obtain ⟨kt, hT⟩ := I.2.2.1 _ hat.1 hat.2.1 hat.2.2
    refine gf_aload_n 0 dX12_mannerOf_19 rfl rfl ?_
    refine gf_iload_n 2 dX12_mannerOf_20 rfl rfl ?_
    refine gf_iconst (5) dX12_mannerOf_21 rfl ?_
    refine gf_callV cmX12_lastOf lkX12_549 imX12_lastOf seX12_lastOf ⟨rfl, by decide⟩ dX12_mannerOf_22 (d1 := d - 1) (by omega) (gt_247 hG) (e_X12_lastOf E (by omega) 5 h hG M N (a := (mtO M s (M 48 k) n)) (show _ ≤ 200 by omega) hT.2.1 hT.1 W) rfl rfl (Nat.le_of_ble_eq_true rfl) ?_
    refine gf_istore_n 3 dX12_mannerOf_25 rfl (Nat.le_of_ble_eq_true rfl) ?_
    refine gf_iload_n 3 dX12_mannerOf_26 rfl rfl ?_
    refine gf_iconst (-1) dX12_mannerOf_27 rfl ?_
    refine gf_icmp_ne 35 dX12_mannerOf_28 rfl (fun zc28 => ?_) (fun zc28 => ?_)
    · have hla : (laO M (mtO M s (M 48 k) n) 5) = nI (laO M (mtO M s (M 48 k) n) 5).toNatClampNeg ∧ (laO M (mtO M s (M 48 k) n) 5).toNatClampNeg < 4824 := by
        have hl : (laO M (mtO M s (M 48 k) n) 5) = itN (laB M (mtO M s (M 48 k) n) 5) (-1) kt := by unfold laO; rw [hT.2.1, nI_clamp (by have := hT.1; omega)]
        obtain ⟨q, hq, eq9, kq⟩ := (la_at M (mtO M s (M 48 k) n) 5 kt).resolve_left (fun z => zc28 (hl.trans z))
        rw [hl, eq9, nI_clamp (by have := hT.1; omega)]
        exact ⟨rfl, by have := hT.1; omega⟩
      refine gf_aload_n 0 dX12_mannerOf_35 rfl rfl ?_
      refine gf_getR flX12_96 rfl dX12_mannerOf_36 (gt_247 hG) (gp_247_35 hG) ?_
      refine gf_iload_n 3 dX12_mannerOf_39 rfl rfl ?_
      refine gf_iald 4824 dX12_mannerOf_40 (gt_275 hG) (gl_275 hG) hla.1 hla.2 (by decide) ?_
      exact gf_iretE dX12_mannerOf_41 rfl (by rw [show mmaS n s k M = (M 28 ((laO M (mtO M s (M 48 k) n) 5).toNatClampNeg)) from (if_neg zc12).trans (if_neg zc28)]; first | done | rfl) (rfl)
    · refine gf_iconst (1) dX12_mannerOf_31 rfl ?_
      refine gf_goto 41 dX12_mannerOf_32 rfl ?_
      exact gf_iretE dX12_mannerOf_41 rfl (by rw [show mmaS n s k M = 1 from (if_neg zc12).trans (if_pos zc28)]; first | done | rfl) (rfl)
  · refine gf_iconst (-1) dX12_mannerOf_15 rfl ?_
    refine gf_goto 25 dX12_mannerOf_16 rfl ?_
    refine gf_istore_n 3 dX12_mannerOf_25 rfl (Nat.le_of_ble_eq_true rfl) ?_
    refine gf_iload_n 3 dX12_mannerOf_26 rfl rfl ?_
    refine gf_iconst (-1) dX12_mannerOf_27 rfl ?_
    refine gf_icmp_ne 35 dX12_mannerOf_28 rfl (fun q => absurd (rfl) q) (fun _ => ?_)
    refine gf_iconst (1) dX12_mannerOf_31 rfl ?_
    refine gf_goto 41 dX12_mannerOf_32 rfl ?_
    exact gf_iretE dX12_mannerOf_41 rfl (by rw [show mmaS n s k M = 1 from if_pos zc12]; first | done | rfl) (rfl)
def mas1 (n s k : Nat) (M : mM) : mM := askM M (M 49 k) (M 50 k) (nI (fa_cnt (mpB M s (M 49 k)) n) - 1) (mloV M (M 49 k).toNatClampNeg)
def masV (n s w g k : Nat) (M : mM) : Int32 → Int64 := mtV (mas1 n s k M) n s w g (M 49 k).toNatClampNeg
def mas2 (n s w g k : Nat) (M : mM) (W : tW) : Bool × tW := hoS (masV n s w g k M) (mas1 n s k M) (mtO M s (M 48 k) n) 1 W
def mas3 (n s w g k : Nat) (M : mM) (W : tW) : Bool × tW := hoS (masV n s w g k M) (mas1 n s k M) (mtO M s (M 48 k) n) 0 (mas2 n s w g k M W).2
def mas4 (n s w g k : Nat) (M : mM) (W : tW) : tW := telR (masV n s w g k M) (mas1 n s k M) (mtO M s (M 48 k) n) (laO (mas1 n s k M) (mtO M s (M 48 k) n) 3).toNatClampNeg (mas3 n s w g k M W).2
def masS (n s w g k : Nat) (M : mM) (W : tW) : Int32 × qS := (if (mloV M (M 49 k).toNatClampNeg) = 0 then (0, (M, W)) else (if (nI (mtO M s (M 48 k) n)) = 0 then (0, (M, W)) else (if (bI (mas2 n s w g k M W).1) = 0 then (if (bI (mas3 n s w g k M W).1) = 0 then (0, ((mas1 n s k M), (mas3 n s w g k M W).2)) else (if (laO (mas1 n s k M) (mtO M s (M 48 k) n) 3) = (-1) then (if 0 ≤ (lg_cmp (Int32.toInt64 (mloV M (M 49 k).toNatClampNeg)) 0) then (if 0 ≤ (lg_cmp (Int32.toInt64 (mloV M (M 49 k).toNatClampNeg)) (Int32.toInt64 ((mas1 n s k M) 50 k))) then ((Int64.toInt32 (Int32.toInt64 ((mas1 n s k M) 50 k))), ((mas1 n s k M), (mas3 n s w g k M W).2)) else ((Int64.toInt32 (Int32.toInt64 (mloV M (M 49 k).toNatClampNeg))), ((mas1 n s k M), (mas3 n s w g k M W).2))) else (if 0 ≤ (lg_cmp 0 (Int32.toInt64 ((mas1 n s k M) 50 k))) then ((Int64.toInt32 (Int32.toInt64 ((mas1 n s k M) 50 k))), ((mas1 n s k M), (mas3 n s w g k M W).2)) else ((Int64.toInt32 0), ((mas1 n s k M), (mas3 n s w g k M W).2)))) else (if 0 ≤ (lg_cmp ((mas4 n s w g k M W).2 0) 0) then (if 0 ≤ (lg_cmp ((mas4 n s w g k M W).2 0) (Int32.toInt64 ((mas1 n s k M) 50 k))) then ((Int64.toInt32 (Int32.toInt64 ((mas1 n s k M) 50 k))), ((mas1 n s k M), (mas4 n s w g k M W))) else ((Int64.toInt32 ((mas4 n s w g k M W).2 0)), ((mas1 n s k M), (mas4 n s w g k M W)))) else (if 0 ≤ (lg_cmp 0 (Int32.toInt64 ((mas1 n s k M) 50 k))) then ((Int64.toInt32 (Int32.toInt64 ((mas1 n s k M) 50 k))), ((mas1 n s k M), (mas4 n s w g k M W))) else ((Int64.toInt32 0), ((mas1 n s k M), (mas4 n s w g k M W))))))) else (0, ((mas1 n s k M), (mas2 n s w g k M W).2)))))
theorem e_X12_askOf (E : gE) {d : Nat} (hd : 6 ≤ d) {n s w g k : Nat} (h : hp_T) (hG : gr h) (M : mM) (N : mN) (I : refI M n s w g) (W : tW) (hk1 : 1 ≤ k) (hk2 : k ≤ n) (hk3 : M 47 k = 2) (hwl : ∀ c, c < 120 → ∃ k, k < 4 ∧ M 31 c = nI k) : ev E mX12_askOf d [.ref (E.1 + 247), .int (nI k)] (sP h M N W) (some (.int (masS n s w g k M W).1)) (sP h (masS n s w g k M W).2.1 N (masS n s w g k M W).2.2) := by
  refine ev_of rfl (fun q => absurd q (by decide)) (Nat.le_of_ble_eq_true rfl) ?_
  have hn2 := I.1.2.1
  have hle := mtO_le M s (M 48 k) n
  obtain ⟨cz, hcz, ecz⟩ := I.2.2.2.2 _ hk1 hk2 hk3
  have hn : w * g ≤ 120 := Nat.le_trans (Nat.mul_le_mul I.2.1.1.2.1 I.2.1.1.2.2.2) (by decide)
  have hc9 : M 49 k = nI (M 49 k).toNatClampNeg ∧ (M 49 k).toNatClampNeg < w * g := ax_ix ⟨cz, hcz, ecz⟩ hn
  refine gf_aload_n 0 dX12_askOf_0 rfl rfl ?_
  refine gf_aload_n 0 dX12_askOf_1 rfl rfl ?_
  refine gf_getR flX12_167 rfl dX12_askOf_2 (gt_247 hG) (gp_247_65 hG) ?_
  refine gf_iload_n 1 dX12_askOf_5 rfl rfl ?_
  refine gf_iald 201 dX12_askOf_6 (gt_296 hG) (gl_296 hG) rfl (by omega) (by decide) ?_
  refine gf_callV cmX12_lossOf lkX12_595 imX12_lossOf seX12_lossOf ⟨rfl, by decide⟩ dX12_askOf_7 (d1 := d - 1) (by omega) (gt_247 hG) (ev_aE (by rw [← hc9.1]) (e_X12_lossOf E (by omega) (w := w) (g := g) (c := (M 49 k).toNatClampNeg) h hG (up2 M 0 70 (nI W.1)) (uprL N 52 W.2) (show mcty (up2 M 0 70 (nI W.1)) w g from I.2.1) hc9.2 hwl)) rfl rfl (Nat.le_of_ble_eq_true rfl) ?_
  rw [show mloV (up2 M 0 70 (nI W.1)) (M 49 k).toNatClampNeg = mloV M (M 49 k).toNatClampNeg from rfl]
  change gf _ _ _ _ _ _ (sP h M N W) _ _
  refine gf_istore_n 2 dX12_askOf_10 rfl (Nat.le_of_ble_eq_true rfl) ?_
  refine gf_aload_n 0 dX12_askOf_11 rfl rfl ?_
  refine gf_aload_n 0 dX12_askOf_12 rfl rfl ?_
  refine gf_getR flX12_164 rfl dX12_askOf_13 (gt_247 hG) (gp_247_64 hG) ?_
  refine gf_iload_n 1 dX12_askOf_16 rfl rfl ?_
  refine gf_iald 201 dX12_askOf_17 (gt_295 hG) (gl_295 hG) rfl (by omega) (by decide) ?_
  refine gf_callV cmX12_termsOf lkX12_495 imX12_termsOf seX12_termsOf ⟨rfl, by decide⟩ dX12_askOf_18 (d1 := d - 1) (by omega) (gt_247 hG) (e_X12_termsOf E (by omega) (M 48 k) h hG (up2 M 0 70 (nI W.1)) (uprL N 52 W.2) (n := n) (s := s) (show macI (up2 M 0 70 (nI W.1)) n s from (show macI M n s from I.1))) rfl rfl (Nat.le_of_ble_eq_true rfl) ?_
  rw [show mtO (up2 M 0 70 (nI W.1)) s (M 48 k) n = mtO M s (M 48 k) n from rfl]
  change gf _ _ _ _ _ _ (sP h M N W) _ _
  refine gf_istore_n 3 dX12_askOf_21 rfl (Nat.le_of_ble_eq_true rfl) ?_
  refine gf_iload_n 2 dX12_askOf_22 rfl rfl ?_
  refine gf_if_eq 30 dX12_askOf_23 rfl (fun zc23 => ?_) (fun zc23 => ?_)
  · refine gf_iconst (0) dX12_askOf_30 rfl ?_
    exact gf_iretE dX12_askOf_31 rfl (by rw [show masS n s w g k M W = (0, (M, W)) from if_pos zc23]; first | done | rfl) (by rw [show masS n s w g k M W = (0, (M, W)) from if_pos zc23]; first | done | rfl)
  · refine gf_iload_n 3 dX12_askOf_26 rfl rfl ?_
    refine gf_if_ne 32 dX12_askOf_27 rfl (fun zc27 => ?_) (fun zc27 => ?_)
    · have ht0 : ¬ (mtO M s (M 48 k) n) = 0 := fun q => zc27 (by rw [q]; rfl)
      have hat := (mtO_at M s (M 48 k) n).resolve_left ht0
      obtain ⟨kt, hT⟩ := I.2.2.1 _ hat.1 hat.2.1 hat.2.2
      refine gf_lw (lv' := [(0, .ref (E.1 + 247)), (1, .int (nI k)), (2, .int (mloV M (M 49 k).toNatClampNeg)), (3, .int (nI (mtO M s (M 48 k) n)))]) ?_ ⟨rfl, rfl, rfl, rfl, trivial⟩
      refine gf_aload_n 0 dX12_askOf_32 rfl rfl ?_
      refine gf_aload_n 0 dX12_askOf_33 rfl rfl ?_
      refine gf_getR flX12_167 rfl dX12_askOf_34 (gt_247 hG) (gp_247_65 hG) ?_
      refine gf_iload_n 1 dX12_askOf_37 rfl rfl ?_
      refine gf_iald 201 dX12_askOf_38 (gt_296 hG) (gl_296 hG) rfl (by omega) (by decide) ?_
      refine gf_aload_n 0 dX12_askOf_39 rfl rfl ?_
      refine gf_getR flX12_170 rfl dX12_askOf_40 (gt_247 hG) (gp_247_66 hG) ?_
      refine gf_iload_n 1 dX12_askOf_43 rfl rfl ?_
      refine gf_iald 201 dX12_askOf_44 (gt_297 hG) (gl_297 hG) rfl (by omega) (by decide) ?_
      refine gf_aload_n 0 dX12_askOf_45 rfl rfl ?_
      refine gf_aload_n 0 dX12_askOf_46 rfl rfl ?_
      refine gf_getR flX12_167 rfl dX12_askOf_47 (gt_247 hG) (gp_247_65 hG) ?_
      refine gf_iload_n 1 dX12_askOf_50 rfl rfl ?_
      refine gf_iald 201 dX12_askOf_51 (gt_296 hG) (gl_296 hG) rfl (by omega) (by decide) ?_
      refine gf_callV cmX12_policiesOn lkX12_552 imX12_policiesOn seX12_policiesOn ⟨rfl, by decide⟩ dX12_askOf_52 (d1 := d - 1) (by omega) (gt_247 hG) (e_X12_policiesOn E (by omega) (M 49 k) h hG (up2 M 0 70 (nI W.1)) (uprL N 52 W.2) (n := n) (s := s) (show macI (up2 M 0 70 (nI W.1)) n s from (show macI M n s from I.1))) rfl rfl (Nat.le_of_ble_eq_true rfl) ?_
      rw [show fa_cnt (mpB (up2 M 0 70 (nI W.1)) s (M 49 k)) n = fa_cnt (mpB M s (M 49 k)) n from rfl]
      change gf _ _ _ _ _ _ (sP h M N W) _ _
      refine gf_iconst (1) dX12_askOf_55 rfl ?_
      refine gf_isub dX12_askOf_56 ?_
      refine gf_iload_n 2 dX12_askOf_57 rfl rfl ?_
      refine gf_callV cmX12_asksOf lkX12_555 imX12_asksOf seX12_asksOf ⟨rfl, by decide⟩ dX12_askOf_58 (d1 := d - 1) (by omega) (gt_247 hG) (e_X12_asksOf E (by omega) (M 49 k) (M 50 k) ((nI (fa_cnt (mpB M s (M 49 k)) n)) - 1) (mloV M (M 49 k).toNatClampNeg) h hG M N W) rfl rfl (Nat.le_of_ble_eq_true rfl) ?_
      change gf _ _ _ _ _ _ (sP h (mas1 n s k M) N W) _ _
      refine gf_aload_n 0 dX12_askOf_61 rfl rfl ?_
      refine gf_iload_n 3 dX12_askOf_62 rfl rfl ?_
      refine gf_iconst (1) dX12_askOf_63 rfl ?_
      refine gf_callV cmX12_holds lkX12_559 imX12_holds seX12_holds ⟨rfl, by decide⟩ dX12_askOf_64 (d1 := d - 1) (by omega) (gt_247 hG) (e_X12_holds E (by omega) 1 h hG (mas1 n s k M) N (n := n) (s := s) (w := w) (g := g) (cc := (M 49 k).toNatClampNeg) (a := (mtO M s (M 48 k) n)) (k := kt) (show macI (mas1 n s k M) n s from I.1) (show mcty (mas1 n s k M) w g from I.2.1) (show M 49 k = nI (M 49 k).toNatClampNeg from hc9.1) hc9.2 (show _ ≤ 200 by omega) (show mtI (mas1 n s k M) (mtO M s (M 48 k) n) kt from hT) (by decide) W) rfl rfl (Nat.le_of_ble_eq_true rfl) ?_
      change gf _ _ _ _ _ [.int (bI (mas2 n s w g k M W).1)] (sP h (mas1 n s k M) N (mas2 n s w g k M W).2) _ _
      refine gf_if_ne 79 dX12_askOf_67 rfl (fun zc67 => ?_) (fun zc67 => ?_)
      · refine gf_iconst (0) dX12_askOf_79 rfl ?_
        exact gf_iretE dX12_askOf_80 rfl (by rw [show masS n s w g k M W = (0, ((mas1 n s k M), (mas2 n s w g k M W).2)) from (if_neg zc23).trans ((if_neg zc27).trans (if_neg zc67))]; first | done | rfl) (by rw [show masS n s w g k M W = (0, ((mas1 n s k M), (mas2 n s w g k M W).2)) from (if_neg zc23).trans ((if_neg zc27).trans (if_neg zc67))]; first | done | rfl)
      · refine gf_aload_n 0 dX12_askOf_70 rfl rfl ?_
        refine gf_iload_n 3 dX12_askOf_71 rfl rfl ?_
        refine gf_iconst (0) dX12_askOf_72 rfl ?_
        refine gf_callV cmX12_holds lkX12_559 imX12_holds seX12_holds ⟨rfl, by decide⟩ dX12_askOf_73 (d1 := d - 1) (by omega) (gt_247 hG) (e_X12_holds E (by omega) 0 h hG (mas1 n s k M) N (n := n) (s := s) (w := w) (g := g) (cc := (M 49 k).toNatClampNeg) (a := (mtO M s (M 48 k) n)) (k := kt) (show macI (mas1 n s k M) n s from I.1) (show mcty (mas1 n s k M) w g from I.2.1) (show M 49 k = nI (M 49 k).toNatClampNeg from hc9.1) hc9.2 (show _ ≤ 200 by omega) (show mtI (mas1 n s k M) (mtO M s (M 48 k) n) kt from hT) (by decide) (mas2 n s w g k M W).2) rfl rfl (Nat.le_of_ble_eq_true rfl) ?_
        change gf _ _ _ _ _ [.int (bI (mas3 n s w g k M W).1)] (sP h (mas1 n s k M) N (mas3 n s w g k M W).2) _ _
        refine gf_if_ne 81 dX12_askOf_76 rfl (fun zc76 => ?_) (fun zc76 => ?_)
        · refine gf_aload_n 0 dX12_askOf_81 rfl rfl ?_
          refine gf_iload_n 3 dX12_askOf_82 rfl rfl ?_
          refine gf_iconst (3) dX12_askOf_83 rfl ?_
          refine gf_callV cmX12_lastOf lkX12_549 imX12_lastOf seX12_lastOf ⟨rfl, by decide⟩ dX12_askOf_84 (d1 := d - 1) (by omega) (gt_247 hG) (e_X12_lastOf E (by omega) 3 h hG (mas1 n s k M) N (a := (mtO M s (M 48 k) n)) (show _ ≤ 200 by omega) hT.2.1 hT.1 (mas3 n s w g k M W).2) rfl rfl (Nat.le_of_ble_eq_true rfl) ?_
          refine gf_istore dX12_askOf_87 (Nat.le_of_ble_eq_true rfl) ?_
          refine gf_lw (lv' := [(0, .ref (E.1 + 247)), (1, .int (nI k)), (2, .int (mloV M (M 49 k).toNatClampNeg)), (3, .int (nI (mtO M s (M 48 k) n))), (4, .int (laO (mas1 n s k M) (mtO M s (M 48 k) n) 3))]) ?_ ⟨rfl, rfl, rfl, rfl, rfl, trivial⟩
          refine gf_iload dX12_askOf_89 rfl ?_
          refine gf_iconst (-1) dX12_askOf_91 rfl ?_
          refine gf_icmp_ne 100 dX12_askOf_92 rfl (fun zc92 => ?_) (fun zc92 => ?_)
          · refine gf_aload_n 0 dX12_askOf_100 rfl rfl ?_
            refine gf_iload_n 3 dX12_askOf_101 rfl rfl ?_
            refine gf_iload dX12_askOf_102 rfl ?_
            refine gf_callV cmX12_tells lkX12_545 imX12_tells seX12_tells ⟨rfl, by decide⟩ dX12_askOf_104 (d1 := d - 1) (by omega) (gt_247 hG) (e_telR E (by omega) h hG (mas1 n s k M) N (n := n) (s := s) (w := w) (g := g) (cc := (M 49 k).toNatClampNeg) (show macI (mas1 n s k M) n s from I.1) (show mcty (mas1 n s k M) w g from I.2.1) (show M 49 k = nI (M 49 k).toNatClampNeg from hc9.1) hc9.2 (a := (mtO M s (M 48 k) n)) (k := kt) (show _ ≤ 200 by omega) (show mtI (mas1 n s k M) (mtO M s (M 48 k) n) kt from hT) (kind := 3) (by decide) rfl zc92 (mas3 n s w g k M W).2) rfl rfl (Nat.le_of_ble_eq_true rfl) ?_
            change gf _ _ _ _ _ [.long ((mas4 n s w g k M W).2 0)] (sP h (mas1 n s k M) N (mas4 n s w g k M W)) _ _
            refine gf_lstore dX12_askOf_107 (Nat.le_of_ble_eq_true rfl) ?_
            refine gf_lw (lv' := [(0, .ref (E.1 + 247)), (1, .int (nI k)), (2, .int (mloV M (M 49 k).toNatClampNeg)), (3, .int (nI (mtO M s (M 48 k) n))), (4, .int (laO (mas1 n s k M) (mtO M s (M 48 k) n) 3)), (5, .long ((mas4 n s w g k M W).2 0))]) ?_ ⟨rfl, rfl, rfl, rfl, rfl, rfl, trivial⟩
            refine gf_lload dX12_askOf_109 rfl ?_
            refine gf_lconst (0) dX12_askOf_111 rfl ?_
            refine gf_lcmp dX12_askOf_112 ?_
            refine gf_if_ge 120 dX12_askOf_113 rfl (fun zc113 => ?_) (fun zc113 => ?_)
            · refine gf_lload dX12_askOf_120 rfl ?_
              refine gf_lstore dX12_askOf_122 (Nat.le_of_ble_eq_true rfl) ?_
              refine gf_lw (lv' := [(0, .ref (E.1 + 247)), (1, .int (nI k)), (2, .int (mloV M (M 49 k).toNatClampNeg)), (3, .int (nI (mtO M s (M 48 k) n))), (4, .int (laO (mas1 n s k M) (mtO M s (M 48 k) n) 3)), (5, .long ((mas4 n s w g k M W).2 0))]) ?_ ⟨rfl, rfl, rfl, rfl, rfl, rfl, trivial⟩
              refine gf_lload dX12_askOf_124 rfl ?_
              refine gf_aload_n 0 dX12_askOf_126 rfl rfl ?_
              refine gf_getR flX12_170 rfl dX12_askOf_127 (gt_247 hG) (gp_247_66 hG) ?_
              refine gf_iload_n 1 dX12_askOf_130 rfl rfl ?_
              refine gf_iald 201 dX12_askOf_131 (gt_297 hG) (gl_297 hG) rfl (by omega) (by decide) ?_
              refine gf_i2l dX12_askOf_132 ?_
              refine gf_lcmp dX12_askOf_133 ?_
              refine gf_if_ge 142 dX12_askOf_134 rfl (fun zc134 => ?_) (fun zc134 => ?_)
              · refine gf_aload_n 0 dX12_askOf_142 rfl rfl ?_
                refine gf_getR flX12_170 rfl dX12_askOf_143 (gt_247 hG) (gp_247_66 hG) ?_
                refine gf_iload_n 1 dX12_askOf_146 rfl rfl ?_
                refine gf_iald 201 dX12_askOf_147 (gt_297 hG) (gl_297 hG) rfl (by omega) (by decide) ?_
                refine gf_i2l dX12_askOf_148 ?_
                refine gf_l2i dX12_askOf_149 ?_
                exact gf_iretE dX12_askOf_150 rfl (by rw [show masS n s w g k M W = ((Int64.toInt32 (Int32.toInt64 ((mas1 n s k M) 50 k))), ((mas1 n s k M), (mas4 n s w g k M W))) from (if_neg zc23).trans ((if_neg zc27).trans ((if_pos zc67).trans ((if_neg zc76).trans ((if_neg zc92).trans ((if_pos zc113).trans (if_pos zc134))))))]; first | done | rfl) (by rw [show masS n s w g k M W = ((Int64.toInt32 (Int32.toInt64 ((mas1 n s k M) 50 k))), ((mas1 n s k M), (mas4 n s w g k M W))) from (if_neg zc23).trans ((if_neg zc27).trans ((if_pos zc67).trans ((if_neg zc76).trans ((if_neg zc92).trans ((if_pos zc113).trans (if_pos zc134))))))]; first | done | rfl)
              · refine gf_lload dX12_askOf_137 rfl ?_
                refine gf_goto 149 dX12_askOf_139 rfl ?_
                refine gf_l2i dX12_askOf_149 ?_
                exact gf_iretE dX12_askOf_150 rfl (by rw [show masS n s w g k M W = ((Int64.toInt32 ((mas4 n s w g k M W).2 0)), ((mas1 n s k M), (mas4 n s w g k M W))) from (if_neg zc23).trans ((if_neg zc27).trans ((if_pos zc67).trans ((if_neg zc76).trans ((if_neg zc92).trans ((if_pos zc113).trans (if_neg zc134))))))]; first | done | rfl) (by rw [show masS n s w g k M W = ((Int64.toInt32 ((mas4 n s w g k M W).2 0)), ((mas1 n s k M), (mas4 n s w g k M W))) from (if_neg zc23).trans ((if_neg zc27).trans ((if_pos zc67).trans ((if_neg zc76).trans ((if_neg zc92).trans ((if_pos zc113).trans (if_neg zc134))))))]; first | done | rfl)
            · refine gf_lconst (0) dX12_askOf_116 rfl ?_
              refine gf_goto 122 dX12_askOf_117 rfl ?_
              refine gf_lstore dX12_askOf_122 (Nat.le_of_ble_eq_true rfl) ?_
              refine gf_lw (lv' := [(0, .ref (E.1 + 247)), (1, .int (nI k)), (2, .int (mloV M (M 49 k).toNatClampNeg)), (3, .int (nI (mtO M s (M 48 k) n))), (4, .int (laO (mas1 n s k M) (mtO M s (M 48 k) n) 3)), (5, .long 0)]) ?_ ⟨rfl, rfl, rfl, rfl, rfl, rfl, trivial⟩
              refine gf_lload dX12_askOf_124 rfl ?_
              refine gf_aload_n 0 dX12_askOf_126 rfl rfl ?_
              refine gf_getR flX12_170 rfl dX12_askOf_127 (gt_247 hG) (gp_247_66 hG) ?_
              refine gf_iload_n 1 dX12_askOf_130 rfl rfl ?_
              refine gf_iald 201 dX12_askOf_131 (gt_297 hG) (gl_297 hG) rfl (by omega) (by decide) ?_
              refine gf_i2l dX12_askOf_132 ?_
              refine gf_lcmp dX12_askOf_133 ?_
              refine gf_if_ge 142 dX12_askOf_134 rfl (fun zc134 => ?_) (fun zc134 => ?_)
              · refine gf_aload_n 0 dX12_askOf_142 rfl rfl ?_
                refine gf_getR flX12_170 rfl dX12_askOf_143 (gt_247 hG) (gp_247_66 hG) ?_
                refine gf_iload_n 1 dX12_askOf_146 rfl rfl ?_
                refine gf_iald 201 dX12_askOf_147 (gt_297 hG) (gl_297 hG) rfl (by omega) (by decide) ?_
                refine gf_i2l dX12_askOf_148 ?_
                refine gf_l2i dX12_askOf_149 ?_
                exact gf_iretE dX12_askOf_150 rfl (by rw [show masS n s w g k M W = ((Int64.toInt32 (Int32.toInt64 ((mas1 n s k M) 50 k))), ((mas1 n s k M), (mas4 n s w g k M W))) from (if_neg zc23).trans ((if_neg zc27).trans ((if_pos zc67).trans ((if_neg zc76).trans ((if_neg zc92).trans ((if_neg zc113).trans (if_pos zc134))))))]; first | done | rfl) (by rw [show masS n s w g k M W = ((Int64.toInt32 (Int32.toInt64 ((mas1 n s k M) 50 k))), ((mas1 n s k M), (mas4 n s w g k M W))) from (if_neg zc23).trans ((if_neg zc27).trans ((if_pos zc67).trans ((if_neg zc76).trans ((if_neg zc92).trans ((if_neg zc113).trans (if_pos zc134))))))]; first | done | rfl)
              · refine gf_lload dX12_askOf_137 rfl ?_
                refine gf_goto 149 dX12_askOf_139 rfl ?_
                refine gf_l2i dX12_askOf_149 ?_
                exact gf_iretE dX12_askOf_150 rfl (by rw [show masS n s w g k M W = ((Int64.toInt32 0), ((mas1 n s k M), (mas4 n s w g k M W))) from (if_neg zc23).trans ((if_neg zc27).trans ((if_pos zc67).trans ((if_neg zc76).trans ((if_neg zc92).trans ((if_neg zc113).trans (if_neg zc134))))))]; first | done | rfl) (by rw [show masS n s w g k M W = ((Int64.toInt32 0), ((mas1 n s k M), (mas4 n s w g k M W))) from (if_neg zc23).trans ((if_neg zc27).trans ((if_pos zc67).trans ((if_neg zc76).trans ((if_neg zc92).trans ((if_neg zc113).trans (if_neg zc134))))))]; first | done | rfl)
          · refine gf_iload_n 2 dX12_askOf_95 rfl rfl ?_
            refine gf_i2l dX12_askOf_96 ?_
            refine gf_goto 107 dX12_askOf_97 rfl ?_
            refine gf_lstore dX12_askOf_107 (Nat.le_of_ble_eq_true rfl) ?_
            refine gf_lw (lv' := [(0, .ref (E.1 + 247)), (1, .int (nI k)), (2, .int (mloV M (M 49 k).toNatClampNeg)), (3, .int (nI (mtO M s (M 48 k) n))), (4, .int (laO (mas1 n s k M) (mtO M s (M 48 k) n) 3)), (5, .long (Int32.toInt64 (mloV M (M 49 k).toNatClampNeg)))]) ?_ ⟨rfl, rfl, rfl, rfl, rfl, rfl, trivial⟩
            refine gf_lload dX12_askOf_109 rfl ?_
            refine gf_lconst (0) dX12_askOf_111 rfl ?_
            refine gf_lcmp dX12_askOf_112 ?_
            refine gf_if_ge 120 dX12_askOf_113 rfl (fun zc113 => ?_) (fun zc113 => ?_)
            · refine gf_lload dX12_askOf_120 rfl ?_
              refine gf_lstore dX12_askOf_122 (Nat.le_of_ble_eq_true rfl) ?_
              refine gf_lw (lv' := [(0, .ref (E.1 + 247)), (1, .int (nI k)), (2, .int (mloV M (M 49 k).toNatClampNeg)), (3, .int (nI (mtO M s (M 48 k) n))), (4, .int (laO (mas1 n s k M) (mtO M s (M 48 k) n) 3)), (5, .long (Int32.toInt64 (mloV M (M 49 k).toNatClampNeg)))]) ?_ ⟨rfl, rfl, rfl, rfl, rfl, rfl, trivial⟩
              refine gf_lload dX12_askOf_124 rfl ?_
              refine gf_aload_n 0 dX12_askOf_126 rfl rfl ?_
              refine gf_getR flX12_170 rfl dX12_askOf_127 (gt_247 hG) (gp_247_66 hG) ?_
              refine gf_iload_n 1 dX12_askOf_130 rfl rfl ?_
              refine gf_iald 201 dX12_askOf_131 (gt_297 hG) (gl_297 hG) rfl (by omega) (by decide) ?_
              refine gf_i2l dX12_askOf_132 ?_
              refine gf_lcmp dX12_askOf_133 ?_
              refine gf_if_ge 142 dX12_askOf_134 rfl (fun zc134 => ?_) (fun zc134 => ?_)
              · refine gf_aload_n 0 dX12_askOf_142 rfl rfl ?_
                refine gf_getR flX12_170 rfl dX12_askOf_143 (gt_247 hG) (gp_247_66 hG) ?_
                refine gf_iload_n 1 dX12_askOf_146 rfl rfl ?_
                refine gf_iald 201 dX12_askOf_147 (gt_297 hG) (gl_297 hG) rfl (by omega) (by decide) ?_
                refine gf_i2l dX12_askOf_148 ?_
                refine gf_l2i dX12_askOf_149 ?_
                exact gf_iretE dX12_askOf_150 rfl (by rw [show masS n s w g k M W = ((Int64.toInt32 (Int32.toInt64 ((mas1 n s k M) 50 k))), ((mas1 n s k M), (mas3 n s w g k M W).2)) from (if_neg zc23).trans ((if_neg zc27).trans ((if_pos zc67).trans ((if_neg zc76).trans ((if_pos zc92).trans ((if_pos zc113).trans (if_pos zc134))))))]; first | done | rfl) (by rw [show masS n s w g k M W = ((Int64.toInt32 (Int32.toInt64 ((mas1 n s k M) 50 k))), ((mas1 n s k M), (mas3 n s w g k M W).2)) from (if_neg zc23).trans ((if_neg zc27).trans ((if_pos zc67).trans ((if_neg zc76).trans ((if_pos zc92).trans ((if_pos zc113).trans (if_pos zc134))))))]; first | done | rfl)
              · refine gf_lload dX12_askOf_137 rfl ?_
                refine gf_goto 149 dX12_askOf_139 rfl ?_
                refine gf_l2i dX12_askOf_149 ?_
                exact gf_iretE dX12_askOf_150 rfl (by rw [show masS n s w g k M W = ((Int64.toInt32 (Int32.toInt64 (mloV M (M 49 k).toNatClampNeg))), ((mas1 n s k M), (mas3 n s w g k M W).2)) from (if_neg zc23).trans ((if_neg zc27).trans ((if_pos zc67).trans ((if_neg zc76).trans ((if_pos zc92).trans ((if_pos zc113).trans (if_neg zc134))))))]; first | done | rfl) (by rw [show masS n s w g k M W = ((Int64.toInt32 (Int32.toInt64 (mloV M (M 49 k).toNatClampNeg))), ((mas1 n s k M), (mas3 n s w g k M W).2)) from (if_neg zc23).trans ((if_neg zc27).trans ((if_pos zc67).trans ((if_neg zc76).trans ((if_pos zc92).trans ((if_pos zc113).trans (if_neg zc134))))))]; first | done | rfl)
            · refine gf_lconst (0) dX12_askOf_116 rfl ?_
              refine gf_goto 122 dX12_askOf_117 rfl ?_
              refine gf_lstore dX12_askOf_122 (Nat.le_of_ble_eq_true rfl) ?_
              refine gf_lw (lv' := [(0, .ref (E.1 + 247)), (1, .int (nI k)), (2, .int (mloV M (M 49 k).toNatClampNeg)), (3, .int (nI (mtO M s (M 48 k) n))), (4, .int (laO (mas1 n s k M) (mtO M s (M 48 k) n) 3)), (5, .long 0)]) ?_ ⟨rfl, rfl, rfl, rfl, rfl, rfl, trivial⟩
              refine gf_lload dX12_askOf_124 rfl ?_
              refine gf_aload_n 0 dX12_askOf_126 rfl rfl ?_
              refine gf_getR flX12_170 rfl dX12_askOf_127 (gt_247 hG) (gp_247_66 hG) ?_
              refine gf_iload_n 1 dX12_askOf_130 rfl rfl ?_
              refine gf_iald 201 dX12_askOf_131 (gt_297 hG) (gl_297 hG) rfl (by omega) (by decide) ?_
              refine gf_i2l dX12_askOf_132 ?_
              refine gf_lcmp dX12_askOf_133 ?_
              refine gf_if_ge 142 dX12_askOf_134 rfl (fun zc134 => ?_) (fun zc134 => ?_)
              · refine gf_aload_n 0 dX12_askOf_142 rfl rfl ?_
                refine gf_getR flX12_170 rfl dX12_askOf_143 (gt_247 hG) (gp_247_66 hG) ?_
                refine gf_iload_n 1 dX12_askOf_146 rfl rfl ?_
                refine gf_iald 201 dX12_askOf_147 (gt_297 hG) (gl_297 hG) rfl (by omega) (by decide) ?_
                refine gf_i2l dX12_askOf_148 ?_
                refine gf_l2i dX12_askOf_149 ?_
                exact gf_iretE dX12_askOf_150 rfl (by rw [show masS n s w g k M W = ((Int64.toInt32 (Int32.toInt64 ((mas1 n s k M) 50 k))), ((mas1 n s k M), (mas3 n s w g k M W).2)) from (if_neg zc23).trans ((if_neg zc27).trans ((if_pos zc67).trans ((if_neg zc76).trans ((if_pos zc92).trans ((if_neg zc113).trans (if_pos zc134))))))]; first | done | rfl) (by rw [show masS n s w g k M W = ((Int64.toInt32 (Int32.toInt64 ((mas1 n s k M) 50 k))), ((mas1 n s k M), (mas3 n s w g k M W).2)) from (if_neg zc23).trans ((if_neg zc27).trans ((if_pos zc67).trans ((if_neg zc76).trans ((if_pos zc92).trans ((if_neg zc113).trans (if_pos zc134))))))]; first | done | rfl)
              · refine gf_lload dX12_askOf_137 rfl ?_
                refine gf_goto 149 dX12_askOf_139 rfl ?_
                refine gf_l2i dX12_askOf_149 ?_
                exact gf_iretE dX12_askOf_150 rfl (by rw [show masS n s w g k M W = ((Int64.toInt32 0), ((mas1 n s k M), (mas3 n s w g k M W).2)) from (if_neg zc23).trans ((if_neg zc27).trans ((if_pos zc67).trans ((if_neg zc76).trans ((if_pos zc92).trans ((if_neg zc113).trans (if_neg zc134))))))]; first | done | rfl) (by rw [show masS n s w g k M W = ((Int64.toInt32 0), ((mas1 n s k M), (mas3 n s w g k M W).2)) from (if_neg zc23).trans ((if_neg zc27).trans ((if_pos zc67).trans ((if_neg zc76).trans ((if_pos zc92).trans ((if_neg zc113).trans (if_neg zc134))))))]; first | done | rfl)
        · refine gf_iconst (0) dX12_askOf_79 rfl ?_
          exact gf_iretE dX12_askOf_80 rfl (by rw [show masS n s w g k M W = (0, ((mas1 n s k M), (mas3 n s w g k M W).2)) from (if_neg zc23).trans ((if_neg zc27).trans ((if_pos zc67).trans (if_pos zc76)))]; first | done | rfl) (by rw [show masS n s w g k M W = (0, ((mas1 n s k M), (mas3 n s w g k M W).2)) from (if_neg zc23).trans ((if_neg zc27).trans ((if_pos zc67).trans (if_pos zc76)))]; first | done | rfl)
    · refine gf_iconst (0) dX12_askOf_30 rfl ?_
      exact gf_iretE dX12_askOf_31 rfl (by rw [show masS n s w g k M W = (0, (M, W)) from (if_neg zc23).trans (if_pos zc27)]; first | done | rfl) (by rw [show masS n s w g k M W = (0, (M, W)) from (if_neg zc23).trans (if_pos zc27)]; first | done | rfl)
