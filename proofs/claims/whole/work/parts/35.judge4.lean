/-! ===== the class: askBy, goTo, takePolicy, helpersAt, findHelpers ===== -/
def askC (S : kS) (x : Int32) : Int32 := max0 (if x < S.1 7 3 then x else S.1 7 3)
def askS (h : hp_T) (S : kS) (t : Option Nat) : Int32 × (Nat → Int32) := match t with
  | none => (0, S.1 8)
  | some b => if S.1 7 4 = 0 then (0, S.1 8)
    else if (someS h S (some b) 15).1 = true then (0, (someS h S (some b) 15).2)
    else if ¬ (someS h (kR S (someS h S (some b) 15).2) (some b) 14).1 = true then (0, (someS h (kR S (someS h S (some b) 15).2) (some b) 14).2)
    else if hp_i h b 4 = -1 then (askC S (S.1 7 4), (someS h (kR S (someS h S (some b) 15).2) (some b) 14).2)
    else (askC S (vofV (stm (kR S (someS h (kR S (someS h S (some b) 15).2) (some b) 14).2) (tcd h b) (tfr h b) (hp_i h b 4).toNatClampNeg)), (stm (kR S (someS h (kR S (someS h S (some b) 15).2) (some b) 14).2) (tcd h b) (tfr h b) (hp_i h b 4).toNatClampNeg).2)
theorem e_X6_askBy (E : gE) {d : Nat} (hd : 4 ≤ d) (h : hp_T) (hG : gr h) (S : kS) (t : Option Nat) (hT : ∀ b, t = some b → tOK h b) : ev E mX6_askBy d [.ref (E.1 + 171), tref E t] (hk h S) (some (.int (askS h S t).1)) (hk h (kR S (askS h S t).2)) := by
  cases t with
  | none =>
    show ev E mX6_askBy d [.ref (E.1 + 171), .null] _ _ _
    refine ev_of rfl (fun q => absurd q (by decide)) (Nat.le_of_ble_eq_true rfl) ?_
    refine gf_aload_nN 1 dX6_askBy_0 rfl rfl ?_
    refine gf_ifnull_yes 33 dX6_askBy_1 rfl ?_
    refine gf_iconst (0) dX6_askBy_33 rfl ?_
    exact gf_iretE dX6_askBy_34 rfl (rfl) (by show _ = hk h (kR S (S.1 8)); rw [kR_id])
  | some b =>
    obtain ⟨L, T⟩ := hT b rfl
    have T0 := T
    obtain ⟨hTb, hn0, hn24, hL6, hb3, ca, ka, fa, hge, hr, hca, hka, hfa, hfr, hcd, hpa, hpr⟩ := T
    have hb4 : ∀ Z : kS, hp_i (hk h Z) b 4 = hp_i h b 4 := fun Z => by rw [hk_hi h Z hb3]
    show ev E mX6_askBy d [.ref (E.1 + 171), .ref (E.1 + b)] _ _ _
    refine ev_of rfl (fun q => absurd q (by decide)) (Nat.le_of_ble_eq_true rfl) ?_
    refine gf_aload_n 1 dX6_askBy_0 rfl rfl ?_
    refine gf_ifnull_no dX6_askBy_1 ?_
    refine gf_aload_n 0 dX6_askBy_4 rfl rfl ?_
    refine gf_getR flX6_9 rfl dX6_askBy_5 (gt_171 (gr_k _ hG)) (gp_171_2 (gr_k _ hG)) ?_
    refine gf_iconst (4) dX6_askBy_8 rfl ?_
    refine gf_iald 7 dX6_askBy_9 (gt_172 (gr_k _ hG)) (gl_172 (gr_k _ hG)) (rfl : (4 : Int32) = nI 4) (by decide) (by decide) ?_
    refine gf_if_eq 33 dX6_askBy_10 rfl (fun zc10 => ?_) (fun zc10 => ?_)
    · refine gf_iconst (0) dX6_askBy_33 rfl ?_
      exact gf_iretE dX6_askBy_34 rfl (by have eA : askS h S (some b) = (0, S.1 8) := (if_pos zc10 : askS h S (some b) = _); rw [eA]) (by have eA : askS h S (some b) = (0, S.1 8) := (if_pos zc10 : askS h S (some b) = _); rw [eA, kR_id])
    · refine gf_aload_n 0 dX6_askBy_13 rfl rfl ?_
      refine gf_aload_n 1 dX6_askBy_14 rfl rfl ?_
      refine gf_bipush (15) dX6_askBy_15 rfl ?_
      refine gf_callV cmX6_some lkX6_78 imX6_some seX6_some ⟨rfl, by decide⟩ dX6_askBy_17 (d1 := d - 1) (by omega) (gt_171 (gr_k _ hG)) (e_X6_some E (by omega) 15 h hG S (some b) (fun b hb => hT b hb)) rfl rfl (Nat.le_of_ble_eq_true rfl) ?_
      refine gf_if_ne 33 dX6_askBy_20 rfl (fun zc20 => ?_) (fun zc20 => ?_)
      · refine gf_iconst (0) dX6_askBy_33 rfl ?_
        exact gf_iretE dX6_askBy_34 rfl (by have eA : askS h S (some b) = (0, (someS h S (some b) 15).2) := ((if_neg zc10).trans (if_pos (zb_1.mp zc20)) : askS h S (some b) = _); rw [eA]) (by have eA : askS h S (some b) = (0, (someS h S (some b) 15).2) := ((if_neg zc10).trans (if_pos (zb_1.mp zc20)) : askS h S (some b) = _); rw [eA])
      · refine gf_aload_n 0 dX6_askBy_23 rfl rfl ?_
        refine gf_aload_n 1 dX6_askBy_24 rfl rfl ?_
        refine gf_bipush (14) dX6_askBy_25 rfl ?_
        refine gf_callV cmX6_some lkX6_78 imX6_some seX6_some ⟨rfl, by decide⟩ dX6_askBy_27 (d1 := d - 1) (by omega) (gt_171 (gr_k _ hG)) (e_X6_some E (by omega) 14 h hG (kR S (someS h S (some b) 15).2) (some b) (fun b hb => hT b hb)) rfl rfl (Nat.le_of_ble_eq_true rfl) ?_
        rw [kR_R]
        refine gf_if_ne 35 dX6_askBy_30 rfl (fun zc30 => ?_) (fun zc30 => ?_)
        · refine gf_aload_n 1 dX6_askBy_35 rfl rfl ?_
          refine gf_getI flX6_97 rfl dX6_askBy_36 hTb ?_
          rw [hb4]
          refine gf_iconst (-1) dX6_askBy_39 rfl ?_
          refine gf_icmp_ne 52 dX6_askBy_40 rfl (fun zc40 => ?_) (fun zc40 => ?_)
          · have hv5 : ∃ j, j < tn h b ∧ hp_i h b 4 = nI j := hpa.resolve_left zc40
            obtain ⟨j5, hj5, hj⟩ := hv5
            have eA : askS h S (some b) = (askC S (vofV (stm (kR S (someS h (kR S (someS h S (some b) 15).2) (some b) 14).2) (tcd h b) (tfr h b) j5)), (stm (kR S (someS h (kR S (someS h S (some b) 15).2) (some b) 14).2) (tcd h b) (tfr h b) j5).2) := by
              refine (((if_neg zc10).trans ((if_neg (zb_0.mp zc20)).trans ((if_neg (not_not_intro (zb_1.mp zc30))).trans (if_neg zc40))) : askS h S (some b) = _)).trans ?_
              rw [hj, nI_clamp (by omega)]
            refine gf_aload_n 0 dX6_askBy_52 rfl rfl ?_
            refine gf_aload_n 1 dX6_askBy_53 rfl rfl ?_
            refine gf_aload_n 1 dX6_askBy_54 rfl rfl ?_
            refine gf_getI flX6_97 rfl dX6_askBy_55 hTb ?_
            rw [hb4, hj]
            refine gf_callV cmX6_valueOf lkX6_87 imX6_valueOf seX6_valueOf ⟨rfl, by decide⟩ dX6_askBy_58 (d1 := d - 1) (by omega) (gt_171 (gr_k _ hG)) (e_X6_valueOf E (by omega) (i := j5) h hG (kR S (someS h (kR S (someS h S (some b) 15).2) (some b) 14).2) T0 hj5) rfl rfl (Nat.le_of_ble_eq_true rfl) ?_
            rw [kW_R, kR_R]
            refine gf_istore_n 2 dX6_askBy_61 rfl (Nat.le_of_ble_eq_true rfl) ?_
            refine gf_iconst (0) dX6_askBy_62 rfl ?_
            refine gf_aload_n 0 dX6_askBy_63 rfl rfl ?_
            refine gf_getR flX6_9 rfl dX6_askBy_64 (gt_171 (gr_k _ hG)) (gp_171_2 (gr_k _ hG)) ?_
            refine gf_iconst (3) dX6_askBy_67 rfl ?_
            refine gf_iald 7 dX6_askBy_68 (gt_172 (gr_k _ hG)) (gl_172 (gr_k _ hG)) (rfl : (3 : Int32) = nI 3) (by decide) (by decide) ?_
            refine gf_iload_n 2 dX6_askBy_69 rfl rfl ?_
            refine gf_min lkX6_100 kMmin.1 kMmin.2.1 kMmin.2.2 dX6_askBy_70 (by omega) (Nat.le_of_ble_eq_true rfl) ?_
            refine gf_max lkX6_91 kMmax.1 kMmax.2.1 kMmax.2.2 dX6_askBy_73 (by omega) (Nat.le_of_ble_eq_true rfl) ?_
            exact gf_iretE dX6_askBy_76 rfl (by rw [eA]; rfl) (by rw [eA])
          · refine gf_aload_n 0 dX6_askBy_43 rfl rfl ?_
            refine gf_getR flX6_9 rfl dX6_askBy_44 (gt_171 (gr_k _ hG)) (gp_171_2 (gr_k _ hG)) ?_
            refine gf_iconst (4) dX6_askBy_47 rfl ?_
            refine gf_iald 7 dX6_askBy_48 (gt_172 (gr_k _ hG)) (gl_172 (gr_k _ hG)) (rfl : (4 : Int32) = nI 4) (by decide) (by decide) ?_
            refine gf_goto 61 dX6_askBy_49 rfl ?_
            refine gf_istore_n 2 dX6_askBy_61 rfl (Nat.le_of_ble_eq_true rfl) ?_
            refine gf_iconst (0) dX6_askBy_62 rfl ?_
            refine gf_aload_n 0 dX6_askBy_63 rfl rfl ?_
            refine gf_getR flX6_9 rfl dX6_askBy_64 (gt_171 (gr_k _ hG)) (gp_171_2 (gr_k _ hG)) ?_
            refine gf_iconst (3) dX6_askBy_67 rfl ?_
            refine gf_iald 7 dX6_askBy_68 (gt_172 (gr_k _ hG)) (gl_172 (gr_k _ hG)) (rfl : (3 : Int32) = nI 3) (by decide) (by decide) ?_
            refine gf_iload_n 2 dX6_askBy_69 rfl rfl ?_
            refine gf_min lkX6_100 kMmin.1 kMmin.2.1 kMmin.2.2 dX6_askBy_70 (by omega) (Nat.le_of_ble_eq_true rfl) ?_
            refine gf_max lkX6_91 kMmax.1 kMmax.2.1 kMmax.2.2 dX6_askBy_73 (by omega) (Nat.le_of_ble_eq_true rfl) ?_
            exact gf_iretE dX6_askBy_76 rfl (by have eA : askS h S (some b) = (askC S (S.1 7 4), (someS h (kR S (someS h S (some b) 15).2) (some b) 14).2) := ((if_neg zc10).trans ((if_neg (zb_0.mp zc20)).trans ((if_neg (not_not_intro (zb_1.mp zc30))).trans (if_pos zc40))) : askS h S (some b) = _); rw [eA]; rfl) (by have eA : askS h S (some b) = (askC S (S.1 7 4), (someS h (kR S (someS h S (some b) 15).2) (some b) 14).2) := ((if_neg zc10).trans ((if_neg (zb_0.mp zc20)).trans ((if_neg (not_not_intro (zb_1.mp zc30))).trans (if_pos zc40))) : askS h S (some b) = _); rw [eA])
        · refine gf_iconst (0) dX6_askBy_33 rfl ?_
          exact gf_iretE dX6_askBy_34 rfl (by have eA : askS h S (some b) = (0, (someS h (kR S (someS h S (some b) 15).2) (some b) 14).2) := ((if_neg zc10).trans ((if_neg (zb_0.mp zc20)).trans (if_pos (zb_0.mp zc30))) : askS h S (some b) = _); rw [eA]) (by have eA : askS h S (some b) = (0, (someS h (kR S (someS h S (some b) 15).2) (some b) 14).2) := ((if_neg zc10).trans ((if_neg (zb_0.mp zc20)).trans (if_pos (zb_0.mp zc30))) : askS h S (some b) = _); rw [eA])
def goS (F : Nat → Nat → Int32) (nr : Int32) (S : kS) (c : Nat) : kS := (up2 (up2 (up2 (up2 (up2 S.1 7 0 (F 3 c)) 7 1 (F 4 c)) 7 2 (F 5 c)) 7 6 nr) 6 4 (S.1 3 c), S.2)
def takS (S : kS) (a b c : Int32) : kS := (up2 (up2 (up2 S.1 7 3 a) 7 5 b) 7 4 c, S.2)
theorem e_X6_goTo (E : gE) {d : Nat} (hd : 1 ≤ d) {w g c : Nat} (h : hp_T) (hG : gr h) (C : cty (hp_i h) w g) (S : kS) (hc : c < w * g) : ev E mX6_goTo d [.ref (E.1 + 171), .int (nI c)] (hk h S) (none) (hk h (goS (hp_i h) (nI (fa_cnt (hsN (hp_i h 2) w g c) 8)) S c)) := by
  have hn := cty_n C
  refine ev_of rfl (fun q => absurd q (by decide)) (Nat.le_of_ble_eq_true rfl) ?_
  refine gf_aload_n 0 dX6_goTo_0 rfl rfl ?_
  refine gf_getR flX6_9 rfl dX6_goTo_1 (gt_171 (gr_k _ hG)) (gp_171_2 (gr_k _ hG)) ?_
  refine gf_iconst (0) dX6_goTo_4 rfl ?_
  refine gf_aload_n 0 dX6_goTo_5 rfl rfl ?_
  refine gf_getR flX6_18 rfl dX6_goTo_6 (gt_171 (gr_k _ hG)) (gp_171_0 (gr_k _ hG)) ?_
  refine gf_getR flX6_26 rfl dX6_goTo_9 (gt_1 (gr_k _ hG)) (gp_1_4 (gr_k _ hG)) ?_
  refine gf_iload_n 1 dX6_goTo_12 rfl rfl ?_
  refine gf_iald 120 dX6_goTo_13 (gt_3 (gr_k _ hG)) (gl_3 (gr_k _ hG)) rfl (by omega) (by decide) ?_
  refine gf_iast 7 dX6_goTo_14 (gt_172 (gr_k _ hG)) (gl_172 (gr_k _ hG)) (rfl : (0 : Int32) = nI 0) (by decide) (by decide) ?_
  rw [hk_7]
  refine gf_aload_n 0 dX6_goTo_15 rfl rfl ?_
  refine gf_getR flX6_9 rfl dX6_goTo_16 (gt_171 (gr_k _ hG)) (gp_171_2 (gr_k _ hG)) ?_
  refine gf_iconst (1) dX6_goTo_19 rfl ?_
  refine gf_aload_n 0 dX6_goTo_20 rfl rfl ?_
  refine gf_getR flX6_18 rfl dX6_goTo_21 (gt_171 (gr_k _ hG)) (gp_171_0 (gr_k _ hG)) ?_
  refine gf_getR flX6_31 rfl dX6_goTo_24 (gt_1 (gr_k _ hG)) (gp_1_5 (gr_k _ hG)) ?_
  refine gf_iload_n 1 dX6_goTo_27 rfl rfl ?_
  refine gf_iald 120 dX6_goTo_28 (gt_4 (gr_k _ hG)) (gl_4 (gr_k _ hG)) rfl (by omega) (by decide) ?_
  refine gf_iast 7 dX6_goTo_29 (gt_172 (gr_k _ hG)) (gl_172 (gr_k _ hG)) (rfl : (1 : Int32) = nI 1) (by decide) (by decide) ?_
  rw [hk_7]
  refine gf_aload_n 0 dX6_goTo_30 rfl rfl ?_
  refine gf_getR flX6_9 rfl dX6_goTo_31 (gt_171 (gr_k _ hG)) (gp_171_2 (gr_k _ hG)) ?_
  refine gf_iconst (2) dX6_goTo_34 rfl ?_
  refine gf_aload_n 0 dX6_goTo_35 rfl rfl ?_
  refine gf_getR flX6_18 rfl dX6_goTo_36 (gt_171 (gr_k _ hG)) (gp_171_0 (gr_k _ hG)) ?_
  refine gf_getR flX6_34 rfl dX6_goTo_39 (gt_1 (gr_k _ hG)) (gp_1_6 (gr_k _ hG)) ?_
  refine gf_iload_n 1 dX6_goTo_42 rfl rfl ?_
  refine gf_iald 120 dX6_goTo_43 (gt_5 (gr_k _ hG)) (gl_5 (gr_k _ hG)) rfl (by omega) (by decide) ?_
  refine gf_iast 7 dX6_goTo_44 (gt_172 (gr_k _ hG)) (gl_172 (gr_k _ hG)) (rfl : (2 : Int32) = nI 2) (by decide) (by decide) ?_
  rw [hk_7]
  refine gf_aload_n 0 dX6_goTo_45 rfl rfl ?_
  refine gf_getR flX6_9 rfl dX6_goTo_46 (gt_171 (gr_k _ hG)) (gp_171_2 (gr_k _ hG)) ?_
  refine gf_bipush (6) dX6_goTo_49 rfl ?_
  refine gf_aload_n 0 dX6_goTo_51 rfl rfl ?_
  refine gf_getR flX6_18 rfl dX6_goTo_52 (gt_171 (gr_k _ hG)) (gp_171_0 (gr_k _ hG)) ?_
  refine gf_iload_n 1 dX6_goTo_55 rfl rfl ?_
  refine gf_callV cmX1_housesAround lkX6_37 imX1_housesAround seX1_housesAround ⟨rfl, by decide⟩ dX6_goTo_56 (d1 := d - 1) (by omega) (gt_1 (gr_k _ hG)) (e_X1_housesAround E (by omega) (hk h (up2 (up2 (up2 S.1 7 0 (hp_i h 3 c)) 7 1 (hp_i h 4 c)) 7 2 (hp_i h 5 c), S.2)) (gr_k _ hG) (w := w) (g := g) (cty_hb (up2 (up2 (up2 S.1 7 0 (hp_i h 3 c)) 7 1 (hp_i h 4 c)) 7 2 (hp_i h 5 c), S.2).1 (by decide) C) hc) rfl rfl (Nat.le_of_ble_eq_true rfl) ?_
  refine gf_iast 7 dX6_goTo_59 (gt_172 (gr_k _ hG)) (gl_172 (gr_k _ hG)) (rfl : (6 : Int32) = nI 6) (by decide) (by decide) ?_
  rw [hk_7]
  refine gf_aload_n 0 dX6_goTo_60 rfl rfl ?_
  refine gf_aload_n 0 dX6_goTo_61 rfl rfl ?_
  refine gf_getR flX6_22 rfl dX6_goTo_62 (gt_171 (gr_k _ hG)) (gp_171_1 (gr_k _ hG)) ?_
  refine gf_getR flX6_41 rfl dX6_goTo_65 (gt_165 (gr_k _ hG)) (gp_165_3 (gr_k _ hG)) ?_
  refine gf_iload_n 1 dX6_goTo_68 rfl rfl ?_
  refine gf_iald 120 dX6_goTo_69 (gt_168 (gr_k _ hG)) (gl_168 (gr_k _ hG)) rfl (by omega) (by decide) ?_
  refine gf_putI flX6_46 rfl rfl dX6_goTo_70 (gt_171 (gr_k _ hG)) ⟨rfl, rfl⟩ ?_
  rw [hk_6]
  exact gf_vretE dX6_goTo_73 rfl (rfl)
theorem e_X6_takePolicy (E : gE) {d : Nat} (hd : 0 ≤ d) (a b c : Int32) (h : hp_T) (hG : gr h) (S : kS) : ev E mX6_takePolicy d [.ref (E.1 + 171), .int a, .int b, .int c] (hk h S) (none) (hk h (takS S a b c)) := by
  refine ev_of rfl (fun q => absurd q (by decide)) (Nat.le_of_ble_eq_true rfl) ?_
  refine gf_aload_n 0 dX6_takePolicy_0 rfl rfl ?_
  refine gf_getR flX6_9 rfl dX6_takePolicy_1 (gt_171 (gr_k _ hG)) (gp_171_2 (gr_k _ hG)) ?_
  refine gf_iconst (3) dX6_takePolicy_4 rfl ?_
  refine gf_iload_n 1 dX6_takePolicy_5 rfl rfl ?_
  refine gf_iast 7 dX6_takePolicy_6 (gt_172 (gr_k _ hG)) (gl_172 (gr_k _ hG)) (rfl : (3 : Int32) = nI 3) (by decide) (by decide) ?_
  rw [hk_7]
  refine gf_aload_n 0 dX6_takePolicy_7 rfl rfl ?_
  refine gf_getR flX6_9 rfl dX6_takePolicy_8 (gt_171 (gr_k _ hG)) (gp_171_2 (gr_k _ hG)) ?_
  refine gf_iconst (5) dX6_takePolicy_11 rfl ?_
  refine gf_iload_n 2 dX6_takePolicy_12 rfl rfl ?_
  refine gf_iast 7 dX6_takePolicy_13 (gt_172 (gr_k _ hG)) (gl_172 (gr_k _ hG)) (rfl : (5 : Int32) = nI 5) (by decide) (by decide) ?_
  rw [hk_7]
  refine gf_aload_n 0 dX6_takePolicy_14 rfl rfl ?_
  refine gf_getR flX6_9 rfl dX6_takePolicy_15 (gt_171 (gr_k _ hG)) (gp_171_2 (gr_k _ hG)) ?_
  refine gf_iconst (4) dX6_takePolicy_18 rfl ?_
  refine gf_iload_n 3 dX6_takePolicy_19 rfl rfl ?_
  refine gf_iast 7 dX6_takePolicy_20 (gt_172 (gr_k _ hG)) (gl_172 (gr_k _ hG)) (rfl : (4 : Int32) = nI 4) (by decide) (by decide) ?_
  rw [hk_7]
  exact gf_vretE dX6_takePolicy_21 rfl (rfl)
/-- a house's helpers, office after office -/
def hlB (h : hp_T) (S : kS) (z : Int32 × (Nat → Int32)) (o : Nat) : Int32 × (Nat → Int32) := (if (someS h (kR S z.2) (S.2 o) 16).1 = true then z.1 ||| (1 <<< (nI o &&& 31)) else z.1, (someS h (kR S z.2) (S.2 o) 16).2)
def hlS0 (h : hp_T) (w g : Nat) (S : kS) (c : Nat) : kS := takS (goS (hp_i h) (nI (fa_cnt (hsN (hp_i h 2) w g c) 8)) S c) 0 (S.1 4 c) 0
def hlS (h : hp_T) (w g : Nat) (S : kS) (c : Nat) (o : Nat) : Int32 × (Nat → Int32) := itN (hlB h (hlS0 h w g S c)) (S.1 3 c, S.1 8) o
theorem l_X6_helpersAt (E : gE) {d : Nat} (hd : 4 ≤ d) {c : Nat} (h : hp_T) (hG : gr h) (S : kS) (hT : ∀ o, o < 9 → ∀ b, S.2 o = some b → tOK h b) (z0 : Int32 × (Nat → Int32)) {v : Option Value} {hz : hp_T} (K : gf E mX6_helpersAt d 63 [(0, .ref (E.1 + 171)), (1, .int (nI c)), (2, .int (itN (hlB h S) z0 ((9 : Nat))).1), (3, .int (nI ((9 : Nat))))] [] (hk h (kR S (itN (hlB h S) z0 ((9 : Nat))).2)) v hz) : ∀ (kz jz : Nat), jz + kz = (9 : Nat) → gf E mX6_helpersAt d 27 [(0, .ref (E.1 + 171)), (1, .int (nI c)), (2, .int (itN (hlB h S) z0 (jz)).1), (3, .int (nI (jz)))] [] (hk h (kR S (itN (hlB h S) z0 (jz)).2)) v hz := by
  intro kz
  induction kz with
  | zero =>
    intro jz hj
    have hj : (9 : Nat) = jz := by omega
    subst hj
    refine gf_iload_n 3 dX6_helpersAt_27 rfl rfl ?_
    refine gf_bipush (9) dX6_helpersAt_28 rfl ?_
    refine gf_icmp_ge 63 dX6_helpersAt_30 rfl (fun _ => ?_) (fun q => absurd (Int32.le_refl _) q)
    exact gf_lw K ⟨rfl, rfl, rfl, rfl, trivial⟩
  | succ kz ih =>
    intro jz hj
    refine gf_iload_n 3 dX6_helpersAt_27 rfl rfl ?_
    refine gf_bipush (9) dX6_helpersAt_28 rfl ?_
    refine gf_icmp_ge 63 dX6_helpersAt_30 rfl (fun q => absurd q (nI_ge (b := 9) (by omega) (by omega))) (fun _ => ?_)
    refine gf_aload_n 0 dX6_helpersAt_33 rfl rfl ?_
    refine gf_aload_n 0 dX6_helpersAt_34 rfl rfl ?_
    refine gf_getR flX6_22 rfl dX6_helpersAt_35 (gt_171 (gr_k _ hG)) (gp_171_1 (gr_k _ hG)) ?_
    refine gf_getR flX6_74 rfl dX6_helpersAt_38 (gt_165 (gr_k _ hG)) (gp_165_1 (gr_k _ hG)) ?_
    refine gf_iload_n 3 dX6_helpersAt_41 rfl rfl ?_
    refine gf_rald 9 dX6_helpersAt_42 (gt_166 (gr_k _ hG)) (by decide) (by decide) (gl_166 (gr_k _ hG)) rfl (by omega) (by decide) rfl ?_
    refine gf_bipush (16) dX6_helpersAt_43 rfl ?_
    refine gf_callV cmX6_some lkX6_78 imX6_some seX6_some ⟨rfl, by decide⟩ dX6_helpersAt_45 (d1 := d - 1) (by omega) (gt_171 (gr_k _ hG)) (e_X6_some E (by omega) 16 h hG (kR S (itN (hlB h S) z0 (jz)).2) (S.2 jz) (hT jz (by omega))) rfl rfl (Nat.le_of_ble_eq_true rfl) ?_
    rw [kR_R]
    refine gf_if_eq 57 dX6_helpersAt_48 rfl (fun zc48 => ?_) (fun zc48 => ?_)
    · refine gf_iinc (1) dX6_helpersAt_57 rfl rfl (Nat.le_of_ble_eq_true rfl) ?_
      refine gf_goto 27 dX6_helpersAt_60 rfl ?_
      exact gf_lw (ih (jz + 1) (by omega)) ⟨rfl, rfl, lvE ((if_neg (zb_0.mp zc48) : (hlB h S (itN (hlB h S) z0 (jz)) jz).1 = _).symm), lvE (nI_1 jz), trivial⟩
    · refine gf_iload_n 2 dX6_helpersAt_51 rfl rfl ?_
      refine gf_iconst (1) dX6_helpersAt_52 rfl ?_
      refine gf_iload_n 3 dX6_helpersAt_53 rfl rfl ?_
      refine gf_ishl dX6_helpersAt_54 ?_
      refine gf_ior dX6_helpersAt_55 ?_
      refine gf_istore_n 2 dX6_helpersAt_56 rfl (Nat.le_of_ble_eq_true rfl) ?_
      refine gf_iinc (1) dX6_helpersAt_57 rfl rfl (Nat.le_of_ble_eq_true rfl) ?_
      refine gf_goto 27 dX6_helpersAt_60 rfl ?_
      exact gf_lw (ih (jz + 1) (by omega)) ⟨rfl, rfl, lvE ((if_pos (zb_1.mp zc48) : (hlB h S (itN (hlB h S) z0 (jz)) jz).1 = _).symm), lvE (nI_1 jz), trivial⟩
theorem e_X6_helpersAt (E : gE) {d : Nat} (hd : 4 ≤ d) {w g c : Nat} (h : hp_T) (hG : gr h) (C : cty (hp_i h) w g) (S : kS) (hc : c < w * g) (hT : ∀ o, o < 9 → ∀ b, S.2 o = some b → tOK h b) : ev E mX6_helpersAt d [.ref (E.1 + 171), .int (nI c)] (hk h S) (some (.int (hlS h w g S c 9).1)) (hk h (kR (hlS0 h w g S c) (hlS h w g S c 9).2)) := by
  have hn := cty_n C
  refine ev_of rfl (fun q => absurd q (by decide)) (Nat.le_of_ble_eq_true rfl) ?_
  refine gf_aload_n 0 dX6_helpersAt_0 rfl rfl ?_
  refine gf_iload_n 1 dX6_helpersAt_1 rfl rfl ?_
  refine gf_callV cmX6_goTo lkX6_63 imX6_goTo seX6_goTo ⟨rfl, by decide⟩ dX6_helpersAt_2 (d1 := d - 1) (by omega) (gt_171 (gr_k _ hG)) (e_X6_goTo E (by omega) h hG C S hc) rfl rfl (Nat.le_of_ble_eq_true rfl) ?_
  refine gf_aload_n 0 dX6_helpersAt_5 rfl rfl ?_
  refine gf_iconst (0) dX6_helpersAt_6 rfl ?_
  refine gf_aload_n 0 dX6_helpersAt_7 rfl rfl ?_
  refine gf_getR flX6_22 rfl dX6_helpersAt_8 (gt_171 (gr_k _ hG)) (gp_171_1 (gr_k _ hG)) ?_
  refine gf_getR flX6_67 rfl dX6_helpersAt_11 (gt_165 (gr_k _ hG)) (gp_165_4 (gr_k _ hG)) ?_
  refine gf_iload_n 1 dX6_helpersAt_14 rfl rfl ?_
  refine gf_iald 120 dX6_helpersAt_15 (gt_169 (gr_k _ hG)) (gl_169 (gr_k _ hG)) rfl (by omega) (by decide) ?_
  refine gf_iconst (0) dX6_helpersAt_16 rfl ?_
  refine gf_callV cmX6_takePolicy lkX6_70 imX6_takePolicy seX6_takePolicy ⟨rfl, by decide⟩ dX6_helpersAt_17 (d1 := d - 1) (by omega) (gt_171 (gr_k _ hG)) (e_X6_takePolicy E (by omega) 0 (S.1 4 c) 0 h hG (goS (hp_i h) (nI (fa_cnt (hsN (hp_i h 2) w g c) 8)) S c)) rfl rfl (Nat.le_of_ble_eq_true rfl) ?_
  refine gf_aload_n 0 dX6_helpersAt_20 rfl rfl ?_
  refine gf_getI flX6_46 rfl dX6_helpersAt_21 (gt_171 (gr_k _ hG)) ?_
  refine gf_istore_n 2 dX6_helpersAt_24 rfl (Nat.le_of_ble_eq_true rfl) ?_
  refine gf_iconst (0) dX6_helpersAt_25 rfl ?_
  refine gf_istore_n 3 dX6_helpersAt_26 rfl (Nat.le_of_ble_eq_true rfl) ?_
  refine gf_hE (show hk h (hlS0 h w g S c) = hk h (kR (hlS0 h w g S c) (S.1 8, S.1 8).2) from by show _ = hk h (kR (hlS0 h w g S c) ((hlS0 h w g S c).1 8)); rw [kR_id]) ?_
  refine gf_lw (l_X6_helpersAt E hd (c := c) h hG (hlS0 h w g S c) hT (S.1 3 c, S.1 8) ?_ 9 0 (by omega)) ⟨rfl, rfl, rfl, rfl, trivial⟩
  refine gf_iload_n 2 dX6_helpersAt_63 rfl rfl ?_
  exact gf_iretE dX6_helpersAt_64 rfl (rfl) (rfl)
/-- the helpers of the cells -/
def fhB (h : hp_T) (w g : Nat) (S : kS) (c : Nat) : kS := if hp_i h 2 c = 0 then (up2 S.1 5 c 0, S.2) else (up2 (kR (hlS0 h w g S c) (hlS h w g S c 9).2).1 5 c (hlS h w g S c 9).1, S.2)
theorem fhB_2 (h : hp_T) (w g : Nat) (S : kS) (c : Nat) : (fhB h w g S c).2 = S.2 := by unfold fhB; split <;> rfl
theorem fh_2 (h : hp_T) (w g : Nat) (S : kS) : ∀ c, (itN (fhB h w g) S c).2 = S.2
  | 0 => rfl
  | c + 1 => (fhB_2 h w g _ c).trans (fh_2 h w g S c)
theorem l_X6_findHelpers (E : gE) {d : Nat} (hd : 5 ≤ d) {w g : Nat} (h : hp_T) (hG : gr h) (C : cty (hp_i h) w g) (S : kS) (hT : ∀ o, o < 9 → ∀ b, S.2 o = some b → tOK h b) {v : Option Value} {hz : hp_T} (K : gf E mX6_findHelpers d 49 [(0, .ref (E.1 + 171)), (1, .int (nI ((w * g))))] [] (hk h (itN (fhB h w g) S ((w * g)))) v hz) : ∀ (kz jz : Nat), jz + kz = (w * g) → gf E mX6_findHelpers d 2 [(0, .ref (E.1 + 171)), (1, .int (nI (jz)))] [] (hk h (itN (fhB h w g) S (jz))) v hz := by
  have hn := cty_n C
  intro kz
  induction kz with
  | zero =>
    intro jz hj
    have hj : (w * g) = jz := by omega
    subst hj
    refine gf_iload_n 1 dX6_findHelpers_2 rfl rfl ?_
    refine gf_aload_n 0 dX6_findHelpers_3 rfl rfl ?_
    refine gf_getR flX6_18 rfl dX6_findHelpers_4 (gt_171 (gr_k _ hG)) (gp_171_0 (gr_k _ hG)) ?_
    refine gf_getI flX6_50 rfl dX6_findHelpers_7 (gt_1 (gr_k _ hG)) ?_
    refine gf_icmp_ge 49 dX6_findHelpers_10 rfl (fun _ => ?_) (fun q => absurd (by rw [show hp_i (hk h _) 1 2 = nI (w * g) from C.2.2.2.1]; exact Int32.le_refl _) q)
    exact gf_lw K ⟨rfl, rfl, trivial⟩
  | succ kz ih =>
    intro jz hj
    refine gf_iload_n 1 dX6_findHelpers_2 rfl rfl ?_
    refine gf_aload_n 0 dX6_findHelpers_3 rfl rfl ?_
    refine gf_getR flX6_18 rfl dX6_findHelpers_4 (gt_171 (gr_k _ hG)) (gp_171_0 (gr_k _ hG)) ?_
    refine gf_getI flX6_50 rfl dX6_findHelpers_7 (gt_1 (gr_k _ hG)) ?_
    refine gf_icmp_ge 49 dX6_findHelpers_10 rfl (fun q => absurd q (by rw [show hp_i (hk h _) 1 2 = nI (w * g) from C.2.2.2.1]; exact nI_ge (by omega) (by omega))) (fun _ => ?_)
    refine gf_aload_n 0 dX6_findHelpers_13 rfl rfl ?_
    refine gf_getR flX6_22 rfl dX6_findHelpers_14 (gt_171 (gr_k _ hG)) (gp_171_1 (gr_k _ hG)) ?_
    refine gf_getR flX6_53 rfl dX6_findHelpers_17 (gt_165 (gr_k _ hG)) (gp_165_5 (gr_k _ hG)) ?_
    refine gf_iload_n 1 dX6_findHelpers_20 rfl rfl ?_
    refine gf_aload_n 0 dX6_findHelpers_21 rfl rfl ?_
    refine gf_getR flX6_18 rfl dX6_findHelpers_22 (gt_171 (gr_k _ hG)) (gp_171_0 (gr_k _ hG)) ?_
    refine gf_getR flX6_56 rfl dX6_findHelpers_25 (gt_1 (gr_k _ hG)) (gp_1_3 (gr_k _ hG)) ?_
    refine gf_iload_n 1 dX6_findHelpers_28 rfl rfl ?_
    refine gf_zald 120 dX6_findHelpers_29 (gt_2 (gr_k _ hG)) (gl_2 (gr_k _ hG)) rfl (by omega) (by decide) ?_
    refine gf_if_eq 41 dX6_findHelpers_30 rfl (fun zc30 => ?_) (fun zc30 => ?_)
    · refine gf_iconst (0) dX6_findHelpers_41 rfl ?_
      refine gf_iast 120 dX6_findHelpers_42 (gt_170 (gr_k _ hG)) (gl_170 (gr_k _ hG)) rfl (by omega) (by decide) ?_
      rw [hk_5]
      refine gf_iinc (1) dX6_findHelpers_43 rfl rfl (Nat.le_of_ble_eq_true rfl) ?_
      refine gf_goto 2 dX6_findHelpers_46 rfl ?_
      exact gf_hE (congrArg (hk h) (if_pos zc30 : fhB h w g (itN (fhB h w g) S (jz)) jz = _).symm) (gf_lw (ih (jz + 1) (by omega)) ⟨rfl, lvE (nI_1 jz), trivial⟩)
    · refine gf_aload_n 0 dX6_findHelpers_33 rfl rfl ?_
      refine gf_iload_n 1 dX6_findHelpers_34 rfl rfl ?_
      refine gf_callV cmX6_helpersAt lkX6_60 imX6_helpersAt seX6_helpersAt ⟨rfl, by decide⟩ dX6_findHelpers_35 (d1 := d - 1) (by omega) (gt_171 (gr_k _ hG)) (e_X6_helpersAt E (by omega) h hG C (itN (fhB h w g) S (jz)) (by omega) (fun o ho b hb => hT o ho b (by rw [← fh_2 h w g S jz]; exact hb))) rfl rfl (Nat.le_of_ble_eq_true rfl) ?_
      refine gf_goto 42 dX6_findHelpers_38 rfl ?_
      refine gf_iast 120 dX6_findHelpers_42 (gt_170 (gr_k _ hG)) (gl_170 (gr_k _ hG)) rfl (by omega) (by decide) ?_
      rw [hk_5]
      refine gf_iinc (1) dX6_findHelpers_43 rfl rfl (Nat.le_of_ble_eq_true rfl) ?_
      refine gf_goto 2 dX6_findHelpers_46 rfl ?_
      exact gf_hE (congrArg (hk h) (if_neg zc30 : fhB h w g (itN (fhB h w g) S (jz)) jz = _).symm) (gf_lw (ih (jz + 1) (by omega)) ⟨rfl, lvE (nI_1 jz), trivial⟩)
theorem e_X6_findHelpers (E : gE) {d : Nat} (hd : 5 ≤ d) {w g : Nat} (h : hp_T) (hG : gr h) (C : cty (hp_i h) w g) (S : kS) (hT : ∀ o, o < 9 → ∀ b, S.2 o = some b → tOK h b) : ev E mX6_findHelpers d [.ref (E.1 + 171)] (hk h S) (none) (hk h (itN (fhB h w g) S (w * g))) := by
  refine ev_of rfl (fun q => absurd q (by decide)) (Nat.le_of_ble_eq_true rfl) ?_
  refine gf_iconst (0) dX6_findHelpers_0 rfl ?_
  refine gf_istore_n 1 dX6_findHelpers_1 rfl (Nat.le_of_ble_eq_true rfl) ?_
  refine gf_lw (l_X6_findHelpers E hd h hG C S hT ?_ (w * g) 0 (by omega)) ⟨rfl, rfl, trivial⟩
  exact gf_vretE dX6_findHelpers_49 rfl (rfl)
