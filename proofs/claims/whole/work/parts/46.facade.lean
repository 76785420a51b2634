/-! ===== the class: fall, rounds, claim, city, feed ===== -/
def fWS (h : hp_T) : wT := wkS (hp_i h) (fun o => hp_l h (213 + o)) (fun o => hp_i h (212 + o))
def falH (h : hp_T) : hp_T := hfl h (fWS h).2.1 (fWS h).2.2
abbrev isF (h : hp_T) (t : Int32) : Prop := ¬ hp_i h 174 0 = 0 ∧ isO t
theorem e_X11_fall (E : gE) {d : Nat} (hd : 4 ≤ d) (t u : Int32) (h : hp_T) (hG : gr h) : ev E mX11_fall d [.ref (E.1 + 0), .int t, .int u] h (some (.long (if isF h t then telS (fWS h).2.1 t.toNatClampNeg u else -1))) (if isF h t then falH h else h) := by
  refine ev_of rfl (fun q => absurd q (by decide)) (Nat.le_of_ble_eq_true rfl) ?_
  by_cases hP : isF h t
  · rw [if_pos hP, if_pos hP]
    obtain ⟨o, ho9, rfl⟩ := isO_n hP.2
    rw [nI_clamp (by omega)]
    refine gf_aload_n 0 dX11_fall_0 rfl rfl ?_
    refine gf_getR flX11_58 rfl dX11_fall_1 (gt_0 hG) (gp_0_6 hG) ?_
    refine gf_getI flX11_115 rfl dX11_fall_4 (gt_174 hG) ?_
    refine gf_if_eq 17 dX11_fall_7 rfl (fun q => absurd q (hP.1)) (fun _ => ?_)
    refine gf_iload_n 1 dX11_fall_10 rfl rfl ?_
    refine gf_callS cmX11_isOffice lkX11_143 stX11_isOffice dX11_fall_11 (d1 := d - 1) (by omega) (e_X11_isOffice E (by omega) (nI o) h) rfl rfl (Nat.le_of_ble_eq_true rfl) ?_
    refine gf_if_ne 21 dX11_fall_14 rfl (fun _ => ?_) (fun q => absurd q (fun q => zb_0.mp q hP.2))
    refine gf_aload_n 0 dX11_fall_21 rfl rfl ?_
    refine gf_getR flX11_80 rfl dX11_fall_22 (gt_0 hG) (gp_0_10 hG) ?_
    refine gf_aload_n 0 dX11_fall_25 rfl rfl ?_
    refine gf_getR flX11_10 rfl dX11_fall_26 (gt_0 hG) (gp_0_0 hG) ?_
    refine gf_aload_n 0 dX11_fall_29 rfl rfl ?_
    refine gf_getR flX11_67 rfl dX11_fall_30 (gt_0 hG) (gp_0_7 hG) ?_
    refine gf_getR flX11_286 rfl dX11_fall_33 (gt_186 hG) (gp_186_3 hG) ?_
    refine gf_hE (hfl_id h).symm ?_
    refine gf_callV cmX4_work lkX11_291 imX4_work seX4_work ⟨rfl, by decide⟩ dX11_fall_36 (d1 := d - 1) (by omega) (gt_212 hG) (e_X4_work E (by omega) h hG (fun o => hp_l h (213 + o)) (fun o => hp_i h (212 + o))) rfl rfl (Nat.le_of_ble_eq_true rfl) ?_
    rw [show wkS (hp_i h) (fun o => hp_l h (213 + o)) (fun o => hp_i h (212 + o)) = fWS h from by unfold fWS; rfl]
    refine gf_aload_n 0 dX11_fall_39 rfl rfl ?_
    refine gf_getR flX11_80 rfl dX11_fall_40 (gt_0 hG) (gp_0_10 hG) ?_
    refine gf_iload_n 1 dX11_fall_43 rfl rfl ?_
    refine gf_iload_n 2 dX11_fall_44 rfl rfl ?_
    refine gf_callV cmX4_tell lkX11_295 imX4_tell seX4_tell ⟨rfl, by decide⟩ dX11_fall_45 (d1 := d - 1) (by omega) (gt_212 hG) (e_X4_tell E (by omega) u h hG (fWS h).2.1 (fWS h).2.2 ho9) rfl rfl (Nat.le_of_ble_eq_true rfl) ?_
    exact gf_lretE dX11_fall_48 rfl (rfl) (rfl)
  · rw [if_neg hP, if_neg hP]
    refine gf_aload_n 0 dX11_fall_0 rfl rfl ?_
    refine gf_getR flX11_58 rfl dX11_fall_1 (gt_0 hG) (gp_0_6 hG) ?_
    refine gf_getI flX11_115 rfl dX11_fall_4 (gt_174 hG) ?_
    refine gf_if_eq 17 dX11_fall_7 rfl (fun zc7 => ?_) (fun zc7 => ?_)
    · refine gf_ldc2 (-1) kcX11_289 dX11_fall_17 ?_
      exact gf_lretE dX11_fall_20 rfl (rfl) (rfl)
    · refine gf_iload_n 1 dX11_fall_10 rfl rfl ?_
      refine gf_callS cmX11_isOffice lkX11_143 stX11_isOffice dX11_fall_11 (d1 := d - 1) (by omega) (e_X11_isOffice E (by omega) t h) rfl rfl (Nat.le_of_ble_eq_true rfl) ?_
      refine gf_if_ne 21 dX11_fall_14 rfl (fun zc14 => ?_) (fun zc14 => ?_)
      · exact absurd ⟨zc7, zb_1.mp zc14⟩ hP
      · refine gf_ldc2 (-1) kcX11_289 dX11_fall_17 ?_
        exact gf_lretE dX11_fall_20 rfl (rfl) (rfl)
theorem e_X11_rounds (E : gE) {d : Nat} (hd : 4 ≤ d) (h : hp_T) (hG : gr h) : ev E mX11_rounds d [.ref (E.1 + 0)] h (some (.int (if ¬ hp_i h 174 0 = 0 then (fWS h).2.2 0 0 else -1))) (if ¬ hp_i h 174 0 = 0 then falH h else h) := by
  refine ev_of rfl (fun q => absurd q (by decide)) (Nat.le_of_ble_eq_true rfl) ?_
  by_cases hP : ¬ hp_i h 174 0 = 0
  · rw [if_pos hP, if_pos hP]
    refine gf_aload_n 0 dX11_rounds_0 rfl rfl ?_
    refine gf_getR flX11_58 rfl dX11_rounds_1 (gt_0 hG) (gp_0_6 hG) ?_
    refine gf_getI flX11_115 rfl dX11_rounds_4 (gt_174 hG) ?_
    refine gf_if_ne 12 dX11_rounds_7 rfl (fun _ => ?_) (fun q => absurd q (hP))
    refine gf_aload_n 0 dX11_rounds_12 rfl rfl ?_
    refine gf_getR flX11_80 rfl dX11_rounds_13 (gt_0 hG) (gp_0_10 hG) ?_
    refine gf_aload_n 0 dX11_rounds_16 rfl rfl ?_
    refine gf_getR flX11_10 rfl dX11_rounds_17 (gt_0 hG) (gp_0_0 hG) ?_
    refine gf_aload_n 0 dX11_rounds_20 rfl rfl ?_
    refine gf_getR flX11_67 rfl dX11_rounds_21 (gt_0 hG) (gp_0_7 hG) ?_
    refine gf_getR flX11_286 rfl dX11_rounds_24 (gt_186 hG) (gp_186_3 hG) ?_
    refine gf_hE (hfl_id h).symm ?_
    refine gf_callV cmX4_work lkX11_291 imX4_work seX4_work ⟨rfl, by decide⟩ dX11_rounds_27 (d1 := d - 1) (by omega) (gt_212 hG) (e_X4_work E (by omega) h hG (fun o => hp_l h (213 + o)) (fun o => hp_i h (212 + o))) rfl rfl (Nat.le_of_ble_eq_true rfl) ?_
    rw [show wkS (hp_i h) (fun o => hp_l h (213 + o)) (fun o => hp_i h (212 + o)) = fWS h from by unfold fWS; rfl]
    unfold falH
    generalize fWS h = W
    refine gf_aload_n 0 dX11_rounds_30 rfl rfl ?_
    refine gf_getR flX11_80 rfl dX11_rounds_31 (gt_0 hG) (gp_0_10 hG) ?_
    refine gf_getI flX11_299 rfl dX11_rounds_34 (gt_212 hG) ?_
    exact gf_iretE dX11_rounds_37 rfl (rfl) (rfl)
  · rw [if_neg hP, if_neg hP]
    refine gf_aload_n 0 dX11_rounds_0 rfl rfl ?_
    refine gf_getR flX11_58 rfl dX11_rounds_1 (gt_0 hG) (gp_0_6 hG) ?_
    refine gf_getI flX11_115 rfl dX11_rounds_4 (gt_174 hG) ?_
    refine gf_if_ne 12 dX11_rounds_7 rfl (fun q => absurd (by exact Decidable.not_not.mp hP) q) (fun _ => ?_)
    refine gf_iconst (-1) dX11_rounds_10 rfl ?_
    exact gf_iretE dX11_rounds_11 rfl (rfl) (rfl)
abbrev isCl (h : hp_T) (a : Int32) : Prop := (¬ hp_i h 174 0 = 0 ∧ isM a 200) ∧ ¬ hp_i h 187 a.toNatClampNeg = 0
def claV (h : hp_T) (a : Nat) (u : Int32) : Int32 := if u = 0 then hp_i h 188 a else if u = 1 then hp_i h 189 a else -1
theorem e_X11_claim (E : gE) {d : Nat} (hd : 1 ≤ d) (t u : Int32) (h : hp_T) (hG : gr h) : ev E mX11_claim d [.ref (E.1 + 0), .int t, .int u] h (some (.int (if isCl h t then claV h t.toNatClampNeg u else -1))) h := by
  refine ev_of rfl (fun q => absurd q (by decide)) (Nat.le_of_ble_eq_true rfl) ?_
  by_cases hM : isM t 200
  · obtain ⟨a, ha, rfl, -⟩ := isM_n (by omega) hM
    unfold isCl
    have ea : (nI a).toNatClampNeg = a := nI_clamp (by omega)
    generalize (nI a).toNatClampNeg = q at ea ⊢
    subst ea
    refine gf_aload_n 0 dX11_claim_0 rfl rfl ?_
    refine gf_getR flX11_58 rfl dX11_claim_1 (gt_0 hG) (gp_0_6 hG) ?_
    refine gf_getI flX11_115 rfl dX11_claim_4 (gt_174 hG) ?_
    refine gf_if_eq 33 dX11_claim_7 rfl (fun zc7 => ?_) (fun zc7 => ?_)
    · refine gf_iconst (-1) dX11_claim_33 rfl ?_
      exact gf_iretE dX11_claim_34 rfl ((if_neg (fun q => q.1.1 zc7)).symm) (rfl)
    · refine gf_iload_n 1 dX11_claim_10 rfl rfl ?_
      refine gf_iconst (1) dX11_claim_11 rfl ?_
      refine gf_sipush (200) dX11_claim_12 rfl ?_
      refine gf_callS cmX11_within lkX11_105 stX11_within dX11_claim_15 (d1 := d - 1) (by omega) (e_X11_within E (by omega) (nI q) 1 200 h) rfl rfl (Nat.le_of_ble_eq_true rfl) ?_
      refine gf_if_eq 33 dX11_claim_18 rfl (fun q => absurd q (fun q => zb_0.mp q hM)) (fun _ => ?_)
      refine gf_aload_n 0 dX11_claim_21 rfl rfl ?_
      refine gf_getR flX11_67 rfl dX11_claim_22 (gt_0 hG) (gp_0_7 hG) ?_
      refine gf_getR flX11_277 rfl dX11_claim_25 (gt_186 hG) (gp_186_0 hG) ?_
      refine gf_iload_n 1 dX11_claim_28 rfl rfl ?_
      refine gf_zald 201 dX11_claim_29 (gt_187 hG) (gl_187 hG) rfl (by omega) (by decide) ?_
      refine gf_if_ne 35 dX11_claim_30 rfl (fun zc30 => ?_) (fun zc30 => ?_)
      · refine gf_iload_n 2 dX11_claim_35 rfl rfl ?_
        refine gf_if_ne 49 dX11_claim_36 rfl (fun zc36 => ?_) (fun zc36 => ?_)
        · refine gf_iload_n 2 dX11_claim_49 rfl rfl ?_
          refine gf_iconst (1) dX11_claim_50 rfl ?_
          refine gf_icmp_ne 66 dX11_claim_51 rfl (fun zc51 => ?_) (fun zc51 => ?_)
          · refine gf_iconst (-1) dX11_claim_66 rfl ?_
            exact gf_iretE dX11_claim_67 rfl (by rw [if_pos ⟨⟨zc7, hM⟩, zc30⟩]; exact ((if_neg zc36).trans (if_neg zc51) : claV h q u = _).symm) (rfl)
          · refine gf_aload_n 0 dX11_claim_54 rfl rfl ?_
            refine gf_getR flX11_67 rfl dX11_claim_55 (gt_0 hG) (gp_0_7 hG) ?_
            refine gf_getR flX11_283 rfl dX11_claim_58 (gt_186 hG) (gp_186_2 hG) ?_
            refine gf_iload_n 1 dX11_claim_61 rfl rfl ?_
            refine gf_iald 201 dX11_claim_62 (gt_189 hG) (gl_189 hG) rfl (by omega) (by decide) ?_
            refine gf_goto 67 dX11_claim_63 rfl ?_
            exact gf_iretE dX11_claim_67 rfl (by rw [if_pos ⟨⟨zc7, hM⟩, zc30⟩]; exact ((if_neg zc36).trans (if_pos zc51) : claV h q u = _).symm) (rfl)
        · refine gf_aload_n 0 dX11_claim_39 rfl rfl ?_
          refine gf_getR flX11_67 rfl dX11_claim_40 (gt_0 hG) (gp_0_7 hG) ?_
          refine gf_getR flX11_280 rfl dX11_claim_43 (gt_186 hG) (gp_186_1 hG) ?_
          refine gf_iload_n 1 dX11_claim_46 rfl rfl ?_
          refine gf_iald 201 dX11_claim_47 (gt_188 hG) (gl_188 hG) rfl (by omega) (by decide) ?_
          exact gf_iretE dX11_claim_48 rfl (by rw [if_pos ⟨⟨zc7, hM⟩, zc30⟩]; exact (if_pos zc36 : claV h q u = _).symm) (rfl)
      · refine gf_iconst (-1) dX11_claim_33 rfl ?_
        exact gf_iretE dX11_claim_34 rfl ((if_neg (fun q => q.2 zc30)).symm) (rfl)
  · rw [if_neg (fun q => hM q.1.2)]
    refine gf_aload_n 0 dX11_claim_0 rfl rfl ?_
    refine gf_getR flX11_58 rfl dX11_claim_1 (gt_0 hG) (gp_0_6 hG) ?_
    refine gf_getI flX11_115 rfl dX11_claim_4 (gt_174 hG) ?_
    refine gf_if_eq 33 dX11_claim_7 rfl (fun zc7 => ?_) (fun zc7 => ?_)
    · refine gf_iconst (-1) dX11_claim_33 rfl ?_
      exact gf_iretE dX11_claim_34 rfl (rfl) (rfl)
    · refine gf_iload_n 1 dX11_claim_10 rfl rfl ?_
      refine gf_iconst (1) dX11_claim_11 rfl ?_
      refine gf_sipush (200) dX11_claim_12 rfl ?_
      refine gf_callS cmX11_within lkX11_105 stX11_within dX11_claim_15 (d1 := d - 1) (by omega) (e_X11_within E (by omega) t 1 200 h) rfl rfl (Nat.le_of_ble_eq_true rfl) ?_
      refine gf_if_eq 33 dX11_claim_18 rfl (fun _ => ?_) (fun q => absurd (zb_f hM) q)
      refine gf_iconst (-1) dX11_claim_33 rfl ?_
      exact gf_iretE dX11_claim_34 rfl (rfl) (rfl)
theorem e_X8_forget (E : gE) {d : Nat} (hd : 0 ≤ d) (h : hp_T) (hG : gr h) : ev E mX8_forget d [.ref (E.1 + 243)] h (none) (hp_setI (hp_setI h 243 0 0) 243 1 0) := by
  refine ev_of rfl (fun q => absurd q (by decide)) (Nat.le_of_ble_eq_true rfl) ?_
  refine gf_aload_n 0 dX8_forget_0 rfl rfl ?_
  refine gf_iconst (0) dX8_forget_1 rfl ?_
  refine gf_putI flX8_29 rfl rfl dX8_forget_2 (gt_243 hG) ⟨rfl, rfl⟩ ?_
  refine gf_aload_n 0 dX8_forget_5 rfl rfl ?_
  refine gf_iconst (0) dX8_forget_6 rfl ?_
  refine gf_putI flX8_33 rfl rfl dX8_forget_7 (gt_243 hG) ⟨rfl, rfl⟩ ?_
  exact gf_vretE dX8_forget_10 rfl (rfl)
theorem ptH_gr {h : hp_T} (g : gr h) : ∀ n, gr (ptH h n)
  | 0 => g
  | n + 1 => (ptH_gr g n : gr (ptH h n))
theorem gr_lay {w g : Nat} {h : hp_T} (hG : gr h) : gr (layH w g h) := by
  unfold layH
  refine ptH_gr ?_ 9
  exact (gr_layA (h := lay1 (lay0 w g h)) hG g : gr (layA w g (lay1 (lay0 w g h)) g))
abbrev isCt (a b : Int32) : Prop := isM a 12 ∧ isM b 10
def citH (w g : Nat) (h : hp_T) : hp_T := hp_setI (hp_setI (hp_setI (hp_setI (hp_setI (hp_setI (layH w g h) 145 0 0) 158 0 0) 158 1 (-1)) 174 0 0) 243 0 0) 243 1 0
theorem e_X11_city (E : gE) {d : Nat} (hd : 3 ≤ d) (a b : Int32) (h : hp_T) (hG : gr h) : ev E mX11_city d [.ref (E.1 + 0), .int a, .int b] h (some (.int (zb (isCt a b)))) (if isCt a b then citH a.toNatClampNeg b.toNatClampNeg h else h) := by
  refine ev_of rfl (fun q => absurd q (by decide)) (Nat.le_of_ble_eq_true rfl) ?_
  by_cases hP : isCt a b
  · rw [if_pos hP, zb_t hP]
    obtain ⟨w, hw, rfl, -⟩ := isM_n (by omega) hP.1
    obtain ⟨g, hg, rfl, -⟩ := isM_n (by omega) hP.2
    rw [nI_clamp (by omega), nI_clamp (by omega)]
    have hn : w * g ≤ 120 := Nat.le_trans (Nat.mul_le_mul hw hg) (by decide)
    refine gf_iload_n 1 dX11_city_0 rfl rfl ?_
    refine gf_iconst (1) dX11_city_1 rfl ?_
    refine gf_bipush (12) dX11_city_2 rfl ?_
    refine gf_callS cmX11_within lkX11_105 stX11_within dX11_city_4 (d1 := d - 1) (by omega) (e_X11_within E (by omega) (nI w) 1 12 h) rfl rfl (Nat.le_of_ble_eq_true rfl) ?_
    refine gf_if_eq 20 dX11_city_7 rfl (fun q => absurd q (fun q => zb_0.mp q hP.1)) (fun _ => ?_)
    refine gf_iload_n 2 dX11_city_10 rfl rfl ?_
    refine gf_iconst (1) dX11_city_11 rfl ?_
    refine gf_bipush (10) dX11_city_12 rfl ?_
    refine gf_callS cmX11_within lkX11_105 stX11_within dX11_city_14 (d1 := d - 1) (by omega) (e_X11_within E (by omega) (nI g) 1 10 h) rfl rfl (Nat.le_of_ble_eq_true rfl) ?_
    refine gf_if_ne 22 dX11_city_17 rfl (fun _ => ?_) (fun q => absurd q (fun q => zb_0.mp q hP.2))
    refine gf_aload_n 0 dX11_city_22 rfl rfl ?_
    refine gf_getR flX11_10 rfl dX11_city_23 (gt_0 (by first | exact hG2 | exact hG)) (gp_0_0 (by first | exact hG2 | exact hG)) ?_
    refine gf_iload_n 1 dX11_city_26 rfl rfl ?_
    refine gf_iload_n 2 dX11_city_27 rfl rfl ?_
    refine gf_callV cmX1_lay lkX11_93 imX1_lay seX1_lay ⟨rfl, by decide⟩ dX11_city_28 (d1 := d - 1) (by omega) (gt_1 (by first | exact hG2 | exact hG)) (e_X1_lay E (by omega) h hG (by omega) (by omega) hn) rfl rfl (Nat.le_of_ble_eq_true rfl) ?_
    have hG2 := gr_lay (w := w) (g := g) hG
    unfold citH
    generalize layH w g h = A at hG2 ⊢
    refine gf_aload_n 0 dX11_city_31 rfl rfl ?_
    refine gf_getR flX11_19 rfl dX11_city_32 (gt_0 (by first | exact hG2 | exact hG)) (gp_0_1 (by first | exact hG2 | exact hG)) ?_
    refine gf_iconst (0) dX11_city_35 rfl ?_
    refine gf_putI flX11_109 rfl rfl dX11_city_36 (gt_145 (by first | exact hG2 | exact hG)) ⟨rfl, rfl⟩ ?_
    refine gf_aload_n 0 dX11_city_39 rfl rfl ?_
    refine gf_getR flX11_33 rfl dX11_city_40 (gt_0 (by first | exact hG2 | exact hG)) (gp_0_3 (by first | exact hG2 | exact hG)) ?_
    refine gf_callV cmX0_forget lkX11_112 imX0_forget seX0_forget ⟨rfl, by decide⟩ dX11_city_43 (d1 := d - 1) (by omega) (gt_158 (by first | exact hG2 | exact hG)) (e_X0_forget E (by omega) (hp_setI A 145 0 0) hG2) rfl rfl (Nat.le_of_ble_eq_true rfl) ?_
    refine gf_aload_n 0 dX11_city_46 rfl rfl ?_
    refine gf_getR flX11_58 rfl dX11_city_47 (gt_0 (by first | exact hG2 | exact hG)) (gp_0_6 (by first | exact hG2 | exact hG)) ?_
    refine gf_iconst (0) dX11_city_50 rfl ?_
    refine gf_putI flX11_115 rfl rfl dX11_city_51 (gt_174 (by first | exact hG2 | exact hG)) ⟨rfl, rfl⟩ ?_
    refine gf_aload_n 0 dX11_city_54 rfl rfl ?_
    refine gf_getR flX11_89 rfl dX11_city_55 (gt_0 (by first | exact hG2 | exact hG)) (gp_0_11 (by first | exact hG2 | exact hG)) ?_
    refine gf_callV cmX8_forget lkX11_119 imX8_forget seX8_forget ⟨rfl, by decide⟩ dX11_city_58 (d1 := d - 1) (by omega) (gt_243 (by first | exact hG2 | exact hG)) (e_X8_forget E (by omega) (hp_setI (hp_setI (hp_setI (hp_setI A 145 0 0) 158 0 0) 158 1 (-1)) 174 0 0) hG2) rfl rfl (Nat.le_of_ble_eq_true rfl) ?_
    refine gf_iconst (1) dX11_city_61 rfl ?_
    exact gf_zretE dX11_city_62 rfl (rfl) (rfl) (rfl)
  · rw [if_neg hP, zb_f hP]
    refine gf_iload_n 1 dX11_city_0 rfl rfl ?_
    refine gf_iconst (1) dX11_city_1 rfl ?_
    refine gf_bipush (12) dX11_city_2 rfl ?_
    refine gf_callS cmX11_within lkX11_105 stX11_within dX11_city_4 (d1 := d - 1) (by omega) (e_X11_within E (by omega) a 1 12 h) rfl rfl (Nat.le_of_ble_eq_true rfl) ?_
    refine gf_if_eq 20 dX11_city_7 rfl (fun zc7 => ?_) (fun zc7 => ?_)
    · refine gf_iconst (0) dX11_city_20 rfl ?_
      exact gf_zretE dX11_city_21 rfl (rfl) (rfl) (rfl)
    · refine gf_iload_n 2 dX11_city_10 rfl rfl ?_
      refine gf_iconst (1) dX11_city_11 rfl ?_
      refine gf_bipush (10) dX11_city_12 rfl ?_
      refine gf_callS cmX11_within lkX11_105 stX11_within dX11_city_14 (d1 := d - 1) (by omega) (e_X11_within E (by omega) b 1 10 h) rfl rfl (Nat.le_of_ble_eq_true rfl) ?_
      refine gf_if_ne 22 dX11_city_17 rfl (fun zc17 => ?_) (fun zc17 => ?_)
      · exact absurd ⟨zb_1.mp zc7, zb_1.mp zc17⟩ hP
      · refine gf_iconst (0) dX11_city_20 rfl ?_
        exact gf_zretE dX11_city_21 rfl (rfl) (rfl) (rfl)
theorem rd_0 (h : hp_T) (Z : Nat → Nat → Int32) (k : Nat) (v : Int32) : hp_setI (hb h 150 8 Z) 150 k v = hb h 150 8 (up2 Z 0 k v) := hb_set h (b := 150) (n := 8) (o := 0) Z (by decide) k v
theorem rd_1 (h : hp_T) (Z : Nat → Nat → Int32) (k : Nat) (v : Int32) : hp_setI (hb h 150 8 Z) 151 k v = hb h 150 8 (up2 Z 1 k v) := hb_set h (b := 150) (n := 8) (o := 1) Z (by decide) k v
theorem rd_2 (h : hp_T) (Z : Nat → Nat → Int32) (k : Nat) (v : Int32) : hp_setI (hb h 150 8 Z) 152 k v = hb h 150 8 (up2 Z 2 k v) := hb_set h (b := 150) (n := 8) (o := 2) Z (by decide) k v
theorem rd_3 (h : hp_T) (Z : Nat → Nat → Int32) (k : Nat) (v : Int32) : hp_setI (hb h 150 8 Z) 153 k v = hb h 150 8 (up2 Z 3 k v) := hb_set h (b := 150) (n := 8) (o := 3) Z (by decide) k v
theorem rd_4 (h : hp_T) (Z : Nat → Nat → Int32) (k : Nat) (v : Int32) : hp_setI (hb h 150 8 Z) 154 k v = hb h 150 8 (up2 Z 4 k v) := hb_set h (b := 150) (n := 8) (o := 4) Z (by decide) k v
theorem rd_5 (h : hp_T) (Z : Nat → Nat → Int32) (k : Nat) (v : Int32) : hp_setI (hb h 150 8 Z) 155 k v = hb h 150 8 (up2 Z 5 k v) := hb_set h (b := 150) (n := 8) (o := 5) Z (by decide) k v
theorem rd_6 (h : hp_T) (Z : Nat → Nat → Int32) (k : Nat) (v : Int32) : hp_setI (hb h 150 8 Z) 156 k v = hb h 150 8 (up2 Z 6 k v) := hb_set h (b := 150) (n := 8) (o := 6) Z (by decide) k v
theorem rd_7 (h : hp_T) (Z : Nat → Nat → Int32) (k : Nat) (v : Int32) : hp_setI (hb h 150 8 Z) 157 k v = hb h 150 8 (up2 Z 7 k v) := hb_set h (b := 150) (n := 8) (o := 7) Z (by decide) k v
/-- a byte of a number -/
def byt (x s : Int32) : Int32 := (x.toUInt32 >>> (s.toUInt32 &&& Int32.toUInt32 31)).toInt32 &&& 255
def tkB (x s : Int32) (L : Nat) (Z : Nat → Nat → Int32) : Nat → Nat → Int32 := up2 (up2 Z 4 L (byt x s)) 0 0 (nI (L + 1))
def tkS (x : Int32) (L : Nat) (Z : Nat → Nat → Int32) : Nat → Nat → Int32 := tkB x 0 (L + 3) (tkB x 8 (L + 2) (tkB x 16 (L + 1) (tkB x 24 L Z)))
theorem e_X9_take (E : gE) {d : Nat} (hd : 0 ≤ d) {L : Nat} (x : Int32) (h : hp_T) (hG : gr h) (Z : Nat → Nat → Int32) (hL : Z 0 0 = nI L) (hL6 : L + 4 ≤ 600) : ev E mX9_take d [.ref (E.1 + 150), .int x] (hb h 150 8 Z) (none) (hb h 150 8 (tkS x L Z)) := by
  refine ev_of rfl (fun q => absurd q (by decide)) (Nat.le_of_ble_eq_true rfl) ?_
  refine gf_bipush (24) dX9_take_0 rfl ?_
  refine gf_istore_n 2 dX9_take_2 rfl (Nat.le_of_ble_eq_true rfl) ?_
  refine gf_iload_n 2 dX9_take_3 rfl rfl ?_
  refine gf_if_lt 49 dX9_take_4 rfl (fun q => absurd q (by decide)) (fun _ => ?_)
  refine gf_aload_n 0 dX9_take_7 rfl rfl ?_
  refine gf_getI flX9_37 rfl dX9_take_8 (gt_150 hG) ?_
  refine gf_sipush (600) dX9_take_11 rfl ?_
  refine gf_icmp_ge 49 dX9_take_14 rfl (fun q => absurd q (by rw [show hp_i (hb h 150 8 Z) 150 0 = nI L from hL]; exact nI_ge (b := 600) (by omega) (by omega))) (fun _ => ?_)
  refine gf_aload_n 0 dX9_take_17 rfl rfl ?_
  refine gf_getR flX9_25 rfl dX9_take_18 (gt_150 hG) (gp_150_8 hG) ?_
  refine gf_aload_n 0 dX9_take_21 rfl rfl ?_
  refine gf_getI flX9_37 rfl dX9_take_22 (gt_150 hG) ?_
  refine gf_iload_n 1 dX9_take_25 rfl rfl ?_
  refine gf_iload_n 2 dX9_take_26 rfl rfl ?_
  refine gf_iushr dX9_take_27 ?_
  refine gf_sipush (255) dX9_take_28 rfl ?_
  refine gf_iand dX9_take_31 ?_
  rw [show (x.toUInt32 >>> ((24 : Int32).toUInt32 &&& Int32.toUInt32 31)).toInt32 &&& 255 = byt x 24 from rfl]
  refine gf_iast 600 dX9_take_32 (gt_154 hG) (gl_154 hG) (show hp_i (hb h 150 8 Z) 150 0 = nI L from hL) (by omega) (by decide) ?_
  rw [rd_4]
  refine gf_aload_n 0 dX9_take_33 rfl rfl ?_
  refine gf_dup dX9_take_34 rfl ?_
  refine gf_getI flX9_37 rfl dX9_take_35 (gt_150 hG) ?_
  rw [show hp_i (hb h 150 8 (up2 Z 4 L (byt x 24))) 150 0 = nI L from hL]
  refine gf_iconst (1) dX9_take_38 rfl ?_
  refine gf_iadd dX9_take_39 ?_
  refine gf_putI flX9_37 rfl rfl dX9_take_40 (gt_150 hG) ⟨rfl, rfl⟩ ?_
  rw [rd_0, nI_1]
  change gf _ _ _ _ _ _ (hb h 150 8 (tkB x 24 L Z)) _ _
  refine gf_iinc (-8) dX9_take_43 rfl rfl (Nat.le_of_ble_eq_true rfl) ?_
  refine gf_goto 3 dX9_take_46 rfl ?_
  refine gf_lw (lv' := [(0, .ref (E.1 + 150)), (1, .int x), (2, .int (16))]) ?_ ⟨rfl, rfl, lvE (by decide), trivial⟩
  refine gf_iload_n 2 dX9_take_3 rfl rfl ?_
  refine gf_if_lt 49 dX9_take_4 rfl (fun q => absurd q (by decide)) (fun _ => ?_)
  refine gf_aload_n 0 dX9_take_7 rfl rfl ?_
  refine gf_getI flX9_37 rfl dX9_take_8 (gt_150 hG) ?_
  refine gf_sipush (600) dX9_take_11 rfl ?_
  refine gf_icmp_ge 49 dX9_take_14 rfl (fun q => absurd q (by rw [show hp_i (hb h 150 8 (tkB x 24 L Z)) 150 0 = nI (L + 1) from (up2_s _ _ _ _ : (tkB x 24 L Z) 0 0 = nI (L + 1))]; exact nI_ge (b := 600) (by omega) (by omega))) (fun _ => ?_)
  refine gf_aload_n 0 dX9_take_17 rfl rfl ?_
  refine gf_getR flX9_25 rfl dX9_take_18 (gt_150 hG) (gp_150_8 hG) ?_
  refine gf_aload_n 0 dX9_take_21 rfl rfl ?_
  refine gf_getI flX9_37 rfl dX9_take_22 (gt_150 hG) ?_
  refine gf_iload_n 1 dX9_take_25 rfl rfl ?_
  refine gf_iload_n 2 dX9_take_26 rfl rfl ?_
  refine gf_iushr dX9_take_27 ?_
  refine gf_sipush (255) dX9_take_28 rfl ?_
  refine gf_iand dX9_take_31 ?_
  rw [show (x.toUInt32 >>> ((16 : Int32).toUInt32 &&& Int32.toUInt32 31)).toInt32 &&& 255 = byt x 16 from rfl]
  refine gf_iast 600 dX9_take_32 (gt_154 hG) (gl_154 hG) (show hp_i (hb h 150 8 (tkB x 24 L Z)) 150 0 = nI (L + 1) from (up2_s _ _ _ _ : (tkB x 24 L Z) 0 0 = nI (L + 1))) (by omega) (by decide) ?_
  rw [rd_4]
  refine gf_aload_n 0 dX9_take_33 rfl rfl ?_
  refine gf_dup dX9_take_34 rfl ?_
  refine gf_getI flX9_37 rfl dX9_take_35 (gt_150 hG) ?_
  rw [show hp_i (hb h 150 8 (up2 (tkB x 24 L Z) 4 (L + 1) (byt x 16))) 150 0 = nI (L + 1) from (up2_s _ _ _ _ : (tkB x 24 L Z) 0 0 = nI (L + 1))]
  refine gf_iconst (1) dX9_take_38 rfl ?_
  refine gf_iadd dX9_take_39 ?_
  refine gf_putI flX9_37 rfl rfl dX9_take_40 (gt_150 hG) ⟨rfl, rfl⟩ ?_
  rw [rd_0, nI_1]
  change gf _ _ _ _ _ _ (hb h 150 8 (tkB x 16 (L + 1) (tkB x 24 L Z))) _ _
  refine gf_iinc (-8) dX9_take_43 rfl rfl (Nat.le_of_ble_eq_true rfl) ?_
  refine gf_goto 3 dX9_take_46 rfl ?_
  refine gf_lw (lv' := [(0, .ref (E.1 + 150)), (1, .int x), (2, .int (8))]) ?_ ⟨rfl, rfl, lvE (by decide), trivial⟩
  refine gf_iload_n 2 dX9_take_3 rfl rfl ?_
  refine gf_if_lt 49 dX9_take_4 rfl (fun q => absurd q (by decide)) (fun _ => ?_)
  refine gf_aload_n 0 dX9_take_7 rfl rfl ?_
  refine gf_getI flX9_37 rfl dX9_take_8 (gt_150 hG) ?_
  refine gf_sipush (600) dX9_take_11 rfl ?_
  refine gf_icmp_ge 49 dX9_take_14 rfl (fun q => absurd q (by rw [show hp_i (hb h 150 8 (tkB x 16 (L + 1) (tkB x 24 L Z))) 150 0 = nI (L + 2) from (up2_s _ _ _ _ : (tkB x 16 (L + 1) (tkB x 24 L Z)) 0 0 = nI (L + 2))]; exact nI_ge (b := 600) (by omega) (by omega))) (fun _ => ?_)
  refine gf_aload_n 0 dX9_take_17 rfl rfl ?_
  refine gf_getR flX9_25 rfl dX9_take_18 (gt_150 hG) (gp_150_8 hG) ?_
  refine gf_aload_n 0 dX9_take_21 rfl rfl ?_
  refine gf_getI flX9_37 rfl dX9_take_22 (gt_150 hG) ?_
  refine gf_iload_n 1 dX9_take_25 rfl rfl ?_
  refine gf_iload_n 2 dX9_take_26 rfl rfl ?_
  refine gf_iushr dX9_take_27 ?_
  refine gf_sipush (255) dX9_take_28 rfl ?_
  refine gf_iand dX9_take_31 ?_
  rw [show (x.toUInt32 >>> ((8 : Int32).toUInt32 &&& Int32.toUInt32 31)).toInt32 &&& 255 = byt x 8 from rfl]
  refine gf_iast 600 dX9_take_32 (gt_154 hG) (gl_154 hG) (show hp_i (hb h 150 8 (tkB x 16 (L + 1) (tkB x 24 L Z))) 150 0 = nI (L + 2) from (up2_s _ _ _ _ : (tkB x 16 (L + 1) (tkB x 24 L Z)) 0 0 = nI (L + 2))) (by omega) (by decide) ?_
  rw [rd_4]
  refine gf_aload_n 0 dX9_take_33 rfl rfl ?_
  refine gf_dup dX9_take_34 rfl ?_
  refine gf_getI flX9_37 rfl dX9_take_35 (gt_150 hG) ?_
  rw [show hp_i (hb h 150 8 (up2 (tkB x 16 (L + 1) (tkB x 24 L Z)) 4 (L + 2) (byt x 8))) 150 0 = nI (L + 2) from (up2_s _ _ _ _ : (tkB x 16 (L + 1) (tkB x 24 L Z)) 0 0 = nI (L + 2))]
  refine gf_iconst (1) dX9_take_38 rfl ?_
  refine gf_iadd dX9_take_39 ?_
  refine gf_putI flX9_37 rfl rfl dX9_take_40 (gt_150 hG) ⟨rfl, rfl⟩ ?_
  rw [rd_0, nI_1]
  change gf _ _ _ _ _ _ (hb h 150 8 (tkB x 8 (L + 2) (tkB x 16 (L + 1) (tkB x 24 L Z)))) _ _
  refine gf_iinc (-8) dX9_take_43 rfl rfl (Nat.le_of_ble_eq_true rfl) ?_
  refine gf_goto 3 dX9_take_46 rfl ?_
  refine gf_lw (lv' := [(0, .ref (E.1 + 150)), (1, .int x), (2, .int (0))]) ?_ ⟨rfl, rfl, lvE (by decide), trivial⟩
  refine gf_iload_n 2 dX9_take_3 rfl rfl ?_
  refine gf_if_lt 49 dX9_take_4 rfl (fun q => absurd q (by decide)) (fun _ => ?_)
  refine gf_aload_n 0 dX9_take_7 rfl rfl ?_
  refine gf_getI flX9_37 rfl dX9_take_8 (gt_150 hG) ?_
  refine gf_sipush (600) dX9_take_11 rfl ?_
  refine gf_icmp_ge 49 dX9_take_14 rfl (fun q => absurd q (by rw [show hp_i (hb h 150 8 (tkB x 8 (L + 2) (tkB x 16 (L + 1) (tkB x 24 L Z)))) 150 0 = nI (L + 3) from (up2_s _ _ _ _ : (tkB x 8 (L + 2) (tkB x 16 (L + 1) (tkB x 24 L Z))) 0 0 = nI (L + 3))]; exact nI_ge (b := 600) (by omega) (by omega))) (fun _ => ?_)
  refine gf_aload_n 0 dX9_take_17 rfl rfl ?_
  refine gf_getR flX9_25 rfl dX9_take_18 (gt_150 hG) (gp_150_8 hG) ?_
  refine gf_aload_n 0 dX9_take_21 rfl rfl ?_
  refine gf_getI flX9_37 rfl dX9_take_22 (gt_150 hG) ?_
  refine gf_iload_n 1 dX9_take_25 rfl rfl ?_
  refine gf_iload_n 2 dX9_take_26 rfl rfl ?_
  refine gf_iushr dX9_take_27 ?_
  refine gf_sipush (255) dX9_take_28 rfl ?_
  refine gf_iand dX9_take_31 ?_
  rw [show (x.toUInt32 >>> ((0 : Int32).toUInt32 &&& Int32.toUInt32 31)).toInt32 &&& 255 = byt x 0 from rfl]
  refine gf_iast 600 dX9_take_32 (gt_154 hG) (gl_154 hG) (show hp_i (hb h 150 8 (tkB x 8 (L + 2) (tkB x 16 (L + 1) (tkB x 24 L Z)))) 150 0 = nI (L + 3) from (up2_s _ _ _ _ : (tkB x 8 (L + 2) (tkB x 16 (L + 1) (tkB x 24 L Z))) 0 0 = nI (L + 3))) (by omega) (by decide) ?_
  rw [rd_4]
  refine gf_aload_n 0 dX9_take_33 rfl rfl ?_
  refine gf_dup dX9_take_34 rfl ?_
  refine gf_getI flX9_37 rfl dX9_take_35 (gt_150 hG) ?_
  rw [show hp_i (hb h 150 8 (up2 (tkB x 8 (L + 2) (tkB x 16 (L + 1) (tkB x 24 L Z))) 4 (L + 3) (byt x 0))) 150 0 = nI (L + 3) from (up2_s _ _ _ _ : (tkB x 8 (L + 2) (tkB x 16 (L + 1) (tkB x 24 L Z))) 0 0 = nI (L + 3))]
  refine gf_iconst (1) dX9_take_38 rfl ?_
  refine gf_iadd dX9_take_39 ?_
  refine gf_putI flX9_37 rfl rfl dX9_take_40 (gt_150 hG) ⟨rfl, rfl⟩ ?_
  rw [rd_0, nI_1]
  change gf _ _ _ _ _ _ (hb h 150 8 (tkS x L Z)) _ _
  refine gf_iinc (-8) dX9_take_43 rfl rfl (Nat.le_of_ble_eq_true rfl) ?_
  refine gf_goto 3 dX9_take_46 rfl ?_
  refine gf_lw (lv' := [(0, .ref (E.1 + 150)), (1, .int x), (2, .int (-8))]) ?_ ⟨rfl, rfl, lvE (by decide), trivial⟩
  refine gf_iload_n 2 dX9_take_3 rfl rfl ?_
  refine gf_if_lt 49 dX9_take_4 rfl (fun _ => ?_) (fun q => absurd (by decide) q)
  exact gf_vretE dX9_take_49 rfl (rfl)
def rd0 (h : hp_T) : Nat → Nat → Int32 := fun o => hp_i h (150 + o)
def fdS (a b c x e : Int32) (L : Nat) (Z : Nat → Nat → Int32) : Nat → Nat → Int32 := tkS e (L + 16) (tkS x (L + 12) (tkS c (L + 8) (tkS b (L + 4) (tkS a L Z))))
theorem tkS_0 (x : Int32) (L : Nat) (Z : Nat → Nat → Int32) : tkS x L Z 0 0 = nI (L + 4) := by
  unfold tkS
  generalize tkB x 8 (L + 2) (tkB x 16 (L + 1) (tkB x 24 L Z)) = Y
  unfold tkB
  exact up2_s _ _ _ _
theorem e_X11_feed (E : gE) {d : Nat} (hd : 1 ≤ d) {L : Nat} (a b c x e : Int32) (h : hp_T) (hG : gr h) (hL : hp_i h 150 0 = nI L) (hL6 : L ≤ 600) : ev E mX11_feed d [.ref (E.1 + 0), .int a, .int b, .int c, .int x, .int e] h (some (.int (if L + 20 ≤ 600 then nI (L + 20) else -1))) (if L + 20 ≤ 600 then hb h 150 8 (fdS a b c x e L (rd0 h)) else h) := by
  refine ev_of rfl (fun q => absurd q (by decide)) (Nat.le_of_ble_eq_true rfl) ?_
  by_cases hP : L + 20 ≤ 600
  · rw [if_pos hP, if_pos hP]
    have eL : nI L + 20 = nI (L + 20) := nI_add L 20
    refine gf_aload_n 0 dX11_feed_0 rfl rfl ?_
    refine gf_getR flX11_26 rfl dX11_feed_1 (gt_0 hG) (gp_0_2 hG) ?_
    refine gf_getI flX11_97 rfl dX11_feed_4 (gt_150 hG) ?_
    rw [hL]
    refine gf_bipush (20) dX11_feed_7 rfl ?_
    refine gf_iadd dX11_feed_9 ?_
    rw [eL]
    refine gf_sipush (600) dX11_feed_10 rfl ?_
    refine gf_icmp_le 18 dX11_feed_13 rfl (fun _ => ?_) (fun q => absurd (nI_le (b := 600) hP (by omega)) q)
    refine gf_aload_n 0 dX11_feed_18 rfl rfl ?_
    refine gf_getR flX11_26 rfl dX11_feed_19 (gt_0 hG) (gp_0_2 hG) ?_
    refine gf_iload_n 1 dX11_feed_22 rfl rfl ?_
    refine gf_hE (show h = hb h 150 8 (rd0 h) from (hb_id h 150 8).symm) ?_
    refine gf_callV cmX9_take lkX11_101 imX9_take seX9_take ⟨rfl, by decide⟩ dX11_feed_23 (d1 := d - 1) (by omega) (gt_150 hG) (e_X9_take E (by omega) (L := L) a h hG (rd0 h) hL (by omega)) rfl rfl (Nat.le_of_ble_eq_true rfl) ?_
    refine gf_aload_n 0 dX11_feed_26 rfl rfl ?_
    refine gf_getR flX11_26 rfl dX11_feed_27 (gt_0 hG) (gp_0_2 hG) ?_
    refine gf_iload_n 2 dX11_feed_30 rfl rfl ?_
    refine gf_callV cmX9_take lkX11_101 imX9_take seX9_take ⟨rfl, by decide⟩ dX11_feed_31 (d1 := d - 1) (by omega) (gt_150 hG) (e_X9_take E (by omega) (L := L + 4) b h hG (tkS a L (rd0 h)) (tkS_0 a L (rd0 h)) (by omega)) rfl rfl (Nat.le_of_ble_eq_true rfl) ?_
    refine gf_aload_n 0 dX11_feed_34 rfl rfl ?_
    refine gf_getR flX11_26 rfl dX11_feed_35 (gt_0 hG) (gp_0_2 hG) ?_
    refine gf_iload_n 3 dX11_feed_38 rfl rfl ?_
    refine gf_callV cmX9_take lkX11_101 imX9_take seX9_take ⟨rfl, by decide⟩ dX11_feed_39 (d1 := d - 1) (by omega) (gt_150 hG) (e_X9_take E (by omega) (L := L + 8) c h hG (tkS b (L + 4) (tkS a L (rd0 h))) (tkS_0 b (L + 4) (tkS a L (rd0 h))) (by omega)) rfl rfl (Nat.le_of_ble_eq_true rfl) ?_
    refine gf_aload_n 0 dX11_feed_42 rfl rfl ?_
    refine gf_getR flX11_26 rfl dX11_feed_43 (gt_0 hG) (gp_0_2 hG) ?_
    refine gf_iload dX11_feed_46 rfl ?_
    refine gf_callV cmX9_take lkX11_101 imX9_take seX9_take ⟨rfl, by decide⟩ dX11_feed_48 (d1 := d - 1) (by omega) (gt_150 hG) (e_X9_take E (by omega) (L := L + 12) x h hG (tkS c (L + 8) (tkS b (L + 4) (tkS a L (rd0 h)))) (tkS_0 c (L + 8) (tkS b (L + 4) (tkS a L (rd0 h)))) (by omega)) rfl rfl (Nat.le_of_ble_eq_true rfl) ?_
    refine gf_aload_n 0 dX11_feed_51 rfl rfl ?_
    refine gf_getR flX11_26 rfl dX11_feed_52 (gt_0 hG) (gp_0_2 hG) ?_
    refine gf_iload dX11_feed_55 rfl ?_
    refine gf_callV cmX9_take lkX11_101 imX9_take seX9_take ⟨rfl, by decide⟩ dX11_feed_57 (d1 := d - 1) (by omega) (gt_150 hG) (e_X9_take E (by omega) (L := L + 16) e h hG (tkS x (L + 12) (tkS c (L + 8) (tkS b (L + 4) (tkS a L (rd0 h))))) (tkS_0 x (L + 12) (tkS c (L + 8) (tkS b (L + 4) (tkS a L (rd0 h))))) (by omega)) rfl rfl (Nat.le_of_ble_eq_true rfl) ?_
    refine gf_aload_n 0 dX11_feed_60 rfl rfl ?_
    refine gf_getR flX11_26 rfl dX11_feed_61 (gt_0 hG) (gp_0_2 hG) ?_
    refine gf_getI flX11_97 rfl dX11_feed_64 (gt_150 hG) ?_
    rw [show hp_i (hb h 150 8 (tkS e (L + 16) (tkS x (L + 12) (tkS c (L + 8) (tkS b (L + 4) (tkS a L (rd0 h))))))) 150 0 = nI (L + 20) from tkS_0 e (L + 16) (tkS x (L + 12) (tkS c (L + 8) (tkS b (L + 4) (tkS a L (rd0 h)))))]
    exact gf_iretE dX11_feed_67 rfl (rfl) (rfl)
  · rw [if_neg hP, if_neg hP]
    have eL : nI L + 20 = nI (L + 20) := nI_add L 20
    refine gf_aload_n 0 dX11_feed_0 rfl rfl ?_
    refine gf_getR flX11_26 rfl dX11_feed_1 (gt_0 hG) (gp_0_2 hG) ?_
    refine gf_getI flX11_97 rfl dX11_feed_4 (gt_150 hG) ?_
    rw [hL]
    refine gf_bipush (20) dX11_feed_7 rfl ?_
    refine gf_iadd dX11_feed_9 ?_
    rw [eL]
    refine gf_sipush (600) dX11_feed_10 rfl ?_
    refine gf_icmp_le 18 dX11_feed_13 rfl (fun q => absurd q (nI_ge (a := 600) (by omega) (by omega))) (fun _ => ?_)
    refine gf_iconst (-1) dX11_feed_16 rfl ?_
    exact gf_iretE dX11_feed_17 rfl (rfl) (rfl)
