/-! ===== the class: what is told of a fire, of all, the CELLS told ===== -/
theorem e_X5_tellHouse (E : gE) {d : Nat} (hd : 0 ≤ d) {c : Nat} (t : Int32) (h : hp_T) (hG : gr h) (hc : c < 120) : ev E mX5_tellHouse d [.ref (E.1 + 174), .int (nI c), .int t] h (some (.int (if t = 0 then hp_i h 177 c else if t = 1 then hp_i h 178 c else if t = 2 then hp_i h 179 c else if t = 3 then hp_i h 180 c else if t = 4 then hp_i h 176 c else if t = 5 then hp_i h 181 c else -1))) h := by
  refine ev_of rfl (fun q => absurd q (by decide)) (Nat.le_of_ble_eq_true rfl) ?_
  refine gf_iload_n 2 dX5_tellHouse_0 rfl rfl ?_
  by_cases zs1_0 : t = 0
  · refine gf_tableIn 40 dX5_tellHouse_1 (by rw [zs1_0]; decide) (by rw [zs1_0]; decide) (by rw [zs1_0]; rfl) rfl ?_
    refine gf_aload_n 0 dX5_tellHouse_40 rfl rfl ?_
    refine gf_getR flX5_19 rfl dX5_tellHouse_41 (gt_174 hG) (gp_174_7 hG) ?_
    refine gf_iload_n 1 dX5_tellHouse_44 rfl rfl ?_
    refine gf_iald 120 dX5_tellHouse_45 (gt_177 hG) (gl_177 hG) rfl (by omega) (by decide) ?_
    exact gf_iretE dX5_tellHouse_46 rfl ((if_pos zs1_0).symm) (rfl)
  by_cases zs1_1 : t = 1
  · refine gf_tableIn 47 dX5_tellHouse_1 (by rw [zs1_1]; decide) (by rw [zs1_1]; decide) (by rw [zs1_1]; rfl) rfl ?_
    refine gf_aload_n 0 dX5_tellHouse_47 rfl rfl ?_
    refine gf_getR flX5_22 rfl dX5_tellHouse_48 (gt_174 hG) (gp_174_8 hG) ?_
    refine gf_iload_n 1 dX5_tellHouse_51 rfl rfl ?_
    refine gf_iald 120 dX5_tellHouse_52 (gt_178 hG) (gl_178 hG) rfl (by omega) (by decide) ?_
    exact gf_iretE dX5_tellHouse_53 rfl (((if_neg zs1_0).trans (if_pos zs1_1)).symm) (rfl)
  by_cases zs1_2 : t = 2
  · refine gf_tableIn 54 dX5_tellHouse_1 (by rw [zs1_2]; decide) (by rw [zs1_2]; decide) (by rw [zs1_2]; rfl) rfl ?_
    refine gf_aload_n 0 dX5_tellHouse_54 rfl rfl ?_
    refine gf_getR flX5_25 rfl dX5_tellHouse_55 (gt_174 hG) (gp_174_9 hG) ?_
    refine gf_iload_n 1 dX5_tellHouse_58 rfl rfl ?_
    refine gf_iald 120 dX5_tellHouse_59 (gt_179 hG) (gl_179 hG) rfl (by omega) (by decide) ?_
    exact gf_iretE dX5_tellHouse_60 rfl (((if_neg zs1_0).trans ((if_neg zs1_1).trans (if_pos zs1_2))).symm) (rfl)
  by_cases zs1_3 : t = 3
  · refine gf_tableIn 61 dX5_tellHouse_1 (by rw [zs1_3]; decide) (by rw [zs1_3]; decide) (by rw [zs1_3]; rfl) rfl ?_
    refine gf_aload_n 0 dX5_tellHouse_61 rfl rfl ?_
    refine gf_getR flX5_28 rfl dX5_tellHouse_62 (gt_174 hG) (gp_174_10 hG) ?_
    refine gf_iload_n 1 dX5_tellHouse_65 rfl rfl ?_
    refine gf_iald 120 dX5_tellHouse_66 (gt_180 hG) (gl_180 hG) rfl (by omega) (by decide) ?_
    exact gf_iretE dX5_tellHouse_67 rfl (((if_neg zs1_0).trans ((if_neg zs1_1).trans ((if_neg zs1_2).trans (if_pos zs1_3)))).symm) (rfl)
  by_cases zs1_4 : t = 4
  · refine gf_tableIn 68 dX5_tellHouse_1 (by rw [zs1_4]; decide) (by rw [zs1_4]; decide) (by rw [zs1_4]; rfl) rfl ?_
    refine gf_aload_n 0 dX5_tellHouse_68 rfl rfl ?_
    refine gf_getR flX5_15 rfl dX5_tellHouse_69 (gt_174 hG) (gp_174_4 hG) ?_
    refine gf_iload_n 1 dX5_tellHouse_72 rfl rfl ?_
    refine gf_iald 120 dX5_tellHouse_73 (gt_176 hG) (gl_176 hG) rfl (by omega) (by decide) ?_
    exact gf_iretE dX5_tellHouse_74 rfl (((if_neg zs1_0).trans ((if_neg zs1_1).trans ((if_neg zs1_2).trans ((if_neg zs1_3).trans (if_pos zs1_4))))).symm) (rfl)
  by_cases zs1_5 : t = 5
  · refine gf_tableIn 75 dX5_tellHouse_1 (by rw [zs1_5]; decide) (by rw [zs1_5]; decide) (by rw [zs1_5]; rfl) rfl ?_
    refine gf_aload_n 0 dX5_tellHouse_75 rfl rfl ?_
    refine gf_getR flX5_31 rfl dX5_tellHouse_76 (gt_174 hG) (gp_174_11 hG) ?_
    refine gf_iload_n 1 dX5_tellHouse_79 rfl rfl ?_
    refine gf_iald 120 dX5_tellHouse_80 (gt_181 hG) (gl_181 hG) rfl (by omega) (by decide) ?_
    exact gf_iretE dX5_tellHouse_81 rfl (((if_neg zs1_0).trans ((if_neg zs1_1).trans ((if_neg zs1_2).trans ((if_neg zs1_3).trans ((if_neg zs1_4).trans (if_pos zs1_5)))))).symm) (rfl)
  refine gf_tableOut 82 dX5_tellHouse_1 (by have y0 : ¬ (t).toInt = 0 := fun z => zs1_0 ((fa_eq _ _).mpr z); have y1 : ¬ (t).toInt = 1 := fun z => zs1_1 ((fa_eq _ _).mpr z); have y2 : ¬ (t).toInt = 2 := fun z => zs1_2 ((fa_eq _ _).mpr z); have y3 : ¬ (t).toInt = 3 := fun z => zs1_3 ((fa_eq _ _).mpr z); have y4 : ¬ (t).toInt = 4 := fun z => zs1_4 ((fa_eq _ _).mpr z); have y5 : ¬ (t).toInt = 5 := fun z => zs1_5 ((fa_eq _ _).mpr z); omega) rfl ?_
  refine gf_iconst (-1) dX5_tellHouse_82 rfl ?_
  exact gf_iretE dX5_tellHouse_83 rfl (((if_neg zs1_0).trans ((if_neg zs1_1).trans ((if_neg zs1_2).trans ((if_neg zs1_3).trans ((if_neg zs1_4).trans (if_neg zs1_5)))))).symm) (rfl)
theorem e_X5_tellEngine (E : gE) {d : Nat} (hd : 0 ≤ d) {c : Nat} (t : Int32) (h : hp_T) (hG : gr h) (hc : c < 12) : ev E mX5_tellEngine d [.ref (E.1 + 174), .int (nI c), .int t] h (some (.int (if t = 0 then hp_i h 183 c else if t = 1 then hp_i h 184 c else if t = 2 then hp_i h 185 c else -1))) h := by
  refine ev_of rfl (fun q => absurd q (by decide)) (Nat.le_of_ble_eq_true rfl) ?_
  refine gf_iload_n 2 dX5_tellEngine_0 rfl rfl ?_
  by_cases zs1_0 : t = 0
  · refine gf_tableIn 28 dX5_tellEngine_1 (by rw [zs1_0]; decide) (by rw [zs1_0]; decide) (by rw [zs1_0]; rfl) rfl ?_
    refine gf_aload_n 0 dX5_tellEngine_28 rfl rfl ?_
    refine gf_getR flX5_37 rfl dX5_tellEngine_29 (gt_174 hG) (gp_174_13 hG) ?_
    refine gf_iload_n 1 dX5_tellEngine_32 rfl rfl ?_
    refine gf_iald 12 dX5_tellEngine_33 (gt_183 hG) (gl_183 hG) rfl (by omega) (by decide) ?_
    exact gf_iretE dX5_tellEngine_34 rfl ((if_pos zs1_0).symm) (rfl)
  by_cases zs1_1 : t = 1
  · refine gf_tableIn 35 dX5_tellEngine_1 (by rw [zs1_1]; decide) (by rw [zs1_1]; decide) (by rw [zs1_1]; rfl) rfl ?_
    refine gf_aload_n 0 dX5_tellEngine_35 rfl rfl ?_
    refine gf_getR flX5_40 rfl dX5_tellEngine_36 (gt_174 hG) (gp_174_14 hG) ?_
    refine gf_iload_n 1 dX5_tellEngine_39 rfl rfl ?_
    refine gf_iald 12 dX5_tellEngine_40 (gt_184 hG) (gl_184 hG) rfl (by omega) (by decide) ?_
    exact gf_iretE dX5_tellEngine_41 rfl (((if_neg zs1_0).trans (if_pos zs1_1)).symm) (rfl)
  by_cases zs1_2 : t = 2
  · refine gf_tableIn 42 dX5_tellEngine_1 (by rw [zs1_2]; decide) (by rw [zs1_2]; decide) (by rw [zs1_2]; rfl) rfl ?_
    refine gf_aload_n 0 dX5_tellEngine_42 rfl rfl ?_
    refine gf_getR flX5_43 rfl dX5_tellEngine_43 (gt_174 hG) (gp_174_15 hG) ?_
    refine gf_iload_n 1 dX5_tellEngine_46 rfl rfl ?_
    refine gf_iald 12 dX5_tellEngine_47 (gt_185 hG) (gl_185 hG) rfl (by omega) (by decide) ?_
    exact gf_iretE dX5_tellEngine_48 rfl (((if_neg zs1_0).trans ((if_neg zs1_1).trans (if_pos zs1_2))).symm) (rfl)
  refine gf_tableOut 49 dX5_tellEngine_1 (by have y0 : ¬ (t).toInt = 0 := fun z => zs1_0 ((fa_eq _ _).mpr z); have y1 : ¬ (t).toInt = 1 := fun z => zs1_1 ((fa_eq _ _).mpr z); have y2 : ¬ (t).toInt = 2 := fun z => zs1_2 ((fa_eq _ _).mpr z); omega) rfl ?_
  refine gf_iconst (-1) dX5_tellEngine_49 rfl ?_
  exact gf_iretE dX5_tellEngine_50 rfl (((if_neg zs1_0).trans ((if_neg zs1_1).trans (if_neg zs1_2))).symm) (rfl)
theorem l_X8_isTold (E : gE) {d : Nat} {p : Nat} (c : Int32) (h : hp_T) (hG : gr h) (hp : hp_i h 243 0 = nI p) (hp8 : p ≤ 8) : ∀ (kz jz : Nat), jz + kz = p → (∀ i, i < jz → (fun k => decide (hp_i h 244 k = c)) i = false) → gf E mX8_isTold d 2 [(0, .ref (E.1 + 243)), (1, .int c), (2, .int (nI jz))] [] h (some (.int (zb (anyb (fun k => decide (hp_i h 244 k = c)) p = true)))) h := by
  intro kz
  induction kz with
  | zero =>
    intro jz hj hq
    have hj : p = jz := by omega
    subst hj
    refine gf_iload_n 2 dX8_isTold_2 rfl rfl ?_
    refine gf_aload_n 0 dX8_isTold_3 rfl rfl ?_
    refine gf_getI flX8_29 rfl dX8_isTold_4 (gt_243 hG) ?_
    refine gf_icmp_ge 28 dX8_isTold_7 rfl (fun _ => ?_) (fun q => absurd (by rw [hp]; exact nI_le (Nat.le_refl _) (by omega)) q)
    refine gf_iconst (0) dX8_isTold_28 rfl ?_
    exact gf_zretE dX8_isTold_29 rfl (rfl) ((zb_f (by rw [anyb_no hq]; decide)).symm) (rfl)
  | succ kz ih =>
    intro jz hj hq
    refine gf_iload_n 2 dX8_isTold_2 rfl rfl ?_
    refine gf_aload_n 0 dX8_isTold_3 rfl rfl ?_
    refine gf_getI flX8_29 rfl dX8_isTold_4 (gt_243 hG) ?_
    refine gf_icmp_ge 28 dX8_isTold_7 rfl (fun q => absurd q (by rw [hp]; exact nI_ge (by omega) (by omega))) (fun _ => ?_)
    refine gf_aload_n 0 dX8_isTold_10 rfl rfl ?_
    refine gf_getR flX8_9 rfl dX8_isTold_11 (gt_243 hG) (gp_243_2 hG) ?_
    refine gf_iload_n 2 dX8_isTold_14 rfl rfl ?_
    refine gf_iald 8 dX8_isTold_15 (gt_244 hG) (gl_244 hG) rfl (by omega) (by decide) ?_
    refine gf_iload_n 1 dX8_isTold_16 rfl rfl ?_
    refine gf_icmp_ne 22 dX8_isTold_17 rfl (fun zc17 => ?_) (fun zc17 => ?_)
    · refine gf_iinc (1) dX8_isTold_22 rfl rfl (Nat.le_of_ble_eq_true rfl) ?_
      refine gf_goto 2 dX8_isTold_25 rfl ?_
      exact gf_lw (ih (jz + 1) (by omega) (fun i hi => by rcases Nat.lt_succ_iff_lt_or_eq.mp hi with q | q; exact hq i q; exact (by rw [q]; exact decide_eq_false zc17))) ⟨rfl, rfl, lvE (nI_1 jz), trivial⟩
    · refine gf_iconst (1) dX8_isTold_20 rfl ?_
      exact gf_zretE dX8_isTold_21 rfl (rfl) ((zb_t (anyb_in (k := jz) (by omega) (decide_eq_true zc17))).symm) (rfl)
theorem e_X8_isTold (E : gE) {d : Nat} (hd : 0 ≤ d) {p : Nat} (c : Int32) (h : hp_T) (hG : gr h) (hp : hp_i h 243 0 = nI p) (hp8 : p ≤ 8) : ev E mX8_isTold d [.ref (E.1 + 243), .int c] h (some (.int (zb (anyb (fun k => decide (hp_i h 244 k = c)) p = true)))) h := by
  refine ev_of rfl (fun q => absurd q (by decide)) (Nat.le_of_ble_eq_true rfl) ?_
  refine gf_iconst (0) dX8_isTold_0 rfl ?_
  refine gf_istore_n 2 dX8_isTold_1 rfl (Nat.le_of_ble_eq_true rfl) ?_
  exact l_X8_isTold E c h hG hp hp8 p 0 (by omega) (fun i hi => absurd hi (Nat.not_lt_zero i))
theorem e_X11_all (E : gE) {d : Nat} (hd : 1 ≤ d) (t : Int32) (h : hp_T) (hG : gr h) {w g : Nat} (C : cty (hp_i h) w g) : ev E mX11_all d [.ref (E.1 + 0), .int t] h (some (.int (if t = 0 then (hp_i h 1 2) else if t = 1 then (nI (fa_cnt (mk (hp_i h 2)) (w * g))) else if t = 2 then (hp_i h 145 0) else if t = 3 then (hp_i h 158 0) else if t = 4 then (if hp_i h 158 1 = -1 then hp_i h 158 0 else hp_i h 158 1) else if t = 5 then (hp_i h 243 0) else if t = 6 then (nI (fa_cnt (mk (hp_i h 6)) (w * g))) else -1))) h := by
  refine ev_of rfl (fun q => absurd q (by decide)) (Nat.le_of_ble_eq_true rfl) ?_
  refine gf_iload_n 1 dX11_all_0 rfl rfl ?_
  by_cases zs1_0 : t = 0
  · refine gf_tableIn 44 dX11_all_1 (by rw [zs1_0]; decide) (by rw [zs1_0]; decide) (by rw [zs1_0]; rfl) rfl ?_
    refine gf_aload_n 0 dX11_all_44 rfl rfl ?_
    refine gf_getR flX11_10 rfl dX11_all_45 (gt_0 hG) (gp_0_0 hG) ?_
    refine gf_getI flX11_302 rfl dX11_all_48 (gt_1 hG) ?_
    exact gf_iretE dX11_all_51 rfl ((if_pos zs1_0).symm) (rfl)
  by_cases zs1_1 : t = 1
  · refine gf_tableIn 52 dX11_all_1 (by rw [zs1_1]; decide) (by rw [zs1_1]; decide) (by rw [zs1_1]; rfl) rfl ?_
    refine gf_aload_n 0 dX11_all_52 rfl rfl ?_
    refine gf_getR flX11_10 rfl dX11_all_53 (gt_0 hG) (gp_0_0 hG) ?_
    refine gf_aload_n 0 dX11_all_56 rfl rfl ?_
    refine gf_getR flX11_10 rfl dX11_all_57 (gt_0 hG) (gp_0_0 hG) ?_
    refine gf_getR flX11_305 rfl dX11_all_60 (gt_1 hG) (gp_1_3 hG) ?_
    refine gf_callV cmX1_many lkX11_330 imX1_many seX1_many ⟨rfl, by decide⟩ dX11_all_63 (d1 := d - 1) (by omega) (gt_1 hG) (e_X1_many E (by omega) (m := 2) h hG ⟨gt_2 hG, gl_2 hG⟩ C) rfl rfl (Nat.le_of_ble_eq_true rfl) ?_
    exact gf_iretE dX11_all_66 rfl (((if_neg zs1_0).trans (if_pos zs1_1)).symm) (rfl)
  by_cases zs1_2 : t = 2
  · refine gf_tableIn 67 dX11_all_1 (by rw [zs1_2]; decide) (by rw [zs1_2]; decide) (by rw [zs1_2]; rfl) rfl ?_
    refine gf_aload_n 0 dX11_all_67 rfl rfl ?_
    refine gf_getR flX11_19 rfl dX11_all_68 (gt_0 hG) (gp_0_1 hG) ?_
    refine gf_getI flX11_109 rfl dX11_all_71 (gt_145 hG) ?_
    exact gf_iretE dX11_all_74 rfl (((if_neg zs1_0).trans ((if_neg zs1_1).trans (if_pos zs1_2))).symm) (rfl)
  by_cases zs1_3 : t = 3
  · refine gf_tableIn 75 dX11_all_1 (by rw [zs1_3]; decide) (by rw [zs1_3]; decide) (by rw [zs1_3]; rfl) rfl ?_
    refine gf_aload_n 0 dX11_all_75 rfl rfl ?_
    refine gf_getR flX11_33 rfl dX11_all_76 (gt_0 hG) (gp_0_3 hG) ?_
    refine gf_getI flX11_193 rfl dX11_all_79 (gt_158 hG) ?_
    exact gf_iretE dX11_all_82 rfl (((if_neg zs1_0).trans ((if_neg zs1_1).trans ((if_neg zs1_2).trans (if_pos zs1_3)))).symm) (rfl)
  by_cases zs1_4 : t = 4
  · refine gf_tableIn 83 dX11_all_1 (by rw [zs1_4]; decide) (by rw [zs1_4]; decide) (by rw [zs1_4]; rfl) rfl ?_
    refine gf_aload_n 0 dX11_all_83 rfl rfl ?_
    refine gf_getR flX11_33 rfl dX11_all_84 (gt_0 hG) (gp_0_3 hG) ?_
    refine gf_callV cmX0_horizon lkX11_211 imX0_horizon seX0_horizon ⟨rfl, by decide⟩ dX11_all_87 (d1 := d - 1) (by omega) (gt_158 hG) (e_X0_horizon E (by omega) h hG) rfl rfl (Nat.le_of_ble_eq_true rfl) ?_
    exact gf_iretE dX11_all_90 rfl (((if_neg zs1_0).trans ((if_neg zs1_1).trans ((if_neg zs1_2).trans ((if_neg zs1_3).trans (if_pos zs1_4))))).symm) (rfl)
  by_cases zs1_5 : t = 5
  · refine gf_tableIn 91 dX11_all_1 (by rw [zs1_5]; decide) (by rw [zs1_5]; decide) (by rw [zs1_5]; rfl) rfl ?_
    refine gf_aload_n 0 dX11_all_91 rfl rfl ?_
    refine gf_getR flX11_89 rfl dX11_all_92 (gt_0 hG) (gp_0_11 hG) ?_
    refine gf_getI flX11_311 rfl dX11_all_95 (gt_243 hG) ?_
    exact gf_iretE dX11_all_98 rfl (((if_neg zs1_0).trans ((if_neg zs1_1).trans ((if_neg zs1_2).trans ((if_neg zs1_3).trans ((if_neg zs1_4).trans (if_pos zs1_5)))))).symm) (rfl)
  by_cases zs1_6 : t = 6
  · refine gf_tableIn 99 dX11_all_1 (by rw [zs1_6]; decide) (by rw [zs1_6]; decide) (by rw [zs1_6]; rfl) rfl ?_
    refine gf_aload_n 0 dX11_all_99 rfl rfl ?_
    refine gf_getR flX11_10 rfl dX11_all_100 (gt_0 hG) (gp_0_0 hG) ?_
    refine gf_aload_n 0 dX11_all_103 rfl rfl ?_
    refine gf_getR flX11_10 rfl dX11_all_104 (gt_0 hG) (gp_0_0 hG) ?_
    refine gf_getR flX11_132 rfl dX11_all_107 (gt_1 hG) (gp_1_7 hG) ?_
    refine gf_callV cmX1_many lkX11_330 imX1_many seX1_many ⟨rfl, by decide⟩ dX11_all_110 (d1 := d - 1) (by omega) (gt_1 hG) (e_X1_many E (by omega) (m := 6) h hG ⟨gt_6 hG, gl_6 hG⟩ C) rfl rfl (Nat.le_of_ble_eq_true rfl) ?_
    exact gf_iretE dX11_all_113 rfl (((if_neg zs1_0).trans ((if_neg zs1_1).trans ((if_neg zs1_2).trans ((if_neg zs1_3).trans ((if_neg zs1_4).trans ((if_neg zs1_5).trans (if_pos zs1_6))))))).symm) (rfl)
  refine gf_tableOut 114 dX11_all_1 (by have y0 : ¬ (t).toInt = 0 := fun z => zs1_0 ((fa_eq _ _).mpr z); have y1 : ¬ (t).toInt = 1 := fun z => zs1_1 ((fa_eq _ _).mpr z); have y2 : ¬ (t).toInt = 2 := fun z => zs1_2 ((fa_eq _ _).mpr z); have y3 : ¬ (t).toInt = 3 := fun z => zs1_3 ((fa_eq _ _).mpr z); have y4 : ¬ (t).toInt = 4 := fun z => zs1_4 ((fa_eq _ _).mpr z); have y5 : ¬ (t).toInt = 5 := fun z => zs1_5 ((fa_eq _ _).mpr z); have y6 : ¬ (t).toInt = 6 := fun z => zs1_6 ((fa_eq _ _).mpr z); omega) rfl ?_
  refine gf_iconst (-1) dX11_all_114 rfl ?_
  exact gf_iretE dX11_all_115 rfl (((if_neg zs1_0).trans ((if_neg zs1_1).trans ((if_neg zs1_2).trans ((if_neg zs1_3).trans ((if_neg zs1_4).trans ((if_neg zs1_5).trans (if_neg zs1_6))))))).symm) (rfl)
theorem e_X11_burnt (E : gE) {d : Nat} (hd : 1 ≤ d) (c t : Int32) (h : hp_T) (hG : gr h) {w g : Nat} (C : cty (hp_i h) w g) : ev E mX11_burnt d [.ref (E.1 + 0), .int c, .int t] h (some (.int (if ¬ hp_i h 174 0 = 0 ∧ (0 ≤ c ∧ c < hp_i h 1 2) ∧ ¬ hp_i h 175 c.toNatClampNeg = 0 then (if t = 0 then hp_i h 177 c.toNatClampNeg else if t = 1 then hp_i h 178 c.toNatClampNeg else if t = 2 then hp_i h 179 c.toNatClampNeg else if t = 3 then hp_i h 180 c.toNatClampNeg else if t = 4 then hp_i h 176 c.toNatClampNeg else if t = 5 then hp_i h 181 c.toNatClampNeg else -1) else -1))) h := by
  refine ev_of rfl (fun q => absurd q (by decide)) (Nat.le_of_ble_eq_true rfl) ?_
  refine gf_aload_n 0 dX11_burnt_0 rfl rfl ?_
  refine gf_getR flX11_58 rfl dX11_burnt_1 (gt_0 hG) (gp_0_6 hG) ?_
  refine gf_getI flX11_115 rfl dX11_burnt_4 (gt_174 hG) ?_
  refine gf_if_eq 33 dX11_burnt_7 rfl (fun zc7 => ?_) (fun zc7 => ?_)
  · refine gf_iconst (-1) dX11_burnt_33 rfl ?_
    exact gf_iretE dX11_burnt_34 rfl ((if_neg (fun q => q.1 zc7)).symm) (rfl)
  · refine gf_aload_n 0 dX11_burnt_10 rfl rfl ?_
    refine gf_getR flX11_10 rfl dX11_burnt_11 (gt_0 hG) (gp_0_0 hG) ?_
    refine gf_iload_n 1 dX11_burnt_14 rfl rfl ?_
    refine gf_callV cmX1_has lkX11_120 imX1_has seX1_has ⟨rfl, by decide⟩ dX11_burnt_15 (d1 := d - 1) (by omega) (gt_1 hG) (e_X1_has E (by omega) c h hG) rfl rfl (Nat.le_of_ble_eq_true rfl) ?_
    refine gf_if_eq 33 dX11_burnt_18 rfl (fun zc18 => ?_) (fun zc18 => ?_)
    · refine gf_iconst (-1) dX11_burnt_33 rfl ?_
      exact gf_iretE dX11_burnt_34 rfl ((if_neg (fun q => zb_0.mp zc18 q.2.1)).symm) (rfl)
    · refine gf_aload_n 0 dX11_burnt_21 rfl rfl ?_
      refine gf_getR flX11_58 rfl dX11_burnt_22 (gt_0 hG) (gp_0_6 hG) ?_
      refine gf_getR flX11_261 rfl dX11_burnt_25 (gt_174 hG) (gp_174_3 hG) ?_
      refine gf_iload_n 1 dX11_burnt_28 rfl rfl ?_
      refine gf_zald 120 dX11_burnt_29 (gt_175 hG) (gl_175 hG) (ix_nI (by have q := zb_1.mp zc18; have q0 : 0 ≤ c.toInt := (by have q1 := q.1; simp only [fa_le, ti_0] at q1; exact q1); exact q0)) (ix_lt (by have q := zb_1.mp zc18; have q0 : 0 ≤ c.toInt := (by have q1 := q.1; simp only [fa_le, ti_0] at q1; exact q1); exact q0) (by have q := (zb_1.mp zc18).2; have e2 := ti_nI (n := w * g) (by have := (cty_n C).2; omega); have e3 := (cty_n C).2; rw [C.2.2.2.1, fa_lt, e2] at q; omega)) (by decide) ?_
      refine gf_if_ne 35 dX11_burnt_30 rfl (fun zc30 => ?_) (fun zc30 => ?_)
      · refine gf_aload_n 0 dX11_burnt_35 rfl rfl ?_
        refine gf_getR flX11_58 rfl dX11_burnt_36 (gt_0 hG) (gp_0_6 hG) ?_
        refine gf_iload_n 1 dX11_burnt_39 rfl rfl ?_
        refine gf_iload_n 2 dX11_burnt_40 rfl rfl ?_
        have hce : c = nI c.toNatClampNeg := ix_nI (by have q := zb_1.mp zc18; have q0 : 0 ≤ c.toInt := (by have q1 := q.1; simp only [fa_le, ti_0] at q1; exact q1); exact q0)
        have hlt : c.toNatClampNeg < 120 := ix_lt (by have q := zb_1.mp zc18; have q0 : 0 ≤ c.toInt := (by have q1 := q.1; simp only [fa_le, ti_0] at q1; exact q1); exact q0) (by have q := (zb_1.mp zc18).2; have e2 := ti_nI (n := w * g) (by have := (cty_n C).2; omega); have e3 := (cty_n C).2; rw [C.2.2.2.1, fa_lt, e2] at q; omega)
        refine gf_callV cmX5_tellHouse lkX11_264 imX5_tellHouse seX5_tellHouse ⟨rfl, by decide⟩ dX11_burnt_41 (d1 := d - 1) (by omega) (gt_174 hG) (ev_aE (aw := [.ref (E.1 + 174), .int c, .int t]) (by rw [← hce]) (e_X5_tellHouse E (by omega) (c := c.toNatClampNeg) t h hG hlt)) rfl rfl (Nat.le_of_ble_eq_true rfl) ?_
        exact gf_iretE dX11_burnt_44 rfl ((if_pos ⟨zc7, zb_1.mp zc18, zc30⟩).symm) (rfl)
      · refine gf_iconst (-1) dX11_burnt_33 rfl ?_
        exact gf_iretE dX11_burnt_34 rfl ((if_neg (fun q => q.2.2 zc30)).symm) (rfl)
theorem e_X11_came (E : gE) {d : Nat} (hd : 1 ≤ d) (c t : Int32) {m : Nat} (h : hp_T) (hG : gr h) (hm : hp_i h 174 1 = nI m) (hm12 : m ≤ 12) : ev E mX11_came d [.ref (E.1 + 0), .int c, .int t] h (some (.int (if ¬ hp_i h 174 0 = 0 ∧ (0 ≤ c ∧ c ≤ hp_i h 174 1 - 1) then (if t = 0 then hp_i h 183 c.toNatClampNeg else if t = 1 then hp_i h 184 c.toNatClampNeg else if t = 2 then hp_i h 185 c.toNatClampNeg else -1) else -1))) h := by
  refine ev_of rfl (fun q => absurd q (by decide)) (Nat.le_of_ble_eq_true rfl) ?_
  refine gf_aload_n 0 dX11_came_0 rfl rfl ?_
  refine gf_getR flX11_58 rfl dX11_came_1 (gt_0 hG) (gp_0_6 hG) ?_
  refine gf_getI flX11_115 rfl dX11_came_4 (gt_174 hG) ?_
  refine gf_if_eq 27 dX11_came_7 rfl (fun zc7 => ?_) (fun zc7 => ?_)
  · refine gf_iconst (-1) dX11_came_27 rfl ?_
    exact gf_iretE dX11_came_28 rfl ((if_neg (fun q => q.1 zc7)).symm) (rfl)
  · refine gf_iload_n 1 dX11_came_10 rfl rfl ?_
    refine gf_iconst (0) dX11_came_11 rfl ?_
    refine gf_aload_n 0 dX11_came_12 rfl rfl ?_
    refine gf_getR flX11_58 rfl dX11_came_13 (gt_0 hG) (gp_0_6 hG) ?_
    refine gf_getI flX11_268 rfl dX11_came_16 (gt_174 hG) ?_
    refine gf_iconst (1) dX11_came_19 rfl ?_
    refine gf_isub dX11_came_20 ?_
    refine gf_callS cmX11_within lkX11_105 stX11_within dX11_came_21 (d1 := d - 1) (by omega) (e_X11_within E (by omega) _ _ _ h) rfl rfl (Nat.le_of_ble_eq_true rfl) ?_
    refine gf_if_ne 29 dX11_came_24 rfl (fun zc24 => ?_) (fun zc24 => ?_)
    · refine gf_aload_n 0 dX11_came_29 rfl rfl ?_
      refine gf_getR flX11_58 rfl dX11_came_30 (gt_0 hG) (gp_0_6 hG) ?_
      refine gf_iload_n 1 dX11_came_33 rfl rfl ?_
      refine gf_iload_n 2 dX11_came_34 rfl rfl ?_
      have q := zb_1.mp zc24
      have q0 : 0 ≤ c.toInt := by have q1 := q.1; simp only [fa_le, ti_0] at q1; exact q1
      have hce : c = nI c.toNatClampNeg := ix_nI q0
      have hlt : c.toNatClampNeg < 12 := ix_lt q0 (by have q2 := q.2; rw [hm, fa_le] at q2; have e9 : (nI m - 1).toInt = (m : Int) - 1 := pk_sub_toInt (b := 1) (by omega) (by decide); omega)
      refine gf_callV cmX5_tellEngine lkX11_271 imX5_tellEngine seX5_tellEngine ⟨rfl, by decide⟩ dX11_came_35 (d1 := d - 1) (by omega) (gt_174 hG) (ev_aE (aw := [.ref (E.1 + 174), .int c, .int t]) (by rw [← hce]) (e_X5_tellEngine E (by omega) (c := c.toNatClampNeg) t h hG hlt)) rfl rfl (Nat.le_of_ble_eq_true rfl) ?_
      exact gf_iretE dX11_came_38 rfl ((if_pos ⟨zc7, zb_1.mp zc24⟩).symm) (rfl)
    · refine gf_iconst (-1) dX11_came_27 rfl ?_
      exact gf_iretE dX11_came_28 rfl ((if_neg (fun q => zb_0.mp zc24 q.2)).symm) (rfl)
