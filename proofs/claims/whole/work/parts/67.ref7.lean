/-! ===== the reference: policy, annul, house, wind, engine, deal ===== -/
theorem isIn_l {A B : Int64} {x a b : Int32} (hA : A = a.toInt64) (hB : B = b.toInt64) : (A ≤ x.toInt64 ∧ x.toInt64 ≤ B) ↔ (a ≤ x ∧ x ≤ b) := by
  rw [hA, hB]
  exact isIn_w x a b
def macT (M : mM) (n : Nat) (k o c v : Int32) : mM := up2 (up2 (up2 (up2 (up2 (up2 M 0 62 (nI (n + 1))) 47 (n + 1) k) 48 (n + 1) o) 49 (n + 1) c) 50 (n + 1) v) 51 (n + 1) 0
theorem e_X12_act (E : gE) {d : Nat} (hd : 0 ≤ d) {n : Nat} (k o c v : Int32) (h : hp_T) (hG : gr h) (M : mM) (N : mN) (hN : M 0 62 = nI n) (hn : n < 200) : ev E mX12_act d [.ref (E.1 + 247), .int k, .int o, .int c, .int v] (hm h M N) (some (.int (nI (n + 1)))) (hm h (macT M n k o c v) N) := by
  refine ev_of rfl (fun q => absurd q (by decide)) (Nat.le_of_ble_eq_true rfl) ?_
  refine gf_aload_n 0 dX12_act_0 rfl rfl ?_
  refine gf_dup dX12_act_1 rfl ?_
  refine gf_getI flX12_424 rfl dX12_act_2 (gt_247 hG) ?_
  rw [show hp_i (hm h M N) 247 62 = nI n from hN]
  refine gf_iconst (1) dX12_act_5 rfl ?_
  refine gf_iadd dX12_act_6 ?_
  refine gf_putI flX12_424 rfl rfl dX12_act_7 (gt_247 hG) ⟨rfl, rfl⟩ ?_
  rw [nI_1, mI_0]
  refine gf_aload_n 0 dX12_act_10 rfl rfl ?_
  refine gf_getR flX12_161 rfl dX12_act_11 (gt_247 hG) (gp_247_63 hG) ?_
  refine gf_aload_n 0 dX12_act_14 rfl rfl ?_
  refine gf_getI flX12_424 rfl dX12_act_15 (gt_247 hG) ?_
  rw [show hp_i (hm h (up2 M 0 62 (nI (n + 1))) N) 247 62 = nI (n + 1) from up2_s M 0 62 (nI (n + 1))]
  refine gf_iload_n 1 dX12_act_18 rfl rfl ?_
  refine gf_iast 201 dX12_act_19 (gt_294 hG) (gl_294 hG) rfl (by omega) (by decide) ?_
  rw [mI_47]
  refine gf_aload_n 0 dX12_act_20 rfl rfl ?_
  refine gf_getR flX12_164 rfl dX12_act_21 (gt_247 hG) (gp_247_64 hG) ?_
  refine gf_aload_n 0 dX12_act_24 rfl rfl ?_
  refine gf_getI flX12_424 rfl dX12_act_25 (gt_247 hG) ?_
  rw [show hp_i (hm h (up2 (up2 M 0 62 (nI (n + 1))) 47 (n + 1) k) N) 247 62 = nI (n + 1) from up2_s M 0 62 (nI (n + 1))]
  refine gf_iload_n 2 dX12_act_28 rfl rfl ?_
  refine gf_iast 201 dX12_act_29 (gt_295 hG) (gl_295 hG) rfl (by omega) (by decide) ?_
  rw [mI_48]
  refine gf_aload_n 0 dX12_act_30 rfl rfl ?_
  refine gf_getR flX12_167 rfl dX12_act_31 (gt_247 hG) (gp_247_65 hG) ?_
  refine gf_aload_n 0 dX12_act_34 rfl rfl ?_
  refine gf_getI flX12_424 rfl dX12_act_35 (gt_247 hG) ?_
  rw [show hp_i (hm h (up2 (up2 (up2 M 0 62 (nI (n + 1))) 47 (n + 1) k) 48 (n + 1) o) N) 247 62 = nI (n + 1) from up2_s M 0 62 (nI (n + 1))]
  refine gf_iload_n 3 dX12_act_38 rfl rfl ?_
  refine gf_iast 201 dX12_act_39 (gt_296 hG) (gl_296 hG) rfl (by omega) (by decide) ?_
  rw [mI_49]
  refine gf_aload_n 0 dX12_act_40 rfl rfl ?_
  refine gf_getR flX12_170 rfl dX12_act_41 (gt_247 hG) (gp_247_66 hG) ?_
  refine gf_aload_n 0 dX12_act_44 rfl rfl ?_
  refine gf_getI flX12_424 rfl dX12_act_45 (gt_247 hG) ?_
  rw [show hp_i (hm h (up2 (up2 (up2 (up2 M 0 62 (nI (n + 1))) 47 (n + 1) k) 48 (n + 1) o) 49 (n + 1) c) N) 247 62 = nI (n + 1) from up2_s M 0 62 (nI (n + 1))]
  refine gf_iload dX12_act_48 rfl ?_
  refine gf_iast 201 dX12_act_50 (gt_297 hG) (gl_297 hG) rfl (by omega) (by decide) ?_
  rw [mI_50]
  refine gf_aload_n 0 dX12_act_51 rfl rfl ?_
  refine gf_getR flX12_173 rfl dX12_act_52 (gt_247 hG) (gp_247_67 hG) ?_
  refine gf_aload_n 0 dX12_act_55 rfl rfl ?_
  refine gf_getI flX12_424 rfl dX12_act_56 (gt_247 hG) ?_
  rw [show hp_i (hm h (up2 (up2 (up2 (up2 (up2 M 0 62 (nI (n + 1))) 47 (n + 1) k) 48 (n + 1) o) 49 (n + 1) c) 50 (n + 1) v) N) 247 62 = nI (n + 1) from up2_s M 0 62 (nI (n + 1))]
  refine gf_iconst (0) dX12_act_59 rfl ?_
  refine gf_iast 201 dX12_act_60 (gt_298 hG) (gl_298 hG) rfl (by omega) (by decide) ?_
  rw [mI_51]
  refine gf_aload_n 0 dX12_act_61 rfl rfl ?_
  refine gf_getI flX12_424 rfl dX12_act_62 (gt_247 hG) ?_
  rw [show hp_i (hm h (up2 (up2 (up2 (up2 (up2 (up2 M 0 62 (nI (n + 1))) 47 (n + 1) k) 48 (n + 1) o) 49 (n + 1) c) 50 (n + 1) v) 51 (n + 1) 0) N) 247 62 = nI (n + 1) from up2_s M 0 62 (nI (n + 1))]
  exact gf_iretE dX12_act_65 rfl (rfl) (rfl)
def mstT (M : mM) (e : Nat) (o c a b : Int32) : mM := up2 (up2 (up2 (up2 M 41 e o) 42 e c) 43 e a) 44 e b
theorem e_X12_stands (E : gE) {d : Nat} (hd : 0 ≤ d) {e : Nat} (o c a b : Int32) (h : hp_T) (hG : gr h) (M : mM) (N : mN) (he : e < 12) : ev E mX12_stands d [.ref (E.1 + 247), .int (nI e), .int o, .int c, .int a, .int b] (hm h M N) (none) (hm h (mstT M e o c a b) N) := by
  refine ev_of rfl (fun q => absurd q (by decide)) (Nat.le_of_ble_eq_true rfl) ?_
  refine gf_aload_n 0 dX12_stands_0 rfl rfl ?_
  refine gf_getR flX12_143 rfl dX12_stands_1 (gt_247 hG) (gp_247_55 hG) ?_
  refine gf_iload_n 1 dX12_stands_4 rfl rfl ?_
  refine gf_iload_n 2 dX12_stands_5 rfl rfl ?_
  refine gf_iast 12 dX12_stands_6 (gt_288 hG) (gl_288 hG) rfl he (by decide) ?_
  rw [mI_41]
  refine gf_aload_n 0 dX12_stands_7 rfl rfl ?_
  refine gf_getR flX12_146 rfl dX12_stands_8 (gt_247 hG) (gp_247_56 hG) ?_
  refine gf_iload_n 1 dX12_stands_11 rfl rfl ?_
  refine gf_iload_n 3 dX12_stands_12 rfl rfl ?_
  refine gf_iast 12 dX12_stands_13 (gt_289 hG) (gl_289 hG) rfl he (by decide) ?_
  rw [mI_42]
  refine gf_aload_n 0 dX12_stands_14 rfl rfl ?_
  refine gf_getR flX12_149 rfl dX12_stands_15 (gt_247 hG) (gp_247_57 hG) ?_
  refine gf_iload_n 1 dX12_stands_18 rfl rfl ?_
  refine gf_iload dX12_stands_19 rfl ?_
  refine gf_iast 12 dX12_stands_21 (gt_290 hG) (gl_290 hG) rfl he (by decide) ?_
  rw [mI_43]
  refine gf_aload_n 0 dX12_stands_22 rfl rfl ?_
  refine gf_getR flX12_152 rfl dX12_stands_23 (gt_247 hG) (gp_247_58 hG) ?_
  refine gf_iload_n 1 dX12_stands_26 rfl rfl ?_
  refine gf_iload dX12_stands_27 rfl ?_
  refine gf_iast 12 dX12_stands_29 (gt_291 hG) (gl_291 hG) rfl he (by decide) ?_
  rw [mI_44]
  exact gf_vretE dX12_stands_30 rfl (rfl)
theorem e_X12_wind (E : gE) {d : Nat} (hd : 1 ≤ d) (t y s : Int32) (h : hp_T) (hG : gr h) (M : mM) (N : mN) : ev E mX12_wind d [.ref (E.1 + 247), .int t, .int y, .int s] (hm h M N) (some (.int (if ((1 ≤ t ∧ t ≤ 120) ∧ (0 ≤ y ∧ y ≤ 7) ∧ (0 ≤ s ∧ s ≤ 20)) then 1 else 0))) (if ((1 ≤ t ∧ t ≤ 120) ∧ (0 ≤ y ∧ y ≤ 7) ∧ (0 ≤ s ∧ s ≤ 20)) then (hm h (up2 (up2 (up2 M 39 t.toNatClampNeg 1) 37 t.toNatClampNeg y) 38 t.toNatClampNeg s) N) else (hm h M N)) := by
  refine ev_of rfl (fun q => absurd q (by decide)) (Nat.le_of_ble_eq_true rfl) ?_
  by_cases hP : ((1 ≤ t ∧ t ≤ 120) ∧ (0 ≤ y ∧ y ≤ 7) ∧ (0 ≤ s ∧ s ≤ 20))
  · rw [if_pos hP, if_pos hP]
    obtain ⟨p1, p2, p3⟩ := hP
    refine gf_iload_n 1 dX12_wind_0 rfl rfl ?_
    refine gf_i2l dX12_wind_1 ?_
    refine gf_lconst (1) dX12_wind_2 rfl ?_
    refine gf_ldc2 (120) kcX12_445 dX12_wind_3 ?_
    refine gf_callS cmX12_isIn lkX12_325 stX12_isIn dX12_wind_6 (d1 := d - 1) (by omega) (e_X12_isIn E (by omega) t.toInt64 1 120 _) rfl rfl (Nat.le_of_ble_eq_true rfl) ?_
    refine gf_if_eq 36 dX12_wind_9 rfl (fun q => absurd q (fun q => zb_0.mp q ((isIn_l z64_1 z64_120).mpr p1))) (fun _ => ?_)
    refine gf_iload_n 2 dX12_wind_12 rfl rfl ?_
    refine gf_i2l dX12_wind_13 ?_
    refine gf_lconst (0) dX12_wind_14 rfl ?_
    refine gf_ldc2 (7) kcX12_447 dX12_wind_15 ?_
    refine gf_callS cmX12_isIn lkX12_325 stX12_isIn dX12_wind_18 (d1 := d - 1) (by omega) (e_X12_isIn E (by omega) y.toInt64 0 7 _) rfl rfl (Nat.le_of_ble_eq_true rfl) ?_
    refine gf_if_eq 36 dX12_wind_21 rfl (fun q => absurd q (fun q => zb_0.mp q ((isIn_l z64_0 z64_7).mpr p2))) (fun _ => ?_)
    refine gf_iload_n 3 dX12_wind_24 rfl rfl ?_
    refine gf_i2l dX12_wind_25 ?_
    refine gf_lconst (0) dX12_wind_26 rfl ?_
    refine gf_ldc2 (20) kcX12_449 dX12_wind_27 ?_
    refine gf_callS cmX12_isIn lkX12_325 stX12_isIn dX12_wind_30 (d1 := d - 1) (by omega) (e_X12_isIn E (by omega) s.toInt64 0 20 _) rfl rfl (Nat.le_of_ble_eq_true rfl) ?_
    refine gf_if_ne 38 dX12_wind_33 rfl (fun _ => ?_) (fun q => absurd q (fun q => zb_0.mp q ((isIn_l z64_0 z64_20).mpr p3)))
    refine gf_aload_n 0 dX12_wind_38 rfl rfl ?_
    refine gf_getR flX12_137 rfl dX12_wind_39 (gt_247 hG) (gp_247_52 hG) ?_
    refine gf_iload_n 1 dX12_wind_42 rfl rfl ?_
    refine gf_iconst (1) dX12_wind_43 rfl ?_
    refine gf_zast 121 dX12_wind_44 (gt_286 hG) (gl_286 hG) (ix_nI (by have q := p1.1; rw [fa_le, ti_1] at q; omega)) (ix_lt (by have q := p1.1; rw [fa_le, ti_1] at q; omega) (by have q := p1.2; rw [fa_le, ti_120] at q; omega)) (by decide) rfl ?_
    rw [mI_39]
    refine gf_aload_n 0 dX12_wind_45 rfl rfl ?_
    refine gf_getR flX12_131 rfl dX12_wind_46 (gt_247 hG) (gp_247_50 hG) ?_
    refine gf_iload_n 1 dX12_wind_49 rfl rfl ?_
    refine gf_iload_n 2 dX12_wind_50 rfl rfl ?_
    refine gf_iast 121 dX12_wind_51 (gt_284 hG) (gl_284 hG) (ix_nI (by have q := p1.1; rw [fa_le, ti_1] at q; omega)) (ix_lt (by have q := p1.1; rw [fa_le, ti_1] at q; omega) (by have q := p1.2; rw [fa_le, ti_120] at q; omega)) (by decide) ?_
    rw [mI_37]
    refine gf_aload_n 0 dX12_wind_52 rfl rfl ?_
    refine gf_getR flX12_134 rfl dX12_wind_53 (gt_247 hG) (gp_247_51 hG) ?_
    refine gf_iload_n 1 dX12_wind_56 rfl rfl ?_
    refine gf_iload_n 3 dX12_wind_57 rfl rfl ?_
    refine gf_iast 121 dX12_wind_58 (gt_285 hG) (gl_285 hG) (ix_nI (by have q := p1.1; rw [fa_le, ti_1] at q; omega)) (ix_lt (by have q := p1.1; rw [fa_le, ti_1] at q; omega) (by have q := p1.2; rw [fa_le, ti_120] at q; omega)) (by decide) ?_
    rw [mI_38]
    refine gf_iconst (1) dX12_wind_59 rfl ?_
    exact gf_zretE dX12_wind_60 rfl (rfl) (rfl) (rfl)
  · rw [if_neg hP, if_neg hP]
    refine gf_iload_n 1 dX12_wind_0 rfl rfl ?_
    refine gf_i2l dX12_wind_1 ?_
    refine gf_lconst (1) dX12_wind_2 rfl ?_
    refine gf_ldc2 (120) kcX12_445 dX12_wind_3 ?_
    refine gf_callS cmX12_isIn lkX12_325 stX12_isIn dX12_wind_6 (d1 := d - 1) (by omega) (e_X12_isIn E (by omega) t.toInt64 1 120 _) rfl rfl (Nat.le_of_ble_eq_true rfl) ?_
    refine gf_if_eq 36 dX12_wind_9 rfl (fun zc9 => ?_) (fun zc9 => ?_)
    · refine gf_iconst (0) dX12_wind_36 rfl ?_
      exact gf_zretE dX12_wind_37 rfl (rfl) (rfl) (rfl)
    · refine gf_iload_n 2 dX12_wind_12 rfl rfl ?_
      refine gf_i2l dX12_wind_13 ?_
      refine gf_lconst (0) dX12_wind_14 rfl ?_
      refine gf_ldc2 (7) kcX12_447 dX12_wind_15 ?_
      refine gf_callS cmX12_isIn lkX12_325 stX12_isIn dX12_wind_18 (d1 := d - 1) (by omega) (e_X12_isIn E (by omega) y.toInt64 0 7 _) rfl rfl (Nat.le_of_ble_eq_true rfl) ?_
      refine gf_if_eq 36 dX12_wind_21 rfl (fun zc21 => ?_) (fun zc21 => ?_)
      · refine gf_iconst (0) dX12_wind_36 rfl ?_
        exact gf_zretE dX12_wind_37 rfl (rfl) (rfl) (rfl)
      · refine gf_iload_n 3 dX12_wind_24 rfl rfl ?_
        refine gf_i2l dX12_wind_25 ?_
        refine gf_lconst (0) dX12_wind_26 rfl ?_
        refine gf_ldc2 (20) kcX12_449 dX12_wind_27 ?_
        refine gf_callS cmX12_isIn lkX12_325 stX12_isIn dX12_wind_30 (d1 := d - 1) (by omega) (e_X12_isIn E (by omega) s.toInt64 0 20 _) rfl rfl (Nat.le_of_ble_eq_true rfl) ?_
        refine gf_if_ne 38 dX12_wind_33 rfl (fun zc33 => ?_) (fun zc33 => ?_)
        · exact absurd ⟨(isIn_l z64_1 z64_120).mp (zb_1.mp zc9), (isIn_l z64_0 z64_7).mp (zb_1.mp zc21), (isIn_l z64_0 z64_20).mp (zb_1.mp zc33)⟩ hP
        · refine gf_iconst (0) dX12_wind_36 rfl ?_
          exact gf_zretE dX12_wind_37 rfl (rfl) (rfl) (rfl)
theorem e_X12_house (E : gE) {d : Nat} (hd : 2 ≤ d) {w g : Nat} (c wl tr wo : Int32) (h : hp_T) (hG : gr h) (M : mM) (N : mN) (C : mcty M w g) : ev E mX12_house d [.ref (E.1 + 247), .int c, .int wl, .int tr, .int wo] (hm h M N) (some (.int (if ((0 ≤ c ∧ c < nI (w * g)) ∧ (0 ≤ wl ∧ wl ≤ 3) ∧ (0 ≤ tr ∧ tr ≤ 5) ∧ (0 ≤ wo ∧ wo ≤ 9999)) then 1 else 0))) (if ((0 ≤ c ∧ c < nI (w * g)) ∧ (0 ≤ wl ∧ wl ≤ 3) ∧ (0 ≤ tr ∧ tr ≤ 5) ∧ (0 ≤ wo ∧ wo ≤ 9999)) then (hm h (up2 (up2 (up2 (up2 M 34 c.toNatClampNeg 1) 31 c.toNatClampNeg wl) 32 c.toNatClampNeg tr) 33 c.toNatClampNeg wo) N) else (hm h M N)) := by
  have hn : w * g ≤ 120 := Nat.le_trans (Nat.mul_le_mul C.1.2.1 C.1.2.2.2) (by decide)
  refine ev_of rfl (fun q => absurd q (by decide)) (Nat.le_of_ble_eq_true rfl) ?_
  by_cases hP : ((0 ≤ c ∧ c < nI (w * g)) ∧ (0 ≤ wl ∧ wl ≤ 3) ∧ (0 ≤ tr ∧ tr ≤ 5) ∧ (0 ≤ wo ∧ wo ≤ 9999))
  · rw [if_pos hP, if_pos hP]
    obtain ⟨p1, p2, p3, p4⟩ := hP
    refine gf_aload_n 0 dX12_house_0 rfl rfl ?_
    refine gf_iload_n 1 dX12_house_1 rfl rfl ?_
    refine gf_callV cmX12_isCell lkX12_412 imX12_isCell seX12_isCell ⟨rfl, by decide⟩ dX12_house_2 (d1 := d - 1) (by omega) (gt_247 hG) (e_X12_isCell E (by omega) c (hm h M N) hG (w := w) (g := g) C) rfl rfl (Nat.le_of_ble_eq_true rfl) ?_
    refine gf_if_eq 45 dX12_house_5 rfl (fun q => absurd q (fun q => zb_0.mp q p1)) (fun _ => ?_)
    refine gf_iload_n 2 dX12_house_8 rfl rfl ?_
    refine gf_i2l dX12_house_9 ?_
    refine gf_lconst (0) dX12_house_10 rfl ?_
    refine gf_ldc2 (3) kcX12_437 dX12_house_11 ?_
    refine gf_callS cmX12_isIn lkX12_325 stX12_isIn dX12_house_14 (d1 := d - 1) (by omega) (e_X12_isIn E (by omega) wl.toInt64 0 3 _) rfl rfl (Nat.le_of_ble_eq_true rfl) ?_
    refine gf_if_eq 45 dX12_house_17 rfl (fun q => absurd q (fun q => zb_0.mp q ((isIn_l z64_0 z64_3).mpr p2))) (fun _ => ?_)
    refine gf_iload_n 3 dX12_house_20 rfl rfl ?_
    refine gf_i2l dX12_house_21 ?_
    refine gf_lconst (0) dX12_house_22 rfl ?_
    refine gf_ldc2 (5) kcX12_439 dX12_house_23 ?_
    refine gf_callS cmX12_isIn lkX12_325 stX12_isIn dX12_house_26 (d1 := d - 1) (by omega) (e_X12_isIn E (by omega) tr.toInt64 0 5 _) rfl rfl (Nat.le_of_ble_eq_true rfl) ?_
    refine gf_if_eq 45 dX12_house_29 rfl (fun q => absurd q (fun q => zb_0.mp q ((isIn_l z64_0 z64_5).mpr p3))) (fun _ => ?_)
    refine gf_iload dX12_house_32 rfl ?_
    refine gf_i2l dX12_house_34 ?_
    refine gf_lconst (0) dX12_house_35 rfl ?_
    refine gf_ldc2 (9999) kcX12_441 dX12_house_36 ?_
    refine gf_callS cmX12_isIn lkX12_325 stX12_isIn dX12_house_39 (d1 := d - 1) (by omega) (e_X12_isIn E (by omega) wo.toInt64 0 9999 _) rfl rfl (Nat.le_of_ble_eq_true rfl) ?_
    refine gf_if_ne 47 dX12_house_42 rfl (fun _ => ?_) (fun q => absurd q (fun q => zb_0.mp q ((isIn_l z64_0 z64_9999).mpr p4)))
    refine gf_aload_n 0 dX12_house_47 rfl rfl ?_
    refine gf_getR flX12_121 rfl dX12_house_48 (gt_247 hG) (gp_247_47 hG) ?_
    refine gf_iload_n 1 dX12_house_51 rfl rfl ?_
    refine gf_iconst (1) dX12_house_52 rfl ?_
    refine gf_zast 120 dX12_house_53 (gt_281 hG) (gl_281 hG) (ix_nI (by have q := p1.1; rw [fa_le, ti_0] at q; exact q)) (ix_lt (by have q := p1.1; rw [fa_le, ti_0] at q; exact q) (by have q := p1.2; rw [fa_lt, nI_toInt (by omega)] at q; omega)) (by decide) rfl ?_
    rw [mI_34]
    refine gf_aload_n 0 dX12_house_54 rfl rfl ?_
    refine gf_getR flX12_112 rfl dX12_house_55 (gt_247 hG) (gp_247_44 hG) ?_
    refine gf_iload_n 1 dX12_house_58 rfl rfl ?_
    refine gf_iload_n 2 dX12_house_59 rfl rfl ?_
    refine gf_iast 120 dX12_house_60 (gt_278 hG) (gl_278 hG) (ix_nI (by have q := p1.1; rw [fa_le, ti_0] at q; exact q)) (ix_lt (by have q := p1.1; rw [fa_le, ti_0] at q; exact q) (by have q := p1.2; rw [fa_lt, nI_toInt (by omega)] at q; omega)) (by decide) ?_
    rw [mI_31]
    refine gf_aload_n 0 dX12_house_61 rfl rfl ?_
    refine gf_getR flX12_115 rfl dX12_house_62 (gt_247 hG) (gp_247_45 hG) ?_
    refine gf_iload_n 1 dX12_house_65 rfl rfl ?_
    refine gf_iload_n 3 dX12_house_66 rfl rfl ?_
    refine gf_iast 120 dX12_house_67 (gt_279 hG) (gl_279 hG) (ix_nI (by have q := p1.1; rw [fa_le, ti_0] at q; exact q)) (ix_lt (by have q := p1.1; rw [fa_le, ti_0] at q; exact q) (by have q := p1.2; rw [fa_lt, nI_toInt (by omega)] at q; omega)) (by decide) ?_
    rw [mI_32]
    refine gf_aload_n 0 dX12_house_68 rfl rfl ?_
    refine gf_getR flX12_118 rfl dX12_house_69 (gt_247 hG) (gp_247_46 hG) ?_
    refine gf_iload_n 1 dX12_house_72 rfl rfl ?_
    refine gf_iload dX12_house_73 rfl ?_
    refine gf_iast 120 dX12_house_75 (gt_280 hG) (gl_280 hG) (ix_nI (by have q := p1.1; rw [fa_le, ti_0] at q; exact q)) (ix_lt (by have q := p1.1; rw [fa_le, ti_0] at q; exact q) (by have q := p1.2; rw [fa_lt, nI_toInt (by omega)] at q; omega)) (by decide) ?_
    rw [mI_33]
    refine gf_iconst (1) dX12_house_76 rfl ?_
    exact gf_zretE dX12_house_77 rfl (rfl) (rfl) (rfl)
  · rw [if_neg hP, if_neg hP]
    refine gf_aload_n 0 dX12_house_0 rfl rfl ?_
    refine gf_iload_n 1 dX12_house_1 rfl rfl ?_
    refine gf_callV cmX12_isCell lkX12_412 imX12_isCell seX12_isCell ⟨rfl, by decide⟩ dX12_house_2 (d1 := d - 1) (by omega) (gt_247 hG) (e_X12_isCell E (by omega) c (hm h M N) hG (w := w) (g := g) C) rfl rfl (Nat.le_of_ble_eq_true rfl) ?_
    refine gf_if_eq 45 dX12_house_5 rfl (fun zc5 => ?_) (fun zc5 => ?_)
    · refine gf_iconst (0) dX12_house_45 rfl ?_
      exact gf_zretE dX12_house_46 rfl (rfl) (rfl) (rfl)
    · refine gf_iload_n 2 dX12_house_8 rfl rfl ?_
      refine gf_i2l dX12_house_9 ?_
      refine gf_lconst (0) dX12_house_10 rfl ?_
      refine gf_ldc2 (3) kcX12_437 dX12_house_11 ?_
      refine gf_callS cmX12_isIn lkX12_325 stX12_isIn dX12_house_14 (d1 := d - 1) (by omega) (e_X12_isIn E (by omega) wl.toInt64 0 3 _) rfl rfl (Nat.le_of_ble_eq_true rfl) ?_
      refine gf_if_eq 45 dX12_house_17 rfl (fun zc17 => ?_) (fun zc17 => ?_)
      · refine gf_iconst (0) dX12_house_45 rfl ?_
        exact gf_zretE dX12_house_46 rfl (rfl) (rfl) (rfl)
      · refine gf_iload_n 3 dX12_house_20 rfl rfl ?_
        refine gf_i2l dX12_house_21 ?_
        refine gf_lconst (0) dX12_house_22 rfl ?_
        refine gf_ldc2 (5) kcX12_439 dX12_house_23 ?_
        refine gf_callS cmX12_isIn lkX12_325 stX12_isIn dX12_house_26 (d1 := d - 1) (by omega) (e_X12_isIn E (by omega) tr.toInt64 0 5 _) rfl rfl (Nat.le_of_ble_eq_true rfl) ?_
        refine gf_if_eq 45 dX12_house_29 rfl (fun zc29 => ?_) (fun zc29 => ?_)
        · refine gf_iconst (0) dX12_house_45 rfl ?_
          exact gf_zretE dX12_house_46 rfl (rfl) (rfl) (rfl)
        · refine gf_iload dX12_house_32 rfl ?_
          refine gf_i2l dX12_house_34 ?_
          refine gf_lconst (0) dX12_house_35 rfl ?_
          refine gf_ldc2 (9999) kcX12_441 dX12_house_36 ?_
          refine gf_callS cmX12_isIn lkX12_325 stX12_isIn dX12_house_39 (d1 := d - 1) (by omega) (e_X12_isIn E (by omega) wo.toInt64 0 9999 _) rfl rfl (Nat.le_of_ble_eq_true rfl) ?_
          refine gf_if_ne 47 dX12_house_42 rfl (fun zc42 => ?_) (fun zc42 => ?_)
          · exact absurd ⟨zb_1.mp zc5, (isIn_l z64_0 z64_3).mp (zb_1.mp zc17), (isIn_l z64_0 z64_5).mp (zb_1.mp zc29), (isIn_l z64_0 z64_9999).mp (zb_1.mp zc42)⟩ hP
          · refine gf_iconst (0) dX12_house_45 rfl ?_
            exact gf_zretE dX12_house_46 rfl (rfl) (rfl) (rfl)
theorem e_X12_policy (E : gE) {d : Nat} (hd : 3 ≤ d) {w g n : Nat} (c oo v : Int32) (h : hp_T) (hG : gr h) (M : mM) (N : mN) (C : mcty M w g) (hN : M 0 62 = nI n) (hn2 : n ≤ 200) : ev E mX12_policy d [.ref (E.1 + 247), .int c, .int oo, .int v] (hm h M N) (some (.int (if (((0 ≤ c ∧ c < nI (w * g)) ∧ ¬ M 34 c.toNatClampNeg = 0) ∧ (0 ≤ oo ∧ oo ≤ 8) ∧ (1 ≤ v ∧ v ≤ 99999) ∧ n < 200) then nI (n + 1) else -1))) (if (((0 ≤ c ∧ c < nI (w * g)) ∧ ¬ M 34 c.toNatClampNeg = 0) ∧ (0 ≤ oo ∧ oo ≤ 8) ∧ (1 ≤ v ∧ v ≤ 99999) ∧ n < 200) then (hm h (macT M n 2 oo c v) N) else (hm h M N)) := by
  refine ev_of rfl (fun q => absurd q (by decide)) (Nat.le_of_ble_eq_true rfl) ?_
  by_cases hP : (((0 ≤ c ∧ c < nI (w * g)) ∧ ¬ M 34 c.toNatClampNeg = 0) ∧ (0 ≤ oo ∧ oo ≤ 8) ∧ (1 ≤ v ∧ v ≤ 99999) ∧ n < 200)
  · rw [if_pos hP, if_pos hP]
    obtain ⟨p1, p2, p3, p4⟩ := hP
    refine gf_aload_n 0 dX12_policy_0 rfl rfl ?_
    refine gf_iload_n 1 dX12_policy_1 rfl rfl ?_
    refine gf_callV cmX12_hasHouse lkX12_482 imX12_hasHouse seX12_hasHouse ⟨rfl, by decide⟩ dX12_policy_2 (d1 := d - 1) (by omega) (gt_247 hG) (e_X12_hasHouse E (by omega) c (hm h M N) hG (w := w) (g := g) C) rfl rfl (Nat.le_of_ble_eq_true rfl) ?_
    refine gf_if_eq 48 dX12_policy_5 rfl (fun q => absurd q (fun q => zb_0.mp q p1)) (fun _ => ?_)
    refine gf_iload_n 2 dX12_policy_8 rfl rfl ?_
    refine gf_callS cmX12_isOffice lkX12_451 stX12_isOffice dX12_policy_9 (d1 := d - 1) (by omega) (e_X12_isOffice E (by omega) oo _) rfl rfl (Nat.le_of_ble_eq_true rfl) ?_
    refine gf_if_eq 48 dX12_policy_12 rfl (fun q => absurd q (fun q => zb_0.mp q p2)) (fun _ => ?_)
    refine gf_iload_n 3 dX12_policy_15 rfl rfl ?_
    refine gf_i2l dX12_policy_16 ?_
    refine gf_lconst (1) dX12_policy_17 rfl ?_
    refine gf_ldc2 (99999) kcX12_485 dX12_policy_18 ?_
    refine gf_callS cmX12_isIn lkX12_325 stX12_isIn dX12_policy_21 (d1 := d - 1) (by omega) (e_X12_isIn E (by omega) v.toInt64 1 99999 _) rfl rfl (Nat.le_of_ble_eq_true rfl) ?_
    refine gf_if_eq 48 dX12_policy_24 rfl (fun q => absurd q (fun q => zb_0.mp q ((isIn_l z64_1 z64_99999).mpr p3))) (fun _ => ?_)
    refine gf_aload_n 0 dX12_policy_27 rfl rfl ?_
    refine gf_getI flX12_424 rfl dX12_policy_28 (gt_247 hG) ?_
    refine gf_sipush (200) dX12_policy_31 rfl ?_
    refine gf_icmp_ge 48 dX12_policy_34 rfl (fun q => absurd q (by rw [show hp_i (hm h M N) 247 62 = nI n from hN]; exact nI_ge (b := 200) p4 (by omega))) (fun _ => ?_)
    refine gf_aload_n 0 dX12_policy_37 rfl rfl ?_
    refine gf_iconst (2) dX12_policy_38 rfl ?_
    refine gf_iload_n 2 dX12_policy_39 rfl rfl ?_
    refine gf_iload_n 1 dX12_policy_40 rfl rfl ?_
    refine gf_iload_n 3 dX12_policy_41 rfl rfl ?_
    refine gf_callV cmX12_act lkX12_475 imX12_act seX12_act ⟨rfl, by decide⟩ dX12_policy_42 (d1 := d - 1) (by omega) (gt_247 hG) (e_X12_act E (by omega) 2 oo c v h hG M N hN p4) rfl rfl (Nat.le_of_ble_eq_true rfl) ?_
    refine gf_goto 49 dX12_policy_45 rfl ?_
    exact gf_iretE dX12_policy_49 rfl (rfl) (rfl)
  · rw [if_neg hP, if_neg hP]
    refine gf_aload_n 0 dX12_policy_0 rfl rfl ?_
    refine gf_iload_n 1 dX12_policy_1 rfl rfl ?_
    refine gf_callV cmX12_hasHouse lkX12_482 imX12_hasHouse seX12_hasHouse ⟨rfl, by decide⟩ dX12_policy_2 (d1 := d - 1) (by omega) (gt_247 hG) (e_X12_hasHouse E (by omega) c (hm h M N) hG (w := w) (g := g) C) rfl rfl (Nat.le_of_ble_eq_true rfl) ?_
    refine gf_if_eq 48 dX12_policy_5 rfl (fun zc5 => ?_) (fun zc5 => ?_)
    · refine gf_iconst (-1) dX12_policy_48 rfl ?_
      exact gf_iretE dX12_policy_49 rfl (rfl) (rfl)
    · refine gf_iload_n 2 dX12_policy_8 rfl rfl ?_
      refine gf_callS cmX12_isOffice lkX12_451 stX12_isOffice dX12_policy_9 (d1 := d - 1) (by omega) (e_X12_isOffice E (by omega) oo _) rfl rfl (Nat.le_of_ble_eq_true rfl) ?_
      refine gf_if_eq 48 dX12_policy_12 rfl (fun zc12 => ?_) (fun zc12 => ?_)
      · refine gf_iconst (-1) dX12_policy_48 rfl ?_
        exact gf_iretE dX12_policy_49 rfl (rfl) (rfl)
      · refine gf_iload_n 3 dX12_policy_15 rfl rfl ?_
        refine gf_i2l dX12_policy_16 ?_
        refine gf_lconst (1) dX12_policy_17 rfl ?_
        refine gf_ldc2 (99999) kcX12_485 dX12_policy_18 ?_
        refine gf_callS cmX12_isIn lkX12_325 stX12_isIn dX12_policy_21 (d1 := d - 1) (by omega) (e_X12_isIn E (by omega) v.toInt64 1 99999 _) rfl rfl (Nat.le_of_ble_eq_true rfl) ?_
        refine gf_if_eq 48 dX12_policy_24 rfl (fun zc24 => ?_) (fun zc24 => ?_)
        · refine gf_iconst (-1) dX12_policy_48 rfl ?_
          exact gf_iretE dX12_policy_49 rfl (rfl) (rfl)
        · refine gf_aload_n 0 dX12_policy_27 rfl rfl ?_
          refine gf_getI flX12_424 rfl dX12_policy_28 (gt_247 hG) ?_
          refine gf_sipush (200) dX12_policy_31 rfl ?_
          refine gf_icmp_ge 48 dX12_policy_34 rfl (fun zc34 => ?_) (fun zc34 => ?_)
          · refine gf_iconst (-1) dX12_policy_48 rfl ?_
            exact gf_iretE dX12_policy_49 rfl (rfl) (rfl)
          · exact absurd ⟨zb_1.mp zc5, zb_1.mp zc12, (isIn_l z64_1 z64_99999).mp (zb_1.mp zc24), by have q := zc34; rw [show hp_i (hm h M N) 247 62 = nI n from hN] at q; rcases Nat.lt_or_ge n 200 with w9 | w9; exact w9; exact absurd (nI_le (a := 200) w9 (by omega)) q⟩ hP
theorem e_X12_deal (E : gE) {d : Nat} (hd : 2 ≤ d) (b c p : Int32) (h : hp_T) (hG : gr h) (M : mM) (N : mN) : ev E mX12_deal d [.ref (E.1 + 247), .int b, .int c, .int p] (hm h M N) (some (.int (if ((0 ≤ b ∧ b ≤ 8) ∧ (0 ≤ c ∧ c ≤ 8) ∧ ¬ b = c ∧ (0 ≤ p ∧ p ≤ 1000)) then 1 else 0))) (if ((0 ≤ b ∧ b ≤ 8) ∧ (0 ≤ c ∧ c ≤ 8) ∧ ¬ b = c ∧ (0 ≤ p ∧ p ≤ 1000)) then (hm h (up2 M 45 (9 * b.toNatClampNeg + c.toNatClampNeg) p) N) else (hm h M N)) := by
  refine ev_of rfl (fun q => absurd q (by decide)) (Nat.le_of_ble_eq_true rfl) ?_
  by_cases hP : ((0 ≤ b ∧ b ≤ 8) ∧ (0 ≤ c ∧ c ≤ 8) ∧ ¬ b = c ∧ (0 ≤ p ∧ p ≤ 1000))
  · rw [if_pos hP, if_pos hP]
    obtain ⟨p1, p2, p3, p4⟩ := hP
    refine gf_iload_n 1 dX12_deal_0 rfl rfl ?_
    refine gf_callS cmX12_isOffice lkX12_451 stX12_isOffice dX12_deal_1 (d1 := d - 1) (by omega) (e_X12_isOffice E (by omega) b _) rfl rfl (Nat.le_of_ble_eq_true rfl) ?_
    refine gf_if_eq 31 dX12_deal_4 rfl (fun q => absurd q (fun q => zb_0.mp q p1)) (fun _ => ?_)
    refine gf_iload_n 2 dX12_deal_7 rfl rfl ?_
    refine gf_callS cmX12_isOffice lkX12_451 stX12_isOffice dX12_deal_8 (d1 := d - 1) (by omega) (e_X12_isOffice E (by omega) c _) rfl rfl (Nat.le_of_ble_eq_true rfl) ?_
    refine gf_if_eq 31 dX12_deal_11 rfl (fun q => absurd q (fun q => zb_0.mp q p2)) (fun _ => ?_)
    refine gf_iload_n 1 dX12_deal_14 rfl rfl ?_
    refine gf_iload_n 2 dX12_deal_15 rfl rfl ?_
    refine gf_icmp_eq 31 dX12_deal_16 rfl (fun q => absurd q (p3)) (fun _ => ?_)
    refine gf_iload_n 3 dX12_deal_19 rfl rfl ?_
    refine gf_i2l dX12_deal_20 ?_
    refine gf_lconst (0) dX12_deal_21 rfl ?_
    refine gf_ldc2 (1000) kcX12_460 dX12_deal_22 ?_
    refine gf_callS cmX12_isIn lkX12_325 stX12_isIn dX12_deal_25 (d1 := d - 1) (by omega) (e_X12_isIn E (by omega) p.toInt64 0 1000 _) rfl rfl (Nat.le_of_ble_eq_true rfl) ?_
    refine gf_if_ne 33 dX12_deal_28 rfl (fun _ => ?_) (fun q => absurd q (fun q => zb_0.mp q ((isIn_l z64_0 z64_1000).mpr p4)))
    refine gf_aload_n 0 dX12_deal_33 rfl rfl ?_
    refine gf_getR flX12_155 rfl dX12_deal_34 (gt_247 hG) (gp_247_59 hG) ?_
    obtain ⟨x9, hx9, ex9⟩ := isO_n p1
    obtain ⟨y9, hy9, ey9⟩ := isO_n p2
    have hix : (9 : Int32) * b + c = nI (9 * b.toNatClampNeg + c.toNatClampNeg) := by rw [ex9, ey9, nI_clamp (by omega), nI_clamp (by omega), show (9 : Int32) * nI x9 = nI (9 * x9) from pk_mul 9 x9, nI_add]
    have hix2 : 9 * b.toNatClampNeg + c.toNatClampNeg < 81 := by rw [ex9, ey9, nI_clamp (by omega), nI_clamp (by omega)]; omega
    refine gf_bipush (9) dX12_deal_37 rfl ?_
    refine gf_iload_n 1 dX12_deal_39 rfl rfl ?_
    refine gf_imul dX12_deal_40 ?_
    refine gf_iload_n 2 dX12_deal_41 rfl rfl ?_
    refine gf_iadd dX12_deal_42 ?_
    refine gf_iload_n 3 dX12_deal_43 rfl rfl ?_
    refine gf_iast 81 dX12_deal_44 (gt_292 hG) (gl_292 hG) hix hix2 (by decide) ?_
    rw [mI_45]
    refine gf_iconst (1) dX12_deal_45 rfl ?_
    exact gf_zretE dX12_deal_46 rfl (rfl) (rfl) (rfl)
  · rw [if_neg hP, if_neg hP]
    refine gf_iload_n 1 dX12_deal_0 rfl rfl ?_
    refine gf_callS cmX12_isOffice lkX12_451 stX12_isOffice dX12_deal_1 (d1 := d - 1) (by omega) (e_X12_isOffice E (by omega) b _) rfl rfl (Nat.le_of_ble_eq_true rfl) ?_
    refine gf_if_eq 31 dX12_deal_4 rfl (fun zc4 => ?_) (fun zc4 => ?_)
    · refine gf_iconst (0) dX12_deal_31 rfl ?_
      exact gf_zretE dX12_deal_32 rfl (rfl) (rfl) (rfl)
    · refine gf_iload_n 2 dX12_deal_7 rfl rfl ?_
      refine gf_callS cmX12_isOffice lkX12_451 stX12_isOffice dX12_deal_8 (d1 := d - 1) (by omega) (e_X12_isOffice E (by omega) c _) rfl rfl (Nat.le_of_ble_eq_true rfl) ?_
      refine gf_if_eq 31 dX12_deal_11 rfl (fun zc11 => ?_) (fun zc11 => ?_)
      · refine gf_iconst (0) dX12_deal_31 rfl ?_
        exact gf_zretE dX12_deal_32 rfl (rfl) (rfl) (rfl)
      · refine gf_iload_n 1 dX12_deal_14 rfl rfl ?_
        refine gf_iload_n 2 dX12_deal_15 rfl rfl ?_
        refine gf_icmp_eq 31 dX12_deal_16 rfl (fun zc16 => ?_) (fun zc16 => ?_)
        · refine gf_iconst (0) dX12_deal_31 rfl ?_
          exact gf_zretE dX12_deal_32 rfl (rfl) (rfl) (rfl)
        · refine gf_iload_n 3 dX12_deal_19 rfl rfl ?_
          refine gf_i2l dX12_deal_20 ?_
          refine gf_lconst (0) dX12_deal_21 rfl ?_
          refine gf_ldc2 (1000) kcX12_460 dX12_deal_22 ?_
          refine gf_callS cmX12_isIn lkX12_325 stX12_isIn dX12_deal_25 (d1 := d - 1) (by omega) (e_X12_isIn E (by omega) p.toInt64 0 1000 _) rfl rfl (Nat.le_of_ble_eq_true rfl) ?_
          refine gf_if_ne 33 dX12_deal_28 rfl (fun zc28 => ?_) (fun zc28 => ?_)
          · exact absurd ⟨zb_1.mp zc4, zb_1.mp zc11, zc16, (isIn_l z64_0 z64_1000).mp (zb_1.mp zc28)⟩ hP
          · refine gf_iconst (0) dX12_deal_31 rfl ?_
            exact gf_zretE dX12_deal_32 rfl (rfl) (rfl) (rfl)
theorem e_X12_engine (E : gE) {d : Nat} (hd : 2 ≤ d) {w g m : Nat} (oo c a b : Int32) (h : hp_T) (hG : gr h) (M : mM) (N : mN) (C : mcty M w g) (hE : M 0 54 = nI m) (hm12 : m ≤ 12) : ev E mX12_engine d [.ref (E.1 + 247), .int oo, .int c, .int a, .int b] (hm h M N) (some (.int (if ((0 ≤ oo ∧ oo ≤ 8) ∧ (0 ≤ c ∧ c < nI (w * g)) ∧ (1 ≤ a ∧ a ≤ 9) ∧ (1 ≤ b ∧ b ≤ 9) ∧ m < 12) then nI m else -1))) (if ((0 ≤ oo ∧ oo ≤ 8) ∧ (0 ≤ c ∧ c < nI (w * g)) ∧ (1 ≤ a ∧ a ≤ 9) ∧ (1 ≤ b ∧ b ≤ 9) ∧ m < 12) then (hm h (up2 (mstT M m oo c a b) 0 54 (nI (m + 1))) N) else (hm h M N)) := by
  have hn : w * g ≤ 120 := Nat.le_trans (Nat.mul_le_mul C.1.2.1 C.1.2.2.2) (by decide)
  refine ev_of rfl (fun q => absurd q (by decide)) (Nat.le_of_ble_eq_true rfl) ?_
  by_cases hP : ((0 ≤ oo ∧ oo ≤ 8) ∧ (0 ≤ c ∧ c < nI (w * g)) ∧ (1 ≤ a ∧ a ≤ 9) ∧ (1 ≤ b ∧ b ≤ 9) ∧ m < 12)
  · rw [if_pos hP, if_pos hP]
    obtain ⟨p1, p2, p3, p4, p5⟩ := hP
    refine gf_iload_n 1 dX12_engine_0 rfl rfl ?_
    refine gf_callS cmX12_isOffice lkX12_451 stX12_isOffice dX12_engine_1 (d1 := d - 1) (by omega) (e_X12_isOffice E (by omega) oo _) rfl rfl (Nat.le_of_ble_eq_true rfl) ?_
    refine gf_if_eq 49 dX12_engine_4 rfl (fun q => absurd q (fun q => zb_0.mp q p1)) (fun _ => ?_)
    refine gf_aload_n 0 dX12_engine_7 rfl rfl ?_
    refine gf_iload_n 2 dX12_engine_8 rfl rfl ?_
    refine gf_callV cmX12_isCell lkX12_412 imX12_isCell seX12_isCell ⟨rfl, by decide⟩ dX12_engine_9 (d1 := d - 1) (by omega) (gt_247 hG) (e_X12_isCell E (by omega) c (hm h M N) hG (w := w) (g := g) C) rfl rfl (Nat.le_of_ble_eq_true rfl) ?_
    refine gf_if_eq 49 dX12_engine_12 rfl (fun q => absurd q (fun q => zb_0.mp q p2)) (fun _ => ?_)
    refine gf_iload_n 3 dX12_engine_15 rfl rfl ?_
    refine gf_i2l dX12_engine_16 ?_
    refine gf_lconst (1) dX12_engine_17 rfl ?_
    refine gf_ldc2 (9) kcX12_443 dX12_engine_18 ?_
    refine gf_callS cmX12_isIn lkX12_325 stX12_isIn dX12_engine_21 (d1 := d - 1) (by omega) (e_X12_isIn E (by omega) a.toInt64 1 9 _) rfl rfl (Nat.le_of_ble_eq_true rfl) ?_
    refine gf_if_eq 49 dX12_engine_24 rfl (fun q => absurd q (fun q => zb_0.mp q ((isIn_l z64_1 z64_9).mpr p3))) (fun _ => ?_)
    refine gf_iload dX12_engine_27 rfl ?_
    refine gf_i2l dX12_engine_29 ?_
    refine gf_lconst (1) dX12_engine_30 rfl ?_
    refine gf_ldc2 (9) kcX12_443 dX12_engine_31 ?_
    refine gf_callS cmX12_isIn lkX12_325 stX12_isIn dX12_engine_34 (d1 := d - 1) (by omega) (e_X12_isIn E (by omega) b.toInt64 1 9 _) rfl rfl (Nat.le_of_ble_eq_true rfl) ?_
    refine gf_if_eq 49 dX12_engine_37 rfl (fun q => absurd q (fun q => zb_0.mp q ((isIn_l z64_1 z64_9).mpr p4))) (fun _ => ?_)
    refine gf_aload_n 0 dX12_engine_40 rfl rfl ?_
    refine gf_getI flX12_421 rfl dX12_engine_41 (gt_247 hG) ?_
    refine gf_bipush (12) dX12_engine_44 rfl ?_
    refine gf_icmp_ne 51 dX12_engine_46 rfl (fun _ => ?_) (fun q => absurd q (fun q => by rw [show hp_i (hm h M N) 247 54 = nI m from hE] at q; exact absurd ((nI_eq (b := 12) (by omega) (by omega)).mp q) (by omega)))
    refine gf_aload_n 0 dX12_engine_51 rfl rfl ?_
    refine gf_aload_n 0 dX12_engine_52 rfl rfl ?_
    refine gf_getI flX12_421 rfl dX12_engine_53 (gt_247 hG) ?_
    rw [show hp_i (hm h M N) 247 54 = nI m from hE]
    refine gf_iload_n 1 dX12_engine_56 rfl rfl ?_
    refine gf_iload_n 2 dX12_engine_57 rfl rfl ?_
    refine gf_iload_n 3 dX12_engine_58 rfl rfl ?_
    refine gf_iload dX12_engine_59 rfl ?_
    refine gf_callV cmX12_stands lkX12_456 imX12_stands seX12_stands ⟨rfl, by decide⟩ dX12_engine_61 (d1 := d - 1) (by omega) (gt_247 hG) (e_X12_stands E (by omega) oo c a b h hG M N p5) rfl rfl (Nat.le_of_ble_eq_true rfl) ?_
    refine gf_aload_n 0 dX12_engine_64 rfl rfl ?_
    refine gf_dup dX12_engine_65 rfl ?_
    refine gf_getI flX12_421 rfl dX12_engine_66 (gt_247 hG) ?_
    rw [show hp_i (hm h (mstT M m oo c a b) N) 247 54 = nI m from hE]
    refine gf_iconst (1) dX12_engine_69 rfl ?_
    refine gf_iadd dX12_engine_70 ?_
    refine gf_putI flX12_421 rfl rfl dX12_engine_71 (gt_247 hG) ⟨rfl, rfl⟩ ?_
    rw [nI_1, mI_0]
    refine gf_aload_n 0 dX12_engine_74 rfl rfl ?_
    refine gf_getI flX12_421 rfl dX12_engine_75 (gt_247 hG) ?_
    rw [show hp_i (hm h (up2 (mstT M m oo c a b) 0 54 (nI (m + 1))) N) 247 54 = nI (m + 1) from up2_s (mstT M m oo c a b) 0 54 (nI (m + 1))]
    refine gf_iconst (1) dX12_engine_78 rfl ?_
    refine gf_isub dX12_engine_79 ?_
    rw [nI_pred]
    exact gf_iretE dX12_engine_80 rfl (rfl) (rfl)
  · rw [if_neg hP, if_neg hP]
    refine gf_iload_n 1 dX12_engine_0 rfl rfl ?_
    refine gf_callS cmX12_isOffice lkX12_451 stX12_isOffice dX12_engine_1 (d1 := d - 1) (by omega) (e_X12_isOffice E (by omega) oo _) rfl rfl (Nat.le_of_ble_eq_true rfl) ?_
    refine gf_if_eq 49 dX12_engine_4 rfl (fun zc4 => ?_) (fun zc4 => ?_)
    · refine gf_iconst (-1) dX12_engine_49 rfl ?_
      exact gf_iretE dX12_engine_50 rfl (rfl) (rfl)
    · refine gf_aload_n 0 dX12_engine_7 rfl rfl ?_
      refine gf_iload_n 2 dX12_engine_8 rfl rfl ?_
      refine gf_callV cmX12_isCell lkX12_412 imX12_isCell seX12_isCell ⟨rfl, by decide⟩ dX12_engine_9 (d1 := d - 1) (by omega) (gt_247 hG) (e_X12_isCell E (by omega) c (hm h M N) hG (w := w) (g := g) C) rfl rfl (Nat.le_of_ble_eq_true rfl) ?_
      refine gf_if_eq 49 dX12_engine_12 rfl (fun zc12 => ?_) (fun zc12 => ?_)
      · refine gf_iconst (-1) dX12_engine_49 rfl ?_
        exact gf_iretE dX12_engine_50 rfl (rfl) (rfl)
      · refine gf_iload_n 3 dX12_engine_15 rfl rfl ?_
        refine gf_i2l dX12_engine_16 ?_
        refine gf_lconst (1) dX12_engine_17 rfl ?_
        refine gf_ldc2 (9) kcX12_443 dX12_engine_18 ?_
        refine gf_callS cmX12_isIn lkX12_325 stX12_isIn dX12_engine_21 (d1 := d - 1) (by omega) (e_X12_isIn E (by omega) a.toInt64 1 9 _) rfl rfl (Nat.le_of_ble_eq_true rfl) ?_
        refine gf_if_eq 49 dX12_engine_24 rfl (fun zc24 => ?_) (fun zc24 => ?_)
        · refine gf_iconst (-1) dX12_engine_49 rfl ?_
          exact gf_iretE dX12_engine_50 rfl (rfl) (rfl)
        · refine gf_iload dX12_engine_27 rfl ?_
          refine gf_i2l dX12_engine_29 ?_
          refine gf_lconst (1) dX12_engine_30 rfl ?_
          refine gf_ldc2 (9) kcX12_443 dX12_engine_31 ?_
          refine gf_callS cmX12_isIn lkX12_325 stX12_isIn dX12_engine_34 (d1 := d - 1) (by omega) (e_X12_isIn E (by omega) b.toInt64 1 9 _) rfl rfl (Nat.le_of_ble_eq_true rfl) ?_
          refine gf_if_eq 49 dX12_engine_37 rfl (fun zc37 => ?_) (fun zc37 => ?_)
          · refine gf_iconst (-1) dX12_engine_49 rfl ?_
            exact gf_iretE dX12_engine_50 rfl (rfl) (rfl)
          · refine gf_aload_n 0 dX12_engine_40 rfl rfl ?_
            refine gf_getI flX12_421 rfl dX12_engine_41 (gt_247 hG) ?_
            refine gf_bipush (12) dX12_engine_44 rfl ?_
            refine gf_icmp_ne 51 dX12_engine_46 rfl (fun zc46 => ?_) (fun zc46 => ?_)
            · exact absurd ⟨zb_1.mp zc4, zb_1.mp zc12, (isIn_l z64_1 z64_9).mp (zb_1.mp zc24), (isIn_l z64_1 z64_9).mp (zb_1.mp zc37), by have q := zc46; rw [show hp_i (hm h M N) 247 54 = nI m from hE] at q; rcases Nat.lt_or_ge m 12 with w9 | w9; exact w9; exact absurd (by rw [show m = 12 by omega]; rfl) q⟩ hP
            · refine gf_iconst (-1) dX12_engine_49 rfl ?_
              exact gf_iretE dX12_engine_50 rfl (rfl) (rfl)
abbrev manC (M : mM) (n : Nat) (k : Int32) : Prop := (1 ≤ k ∧ k ≤ nI n) ∧ M 51 k.toNatClampNeg = 0 ∧ ¬ M 47 k.toNatClampNeg = 3 ∧ n < 200
theorem e_X12_annul (E : gE) {d : Nat} (hd : 2 ≤ d) {n : Nat} (k : Int32) (h : hp_T) (hG : gr h) (M : mM) (N : mN) (hN : M 0 62 = nI n) (hn2 : n ≤ 200) : ev E mX12_annul d [.ref (E.1 + 247), .int k] (hm h M N) (some (.int (if manC M n k then nI (n + 1) else -1))) (if manC M n k then hm h (macT (up2 M 51 k.toNatClampNeg (nI (n + 1))) n 3 0 0 k) N else (hm h M N)) := by
  refine ev_of rfl (fun q => absurd q (by decide)) (Nat.le_of_ble_eq_true rfl) ?_
  have hix : (1 ≤ k ∧ k ≤ nI n) → k = nI k.toNatClampNeg ∧ k.toNatClampNeg ≤ 200 := fun p => by
    have h1 := p.1
    have h2 := p.2
    rw [fa_le, ti_1] at h1
    rw [fa_le, nI_toInt (by omega)] at h2
    exact ⟨ix_nI (by omega), by have := ix_lt (c := k) (n := n + 1) (by omega) (by omega); omega⟩
  by_cases hP : manC M n k
  · rw [if_pos hP, if_pos hP]
    obtain ⟨p1, p2, p3, p4⟩ := hP
    obtain ⟨hk, hk2⟩ := hix p1
    refine gf_iload_n 1 dX12_annul_0 rfl rfl ?_
    refine gf_i2l dX12_annul_1 ?_
    refine gf_lconst (1) dX12_annul_2 rfl ?_
    refine gf_aload_n 0 dX12_annul_3 rfl rfl ?_
    refine gf_getI flX12_424 rfl dX12_annul_4 (gt_247 hG) ?_
    rw [show hp_i (hm h M N) 247 62 = nI n from hN]
    refine gf_i2l dX12_annul_7 ?_
    refine gf_callS cmX12_isIn lkX12_325 stX12_isIn dX12_annul_8 (d1 := d - 1) (by omega) (e_X12_isIn E (by omega) k.toInt64 1 (nI n).toInt64 _) rfl rfl (Nat.le_of_ble_eq_true rfl) ?_
    refine gf_if_eq 43 dX12_annul_11 rfl (fun q => absurd q (fun q => zb_0.mp q ((isIn_l z64_1 rfl).mpr p1))) (fun _ => ?_)
    refine gf_aload_n 0 dX12_annul_14 rfl rfl ?_
    refine gf_getR flX12_173 rfl dX12_annul_15 (gt_247 hG) (gp_247_67 hG) ?_
    refine gf_iload_n 1 dX12_annul_18 rfl rfl ?_
    refine gf_iald 201 dX12_annul_19 (gt_298 hG) (gl_298 hG) hk (by omega) (by decide) ?_
    refine gf_if_ne 43 dX12_annul_20 rfl (fun q => absurd (p2) q) (fun _ => ?_)
    refine gf_aload_n 0 dX12_annul_23 rfl rfl ?_
    refine gf_getR flX12_161 rfl dX12_annul_24 (gt_247 hG) (gp_247_63 hG) ?_
    refine gf_iload_n 1 dX12_annul_27 rfl rfl ?_
    refine gf_iald 201 dX12_annul_28 (gt_294 hG) (gl_294 hG) hk (by omega) (by decide) ?_
    refine gf_iconst (3) dX12_annul_29 rfl ?_
    refine gf_icmp_eq 43 dX12_annul_30 rfl (fun q => absurd q (p3)) (fun _ => ?_)
    refine gf_aload_n 0 dX12_annul_33 rfl rfl ?_
    refine gf_getI flX12_424 rfl dX12_annul_34 (gt_247 hG) ?_
    refine gf_sipush (200) dX12_annul_37 rfl ?_
    refine gf_icmp_ne 45 dX12_annul_40 rfl (fun _ => ?_) (fun q => absurd q (fun q => by rw [show hp_i (hm h M N) 247 62 = nI n from hN] at q; exact absurd ((nI_eq (b := 200) (by omega) (by omega)).mp q) (by omega)))
    refine gf_aload_n 0 dX12_annul_45 rfl rfl ?_
    refine gf_getR flX12_173 rfl dX12_annul_46 (gt_247 hG) (gp_247_67 hG) ?_
    refine gf_iload_n 1 dX12_annul_49 rfl rfl ?_
    refine gf_aload_n 0 dX12_annul_50 rfl rfl ?_
    refine gf_getI flX12_424 rfl dX12_annul_51 (gt_247 hG) ?_
    rw [show hp_i (hm h M N) 247 62 = nI n from hN]
    refine gf_iconst (1) dX12_annul_54 rfl ?_
    refine gf_iadd dX12_annul_55 ?_
    rw [nI_1]
    refine gf_iast 201 dX12_annul_56 (gt_298 hG) (gl_298 hG) hk (by omega) (by decide) ?_
    rw [mI_51]
    refine gf_aload_n 0 dX12_annul_57 rfl rfl ?_
    refine gf_iconst (3) dX12_annul_58 rfl ?_
    refine gf_iconst (0) dX12_annul_59 rfl ?_
    refine gf_iconst (0) dX12_annul_60 rfl ?_
    refine gf_iload_n 1 dX12_annul_61 rfl rfl ?_
    refine gf_callV cmX12_act lkX12_475 imX12_act seX12_act ⟨rfl, by decide⟩ dX12_annul_62 (d1 := d - 1) (by omega) (gt_247 hG) (e_X12_act E (by omega) 3 0 0 k h hG (up2 M 51 k.toNatClampNeg (nI (n + 1))) N hN p4) rfl rfl (Nat.le_of_ble_eq_true rfl) ?_
    exact gf_iretE dX12_annul_65 rfl (rfl) (rfl)
  · rw [if_neg hP, if_neg hP]
    refine gf_iload_n 1 dX12_annul_0 rfl rfl ?_
    refine gf_i2l dX12_annul_1 ?_
    refine gf_lconst (1) dX12_annul_2 rfl ?_
    refine gf_aload_n 0 dX12_annul_3 rfl rfl ?_
    refine gf_getI flX12_424 rfl dX12_annul_4 (gt_247 hG) ?_
    rw [show hp_i (hm h M N) 247 62 = nI n from hN]
    refine gf_i2l dX12_annul_7 ?_
    refine gf_callS cmX12_isIn lkX12_325 stX12_isIn dX12_annul_8 (d1 := d - 1) (by omega) (e_X12_isIn E (by omega) k.toInt64 1 (nI n).toInt64 _) rfl rfl (Nat.le_of_ble_eq_true rfl) ?_
    refine gf_if_eq 43 dX12_annul_11 rfl (fun zc11 => ?_) (fun zc11 => ?_)
    · refine gf_iconst (-1) dX12_annul_43 rfl ?_
      exact gf_iretE dX12_annul_44 rfl (rfl) (rfl)
    · have pin : 1 ≤ k ∧ k ≤ nI n := (isIn_l z64_1 rfl).mp (zb_1.mp zc11)
      obtain ⟨hk, hk2⟩ := hix pin
      refine gf_aload_n 0 dX12_annul_14 rfl rfl ?_
      refine gf_getR flX12_173 rfl dX12_annul_15 (gt_247 hG) (gp_247_67 hG) ?_
      refine gf_iload_n 1 dX12_annul_18 rfl rfl ?_
      refine gf_iald 201 dX12_annul_19 (gt_298 hG) (gl_298 hG) hk (by omega) (by decide) ?_
      refine gf_if_ne 43 dX12_annul_20 rfl (fun zc20 => ?_) (fun zc20 => ?_)
      · refine gf_iconst (-1) dX12_annul_43 rfl ?_
        exact gf_iretE dX12_annul_44 rfl (rfl) (rfl)
      · refine gf_aload_n 0 dX12_annul_23 rfl rfl ?_
        refine gf_getR flX12_161 rfl dX12_annul_24 (gt_247 hG) (gp_247_63 hG) ?_
        refine gf_iload_n 1 dX12_annul_27 rfl rfl ?_
        refine gf_iald 201 dX12_annul_28 (gt_294 hG) (gl_294 hG) hk (by omega) (by decide) ?_
        refine gf_iconst (3) dX12_annul_29 rfl ?_
        refine gf_icmp_eq 43 dX12_annul_30 rfl (fun zc30 => ?_) (fun zc30 => ?_)
        · refine gf_iconst (-1) dX12_annul_43 rfl ?_
          exact gf_iretE dX12_annul_44 rfl (rfl) (rfl)
        · refine gf_aload_n 0 dX12_annul_33 rfl rfl ?_
          refine gf_getI flX12_424 rfl dX12_annul_34 (gt_247 hG) ?_
          refine gf_sipush (200) dX12_annul_37 rfl ?_
          refine gf_icmp_ne 45 dX12_annul_40 rfl (fun zc40 => ?_) (fun zc40 => ?_)
          · exact absurd ⟨pin, zc20, zc30, by have q := zc40; rw [show hp_i (hm h M N) 247 62 = nI n from hN] at q; rcases Nat.lt_or_ge n 200 with w9 | w9; exact w9; exact absurd (by rw [show n = 200 by omega]; rfl) q⟩ hP
          · refine gf_iconst (-1) dX12_annul_43 rfl ?_
            exact gf_iretE dX12_annul_44 rfl (rfl) (rfl)
