/-! ===== the class: claims over one house, by parts ===== -/
theorem togB_t {B : Nat → Bool} {X : Nat → Nat → Int32} {t : Int32} {i a : Nat} (e : X 5 i = nI a) (ha : a < 201) (hB : B a = true) : togB B X t i = t + X 2 a := by
  unfold togB; rw [e, nI_clamp (by omega), if_pos hB]
theorem togB_f {B : Nat → Bool} {X : Nat → Nat → Int32} {t : Int32} {i a : Nat} (e : X 5 i = nI a) (ha : a < 201) (hB : ¬ B a = true) : togB B X t i = t := by
  unfold togB; rw [e, nI_clamp (by omega), if_neg hB]
theorem herI_row {h : hp_T} {n : Nat} {X Y : Nat → Nat → Int32} (I : herI h n X) (h0 : Y 0 = X 0) (h5 : Y 5 = X 5) : herI h n Y := by
  refine ⟨by rw [h0]; exact I.1, I.2.1, fun i hi => ?_⟩
  obtain ⟨a, x, q⟩ := I.2.2 i hi
  exact ⟨a, x, q.1, by rw [h5]; exact q.2.1, q.2.2⟩
theorem i64_pos {x : Int32} (h : 0 < x) : ¬ x.toInt64 = 0 := fun q => by
  have e := congrArg Int64.toInt q
  rw [Int32.toInt_toInt64] at e
  rw [fa_lt, ti_0] at h
  have e0 : (0 : Int64).toInt = 0 := by decide
  omega
theorem l_X2_payFloors_186 (E : gE) {d : Nat} (hd : 1 ≤ d) {n : Nat} (left tog : Int32) (h : hp_T) (hG : gr h) (X : Nat → Nat → Int32) (R : Nat → Int64) (hT : tagT h) (I : herI h n X) {v : Option Value} {hz : hp_T} (K : gf E mX2_payFloors d 113 [(0, .ref (E.1 + 186)), (1, .int left), (2, .int tog), (3, .int (flS (besB h 21) left tog (X, R) (n)).2), (4, .int (nI (n)))] [] (hcl h 186 (flS (besB h 21) left tog (X, R) (n)).1.1 (flS (besB h 21) left tog (X, R) (n)).1.2) v hz) : ∀ (kz jz : Nat), jz + kz = n → gf E mX2_payFloors d 5 [(0, .ref (E.1 + 186)), (1, .int left), (2, .int tog), (3, .int (flS (besB h 21) left tog (X, R) (jz)).2), (4, .int (nI (jz)))] [] (hcl h 186 (flS (besB h 21) left tog (X, R) (jz)).1.1 (flS (besB h 21) left tog (X, R) (jz)).1.2) v hz := by
  obtain ⟨hn, hn2, hh⟩ := I
  intro kz
  induction kz with
  | zero =>
    intro jz hj
    have hj : n = jz := by omega
    subst hj
    refine gf_iload dX2_payFloors_5 rfl ?_
    refine gf_aload_n 0 dX2_payFloors_7 rfl rfl ?_
    refine gf_getI flX2_82 rfl dX2_payFloors_8 (gt_186 hG) ?_
    refine gf_icmp_ge 113 dX2_payFloors_11 rfl (fun _ => ?_) (fun q => absurd (by rw [show hp_i (hcl h 186 (flS (besB h 21) left tog (X, R) (n)).1.1 (flS (besB h 21) left tog (X, R) (n)).1.2) 186 9 = nI n from (congrFun (flS_row _ _ _ _ (by decide) _) 9).trans hn]; exact Int32.le_refl _) q)
    exact gf_lw K ⟨rfl, rfl, rfl, rfl, rfl, trivial⟩
  | succ kz ih =>
    intro jz hj
    obtain ⟨a, x, ha, ea, hx9, hx⟩ := hh jz (by omega)
    have e5 : (flS (besB h 21) left tog (X, R) (jz)).1.1 5 jz = nI a := by rw [flS_row _ _ _ _ (by decide)]; exact ea
    have hS1 : (flS (besB h 21) left tog (X, R) (jz + 1)) = flB (besB h 21) left tog (X 5) (flS (besB h 21) left tog (X, R) (jz)) jz := rfl
    refine gf_iload dX2_payFloors_5 rfl ?_
    refine gf_aload_n 0 dX2_payFloors_7 rfl rfl ?_
    refine gf_getI flX2_82 rfl dX2_payFloors_8 (gt_186 hG) ?_
    refine gf_icmp_ge 113 dX2_payFloors_11 rfl (fun q => absurd q (by rw [show hp_i (hcl h 186 (flS (besB h 21) left tog (X, R) (jz)).1.1 (flS (besB h 21) left tog (X, R) (jz)).1.2) 186 9 = nI n from (congrFun (flS_row _ _ _ _ (by decide) _) 9).trans hn]; exact nI_ge (by omega) (by omega))) (fun _ => ?_)
    refine gf_aload_n 0 dX2_payFloors_14 rfl rfl ?_
    refine gf_getR flX2_28 rfl dX2_payFloors_15 (gt_186 hG) (gp_186_8 hG) ?_
    refine gf_iload dX2_payFloors_18 rfl ?_
    refine gf_ldc2 (-1) kcX2_131 dX2_payFloors_20 ?_
    refine gf_last 200 dX2_payFloors_23 (gt_192 hG) (gl_192 hG) rfl (by omega) (by decide) ?_
    rw [hc186_6]
    refine gf_iload_n 2 dX2_payFloors_24 rfl rfl ?_
    refine gf_if_le 107 dX2_payFloors_25 rfl (fun zc25 => ?_) (fun zc25 => ?_)
    · refine gf_iinc (1) dX2_payFloors_107 rfl rfl (Nat.le_of_ble_eq_true rfl) ?_
      refine gf_goto 5 dX2_payFloors_110 rfl ?_
      exact gf_hE (by rw [hS1, flB_f ea ha (fun q => by have q1 := q.1; rw [fa_lt] at q1; have q2 := zc25; rw [fa_le] at q2; omega)]) (gf_lw (ih (jz + 1) (by omega)) ⟨rfl, rfl, rfl, lvE (by rw [hS1, flB_f ea ha (fun q => by have q1 := q.1; rw [fa_lt] at q1; have q2 := zc25; rw [fa_le] at q2; omega)]), lvE (nI_1 jz), trivial⟩)
    · have htg : 0 < tog := by have q := zc25; rw [fa_le] at q; rw [fa_lt]; omega
      refine gf_aload_n 0 dX2_payFloors_28 rfl rfl ?_
      refine gf_aload_n 0 dX2_payFloors_29 rfl rfl ?_
      refine gf_getR flX2_25 rfl dX2_payFloors_30 (gt_186 hG) (gp_186_7 hG) ?_
      refine gf_iload dX2_payFloors_33 rfl ?_
      refine gf_iald 200 dX2_payFloors_35 (gt_191 hG) (gl_191 hG) rfl (by omega) (by decide) ?_
      rw [show hp_i (hcl h 186 (flS (besB h 21) left tog (X, R) (jz)).1.1 (va_up (flS (besB h 21) left tog (X, R) (jz)).1.2 jz (-1))) 191 jz = nI a from e5]
      refine gf_bipush (21) dX2_payFloors_36 rfl ?_
      refine gf_callV cmX2_isBeside lkX2_116 imX2_isBeside seX2_isBeside ⟨rfl, by decide⟩ dX2_payFloors_38 (d1 := d - 1) (by omega) (gt_186 hG) (e_X2_isBeside_186 E (by omega) 21 h hG (flS (besB h 21) left tog (X, R) (jz)).1.1 (va_up (flS (besB h 21) left tog (X, R) (jz)).1.2 jz (-1)) hT ha hx9 hx) rfl rfl (Nat.le_of_ble_eq_true rfl) ?_
      refine gf_if_eq 107 dX2_payFloors_41 rfl (fun zc41 => ?_) (fun zc41 => ?_)
      · refine gf_iinc (1) dX2_payFloors_107 rfl rfl (Nat.le_of_ble_eq_true rfl) ?_
        refine gf_goto 5 dX2_payFloors_110 rfl ?_
        exact gf_hE (by rw [hS1, flB_f ea ha (fun q => zb_0.mp zc41 q.2)]) (gf_lw (ih (jz + 1) (by omega)) ⟨rfl, rfl, rfl, lvE (by rw [hS1, flB_f ea ha (fun q => zb_0.mp zc41 q.2)]), lvE (nI_1 jz), trivial⟩)
      · refine gf_iload_n 1 dX2_payFloors_44 rfl rfl ?_
        refine gf_i2l dX2_payFloors_45 ?_
        refine gf_aload_n 0 dX2_payFloors_46 rfl rfl ?_
        refine gf_getR flX2_15 rfl dX2_payFloors_47 (gt_186 hG) (gp_186_1 hG) ?_
        refine gf_aload_n 0 dX2_payFloors_50 rfl rfl ?_
        refine gf_getR flX2_25 rfl dX2_payFloors_51 (gt_186 hG) (gp_186_7 hG) ?_
        refine gf_iload dX2_payFloors_54 rfl ?_
        refine gf_iald 200 dX2_payFloors_56 (gt_191 hG) (gl_191 hG) rfl (by omega) (by decide) ?_
        refine gf_iald 201 dX2_payFloors_57 (gt_188 hG) (gl_188 hG) e5 (by omega) (by decide) ?_
        refine gf_i2l dX2_payFloors_58 ?_
        refine gf_lmul dX2_payFloors_59 ?_
        refine gf_lstore dX2_payFloors_60 (Nat.le_of_ble_eq_true rfl) ?_
        refine gf_aload_n 0 dX2_payFloors_62 rfl rfl ?_
        refine gf_getR flX2_19 rfl dX2_payFloors_63 (gt_186 hG) (gp_186_2 hG) ?_
        refine gf_aload_n 0 dX2_payFloors_66 rfl rfl ?_
        refine gf_getR flX2_25 rfl dX2_payFloors_67 (gt_186 hG) (gp_186_7 hG) ?_
        refine gf_iload dX2_payFloors_70 rfl ?_
        refine gf_iald 200 dX2_payFloors_72 (gt_191 hG) (gl_191 hG) rfl (by omega) (by decide) ?_
        refine gf_lload dX2_payFloors_73 rfl ?_
        refine gf_iload_n 2 dX2_payFloors_75 rfl rfl ?_
        refine gf_i2l dX2_payFloors_76 ?_
        refine gf_ldiv dX2_payFloors_77 (i64_pos htg) ?_
        refine gf_l2i dX2_payFloors_78 ?_
        rw [show (left.toInt64 * (hp_i (hcl h 186 (flS (besB h 21) left tog (X, R) (jz)).1.1 (va_up (flS (besB h 21) left tog (X, R) (jz)).1.2 jz (-1))) 188 a).toInt64 / tog.toInt64).toInt32 = (flV left tog ((flS (besB h 21) left tog (X, R) (jz)).1.1 2 a)) from rfl]
        refine gf_iast 201 dX2_payFloors_79 (gt_189 hG) (gl_189 hG) e5 (by omega) (by decide) ?_
        rw [hc186_3]
        refine gf_aload_n 0 dX2_payFloors_80 rfl rfl ?_
        refine gf_getR flX2_28 rfl dX2_payFloors_81 (gt_186 hG) (gp_186_8 hG) ?_
        refine gf_iload dX2_payFloors_84 rfl ?_
        refine gf_lload dX2_payFloors_86 rfl ?_
        refine gf_iload_n 2 dX2_payFloors_88 rfl rfl ?_
        refine gf_i2l dX2_payFloors_89 ?_
        refine gf_lrem dX2_payFloors_90 (i64_pos htg) ?_
        rw [show left.toInt64 * (hp_i (hcl h 186 (flS (besB h 21) left tog (X, R) (jz)).1.1 (va_up (flS (besB h 21) left tog (X, R) (jz)).1.2 jz (-1))) 188 a).toInt64 - left.toInt64 * (hp_i (hcl h 186 (flS (besB h 21) left tog (X, R) (jz)).1.1 (va_up (flS (besB h 21) left tog (X, R) (jz)).1.2 jz (-1))) 188 a).toInt64 / tog.toInt64 * tog.toInt64 = (flR left tog ((flS (besB h 21) left tog (X, R) (jz)).1.1 2 a)) from rfl]
        refine gf_last 200 dX2_payFloors_91 (gt_192 hG) (gl_192 hG) rfl (by omega) (by decide) ?_
        rw [hc186_6]
        refine gf_iload_n 3 dX2_payFloors_92 rfl rfl ?_
        refine gf_aload_n 0 dX2_payFloors_93 rfl rfl ?_
        refine gf_getR flX2_19 rfl dX2_payFloors_94 (gt_186 hG) (gp_186_2 hG) ?_
        refine gf_aload_n 0 dX2_payFloors_97 rfl rfl ?_
        refine gf_getR flX2_25 rfl dX2_payFloors_98 (gt_186 hG) (gp_186_7 hG) ?_
        refine gf_iload dX2_payFloors_101 rfl ?_
        refine gf_iald 200 dX2_payFloors_103 (gt_191 hG) (gl_191 hG) rfl (by omega) (by decide) ?_
        refine gf_iald 201 dX2_payFloors_104 (gt_189 hG) (gl_189 hG) e5 (by omega) (by decide) ?_
        rw [show hp_i (hcl h 186 (up2 (flS (besB h 21) left tog (X, R) (jz)).1.1 3 a (flV left tog ((flS (besB h 21) left tog (X, R) (jz)).1.1 2 a))) (va_up (va_up (flS (besB h 21) left tog (X, R) (jz)).1.2 jz (-1)) jz (flR left tog ((flS (besB h 21) left tog (X, R) (jz)).1.1 2 a)))) 189 a = (flV left tog ((flS (besB h 21) left tog (X, R) (jz)).1.1 2 a)) from up2_s _ _ _ _]
        refine gf_isub dX2_payFloors_105 ?_
        refine gf_istore_n 3 dX2_payFloors_106 rfl (Nat.le_of_ble_eq_true rfl) ?_
        refine gf_iinc (1) dX2_payFloors_107 rfl rfl (Nat.le_of_ble_eq_true rfl) ?_
        refine gf_goto 5 dX2_payFloors_110 rfl ?_
        exact gf_hE (by rw [hS1, flB_t ea ha htg (zb_1.mp zc41)]) (gf_lw (ih (jz + 1) (by omega)) ⟨rfl, rfl, rfl, lvE (by rw [hS1, flB_t ea ha htg (zb_1.mp zc41)]), lvE (nI_1 jz), trivial⟩)
theorem e_X2_payFloors_186 (E : gE) {d : Nat} (hd : 1 ≤ d) {n : Nat} (left tog : Int32) (h : hp_T) (hG : gr h) (X : Nat → Nat → Int32) (R : Nat → Int64) (hT : tagT h) (I : herI h n X) : ev E mX2_payFloors d [.ref (E.1 + 186), .int left, .int tog] (hcl h 186 X R) (some (.int (flS (besB h 21) left tog (X, R) (n)).2)) (hcl h 186 (flS (besB h 21) left tog (X, R) (n)).1.1 (flS (besB h 21) left tog (X, R) (n)).1.2) := by
  refine ev_of rfl (fun q => absurd q (by decide)) (Nat.le_of_ble_eq_true rfl) ?_
  refine gf_iload_n 1 dX2_payFloors_0 rfl rfl ?_
  refine gf_istore_n 3 dX2_payFloors_1 rfl (Nat.le_of_ble_eq_true rfl) ?_
  refine gf_iconst (0) dX2_payFloors_2 rfl ?_
  refine gf_istore dX2_payFloors_3 (Nat.le_of_ble_eq_true rfl) ?_
  refine gf_lw (l_X2_payFloors_186 E hd left tog h hG X R hT I ?_ n 0 (by omega)) ⟨rfl, rfl, rfl, rfl, rfl, trivial⟩
  refine gf_iload_n 3 dX2_payFloors_113 rfl rfl ?_
  exact gf_iretE dX2_payFloors_114 rfl (rfl) (rfl)
theorem l_X2_payRests1_186 (E : gE) {d : Nat} {n t : Nat} (lacks : Int32) (h : hp_T) (hG : gr h) (X : Nat → Nat → Int32) (R : Nat → Int64) (hn : X 0 9 = nI n) (hn1 : 1 ≤ n) (hn2 : n ≤ 200) {v : Option Value} {hz : hp_T} (K : gf E mX2_payRests d 55 [(0, .ref (E.1 + 186)), (1, .int lacks), (2, .int (nI t)), (3, .int (nI (greS R ((n - 1))))), (4, .int (nI ((n - 1) + 1)))] [] (hcl h 186 X R) v hz) : ∀ (kz jz : Nat), jz + kz = (n - 1) → gf E mX2_payRests d 20 [(0, .ref (E.1 + 186)), (1, .int lacks), (2, .int (nI t)), (3, .int (nI (greS R (jz)))), (4, .int (nI (jz + 1)))] [] (hcl h 186 X R) v hz := by
  intro kz
  induction kz with
  | zero =>
    intro jz hj
    have hj : (n - 1) = jz := by omega
    subst hj
    refine gf_iload dX2_payRests_20 rfl ?_
    refine gf_aload_n 0 dX2_payRests_22 rfl rfl ?_
    refine gf_getI flX2_82 rfl dX2_payRests_23 (gt_186 hG) ?_
    refine gf_icmp_ge 55 dX2_payRests_26 rfl (fun _ => ?_) (fun q => absurd (by rw [show hp_i (hcl h 186 X R) 186 9 = nI n from hn]; exact nI_le (by omega) (by omega)) q)
    exact gf_lw K ⟨rfl, rfl, rfl, rfl, rfl, trivial⟩
  | succ kz ih =>
    intro jz hj
    have hgr := greS_le R jz
    refine gf_iload dX2_payRests_20 rfl ?_
    refine gf_aload_n 0 dX2_payRests_22 rfl rfl ?_
    refine gf_getI flX2_82 rfl dX2_payRests_23 (gt_186 hG) ?_
    refine gf_icmp_ge 55 dX2_payRests_26 rfl (fun q => absurd q (by rw [show hp_i (hcl h 186 X R) 186 9 = nI n from hn]; exact nI_ge (by omega) (by omega))) (fun _ => ?_)
    refine gf_aload_n 0 dX2_payRests_29 rfl rfl ?_
    refine gf_getR flX2_28 rfl dX2_payRests_30 (gt_186 hG) (gp_186_8 hG) ?_
    refine gf_iload dX2_payRests_33 rfl ?_
    refine gf_lald 200 dX2_payRests_35 (gt_192 hG) (gl_192 hG) rfl (by omega) (by decide) ?_
    refine gf_aload_n 0 dX2_payRests_36 rfl rfl ?_
    refine gf_getR flX2_28 rfl dX2_payRests_37 (gt_186 hG) (gp_186_8 hG) ?_
    refine gf_iload_n 3 dX2_payRests_40 rfl rfl ?_
    refine gf_lald 200 dX2_payRests_41 (gt_192 hG) (gl_192 hG) rfl (by omega) (by decide) ?_
    refine gf_lcmp dX2_payRests_42 ?_
    refine gf_if_le 49 dX2_payRests_43 rfl (fun zc43 => ?_) (fun zc43 => ?_)
    · refine gf_iinc (1) dX2_payRests_49 rfl rfl (Nat.le_of_ble_eq_true rfl) ?_
      refine gf_goto 20 dX2_payRests_52 rfl ?_
      exact gf_lw (ih (jz + 1) (by omega)) ⟨rfl, rfl, rfl, lvE (by rw [show greS R (jz + 1) = greS R jz from if_neg (fun (q : R (greS R jz) < R (jz + 1)) => by have w : lg_cmp (R (jz + 1)) (R (greS R jz)) ≤ 0 := zc43; rw [lg_cmp_le] at w; rw [fa_le64] at w; rw [fa_lt64] at q; omega)]), lvE (nI_1 (jz + 1)), trivial⟩
    · refine gf_iload dX2_payRests_46 rfl ?_
      refine gf_istore_n 3 dX2_payRests_48 rfl (Nat.le_of_ble_eq_true rfl) ?_
      refine gf_iinc (1) dX2_payRests_49 rfl rfl (Nat.le_of_ble_eq_true rfl) ?_
      refine gf_goto 20 dX2_payRests_52 rfl ?_
      exact gf_lw (ih (jz + 1) (by omega)) ⟨rfl, rfl, rfl, lvE (by rw [show greS R (jz + 1) = jz + 1 from if_pos (by show R (greS R jz) < R (jz + 1); have w : ¬ lg_cmp (R (jz + 1)) (R (greS R jz)) ≤ 0 := zc43; rw [lg_cmp_le] at w; rw [fa_le64] at w; rw [fa_lt64]; omega)]), lvE (nI_1 (jz + 1)), trivial⟩
theorem l_X2_payRests_186 (E : gE) {d : Nat} {n : Nat} (lacks : Int32) (h : hp_T) (hG : gr h) (X : Nat → Nat → Int32) (R : Nat → Int64) (I : herI h n X) : ∀ (kz jz : Nat), jz + kz = min lacks.toNatClampNeg n → gf E mX2_payRests d 2 [(0, .ref (E.1 + 186)), (1, .int lacks), (2, .int (nI (jz)))] [] (hcl h 186 (prS n (X, R) (jz)).1 (prS n (X, R) (jz)).2) none (hcl h 186 (prS n (X, R) ((min lacks.toNatClampNeg n))).1 (prS n (X, R) ((min lacks.toNatClampNeg n))).2) := by
  obtain ⟨hn, hn2, hh⟩ := I
  intro kz
  induction kz with
  | zero =>
    intro jz hj
    have hj : min lacks.toNatClampNeg n = jz := by omega
    rw [hj]
    refine gf_iload_n 2 dX2_payRests_2 rfl rfl ?_
    refine gf_iload_n 1 dX2_payRests_3 rfl rfl ?_
    refine gf_icmp_ge 85 dX2_payRests_4 rfl (fun zc4 => ?_) (fun zc4 => ?_)
    · exact gf_vretE dX2_payRests_85 rfl (rfl)
    · refine gf_iload_n 2 dX2_payRests_7 rfl rfl ?_
      refine gf_aload_n 0 dX2_payRests_8 rfl rfl ?_
      refine gf_getI flX2_82 rfl dX2_payRests_9 (gt_186 hG) ?_
      refine gf_icmp_ge 85 dX2_payRests_12 rfl (fun zc12 => ?_) (fun zc12 => ?_)
      · skip
        exact gf_vretE dX2_payRests_85 rfl (rfl)
      · have hlt : jz < n := by
          have q := zc12
          rw [show hp_i (hcl h 186 (prS n (X, R) (jz)).1 (prS n (X, R) (jz)).2) 186 9 = nI n from (congrFun (prS_row _ _ (by decide) _) 9).trans hn] at q
          rcases Nat.lt_or_ge jz n with w | w
          · exact w
          · exact absurd (nI_le w (by omega)) q
        exact absurd (hj ▸ rfl) (fun (_ : jz = jz) => nI_min_end (x := lacks) (n := n) (by rw [hj]; exact zc4) (by rw [hj]; exact hlt))
  | succ kz ih =>
    intro jz hj
    have hgo := nI_min_go (x := lacks) (n := n) (k := jz) (by omega)
    have hgr := greS_le (prS n (X, R) (jz)).2 (n - 1)
    obtain ⟨a, x, ha, ea, -⟩ := hh (greS (prS n (X, R) (jz)).2 (n - 1)) (by omega)
    have e5 : (prS n (X, R) (jz)).1 5 (greS (prS n (X, R) (jz)).2 (n - 1)) = nI a := by rw [prS_row _ _ (by decide)]; exact ea
    have hS1 : (prS n (X, R) (jz + 1)) = (up2 (prS n (X, R) (jz)).1 3 a ((prS n (X, R) (jz)).1 3 a + 1), va_up (prS n (X, R) (jz)).2 (greS (prS n (X, R) (jz)).2 (n - 1)) (-1)) := by
      show prB n (prS n (X, R) (jz)) jz = _
      unfold prB
      rw [e5, nI_clamp (by omega)]
    refine gf_iload_n 2 dX2_payRests_2 rfl rfl ?_
    refine gf_iload_n 1 dX2_payRests_3 rfl rfl ?_
    refine gf_icmp_ge 85 dX2_payRests_4 rfl (fun q => absurd q (hgo.1)) (fun _ => ?_)
    refine gf_iload_n 2 dX2_payRests_7 rfl rfl ?_
    refine gf_aload_n 0 dX2_payRests_8 rfl rfl ?_
    refine gf_getI flX2_82 rfl dX2_payRests_9 (gt_186 hG) ?_
    refine gf_icmp_ge 85 dX2_payRests_12 rfl (fun q => absurd q (by rw [show hp_i (hcl h 186 (prS n (X, R) (jz)).1 (prS n (X, R) (jz)).2) 186 9 = nI n from (congrFun (prS_row _ _ (by decide) _) 9).trans hn]; exact nI_ge hgo.2 (by omega))) (fun _ => ?_)
    refine gf_iconst (0) dX2_payRests_15 rfl ?_
    refine gf_istore_n 3 dX2_payRests_16 rfl (Nat.le_of_ble_eq_true rfl) ?_
    refine gf_iconst (1) dX2_payRests_17 rfl ?_
    refine gf_istore dX2_payRests_18 (Nat.le_of_ble_eq_true rfl) ?_
    refine gf_lw (l_X2_payRests1_186 E (n := n) (t := jz) lacks h hG (prS n (X, R) (jz)).1 (prS n (X, R) (jz)).2 ((congrFun (prS_row _ _ (by decide) _) 9).trans hn) (by omega) hn2 ?_ (n - 1) 0 (by omega)) ⟨rfl, rfl, rfl, rfl, rfl, trivial⟩
    refine gf_aload_n 0 dX2_payRests_55 rfl rfl ?_
    refine gf_getR flX2_19 rfl dX2_payRests_56 (gt_186 hG) (gp_186_2 hG) ?_
    refine gf_aload_n 0 dX2_payRests_59 rfl rfl ?_
    refine gf_getR flX2_25 rfl dX2_payRests_60 (gt_186 hG) (gp_186_7 hG) ?_
    refine gf_iload_n 3 dX2_payRests_63 rfl rfl ?_
    refine gf_iald 200 dX2_payRests_64 (gt_191 hG) (gl_191 hG) rfl (by omega) (by decide) ?_
    refine gf_dup2 dX2_payRests_65 rfl rfl ?_
    refine gf_iald 201 dX2_payRests_66 (gt_189 hG) (gl_189 hG) e5 (by omega) (by decide) ?_
    refine gf_iconst (1) dX2_payRests_67 rfl ?_
    refine gf_iadd dX2_payRests_68 ?_
    refine gf_iast 201 dX2_payRests_69 (gt_189 hG) (gl_189 hG) e5 (by omega) (by decide) ?_
    rw [hc186_3]
    refine gf_aload_n 0 dX2_payRests_70 rfl rfl ?_
    refine gf_getR flX2_28 rfl dX2_payRests_71 (gt_186 hG) (gp_186_8 hG) ?_
    refine gf_iload_n 3 dX2_payRests_74 rfl rfl ?_
    refine gf_ldc2 (-1) kcX2_131 dX2_payRests_75 ?_
    refine gf_last 200 dX2_payRests_78 (gt_192 hG) (gl_192 hG) rfl (by omega) (by decide) ?_
    rw [hc186_6]
    refine gf_iinc (1) dX2_payRests_79 rfl rfl (Nat.le_of_ble_eq_true rfl) ?_
    refine gf_goto 2 dX2_payRests_82 rfl ?_
    exact gf_hE (by rw [hS1]; rfl) (gf_lw (ih (jz + 1) (by omega)) ⟨rfl, rfl, lvE (nI_1 jz), trivial⟩)
theorem e_X2_payRests_186 (E : gE) {d : Nat} (hd : 0 ≤ d) {n : Nat} (lacks : Int32) (h : hp_T) (hG : gr h) (X : Nat → Nat → Int32) (R : Nat → Int64) (I : herI h n X) : ev E mX2_payRests d [.ref (E.1 + 186), .int lacks] (hcl h 186 X R) (none) (hcl h 186 (prS n (X, R) ((min lacks.toNatClampNeg n))).1 (prS n (X, R) ((min lacks.toNatClampNeg n))).2) := by
  refine ev_of rfl (fun q => absurd q (by decide)) (Nat.le_of_ble_eq_true rfl) ?_
  refine gf_iconst (0) dX2_payRests_0 rfl ?_
  refine gf_istore_n 2 dX2_payRests_1 rfl (Nat.le_of_ble_eq_true rfl) ?_
  refine gf_lw (l_X2_payRests_186 E lacks h hG X R I (min lacks.toNatClampNeg n) 0 (by omega)) ⟨rfl, rfl, rfl, trivial⟩
theorem l_X2_payByParts_186 (E : gE) {d : Nat} (hd : 1 ≤ d) {n : Nat} (left : Int32) (h : hp_T) (hG : gr h) (X : Nat → Nat → Int32) (R : Nat → Int64) (hT : tagT h) (I : herI h n X) {v : Option Value} {hz : hp_T} (K : gf E mX2_payByParts d 47 [(0, .ref (E.1 + 186)), (1, .int left), (2, .int (pbpT (besB h 21) X (n))), (3, .int (nI (n)))] [] (hcl h 186 X R) v hz) : ∀ (kz jz : Nat), jz + kz = n → gf E mX2_payByParts d 4 [(0, .ref (E.1 + 186)), (1, .int left), (2, .int (pbpT (besB h 21) X (jz))), (3, .int (nI (jz)))] [] (hcl h 186 X R) v hz := by
  obtain ⟨hn, hn2, hh⟩ := I
  intro kz
  induction kz with
  | zero =>
    intro jz hj
    have hj : n = jz := by omega
    subst hj
    refine gf_iload_n 3 dX2_payByParts_4 rfl rfl ?_
    refine gf_aload_n 0 dX2_payByParts_5 rfl rfl ?_
    refine gf_getI flX2_82 rfl dX2_payByParts_6 (gt_186 hG) ?_
    refine gf_icmp_ge 47 dX2_payByParts_9 rfl (fun _ => ?_) (fun q => absurd (by rw [show hp_i (hcl h 186 X R) 186 9 = nI n from hn]; exact Int32.le_refl _) q)
    exact gf_lw K ⟨rfl, rfl, rfl, rfl, trivial⟩
  | succ kz ih =>
    intro jz hj
    obtain ⟨a, x, ha, ea, hx9, hx⟩ := hh jz (by omega)
    have hS1 : (pbpT (besB h 21) X (jz + 1)) = togB (besB h 21) X (pbpT (besB h 21) X (jz)) jz := rfl
    refine gf_iload_n 3 dX2_payByParts_4 rfl rfl ?_
    refine gf_aload_n 0 dX2_payByParts_5 rfl rfl ?_
    refine gf_getI flX2_82 rfl dX2_payByParts_6 (gt_186 hG) ?_
    refine gf_icmp_ge 47 dX2_payByParts_9 rfl (fun q => absurd q (by rw [show hp_i (hcl h 186 X R) 186 9 = nI n from hn]; exact nI_ge (by omega) (by omega))) (fun _ => ?_)
    refine gf_aload_n 0 dX2_payByParts_12 rfl rfl ?_
    refine gf_aload_n 0 dX2_payByParts_13 rfl rfl ?_
    refine gf_getR flX2_25 rfl dX2_payByParts_14 (gt_186 hG) (gp_186_7 hG) ?_
    refine gf_iload_n 3 dX2_payByParts_17 rfl rfl ?_
    refine gf_iald 200 dX2_payByParts_18 (gt_191 hG) (gl_191 hG) rfl (by omega) (by decide) ?_
    rw [show hp_i (hcl h 186 X R) 191 jz = nI a from ea]
    refine gf_bipush (21) dX2_payByParts_19 rfl ?_
    refine gf_callV cmX2_isBeside lkX2_116 imX2_isBeside seX2_isBeside ⟨rfl, by decide⟩ dX2_payByParts_21 (d1 := d - 1) (by omega) (gt_186 hG) (e_X2_isBeside_186 E (by omega) 21 h hG X R hT ha hx9 hx) rfl rfl (Nat.le_of_ble_eq_true rfl) ?_
    refine gf_if_eq 41 dX2_payByParts_24 rfl (fun zc24 => ?_) (fun zc24 => ?_)
    · refine gf_iinc (1) dX2_payByParts_41 rfl rfl (Nat.le_of_ble_eq_true rfl) ?_
      refine gf_goto 4 dX2_payByParts_44 rfl ?_
      exact gf_lw (ih (jz + 1) (by omega)) ⟨rfl, rfl, lvE (by rw [hS1, togB_f ea ha (zb_0.mp zc24)]), lvE (nI_1 jz), trivial⟩
    · refine gf_iload_n 2 dX2_payByParts_27 rfl rfl ?_
      refine gf_aload_n 0 dX2_payByParts_28 rfl rfl ?_
      refine gf_getR flX2_15 rfl dX2_payByParts_29 (gt_186 hG) (gp_186_1 hG) ?_
      refine gf_aload_n 0 dX2_payByParts_32 rfl rfl ?_
      refine gf_getR flX2_25 rfl dX2_payByParts_33 (gt_186 hG) (gp_186_7 hG) ?_
      refine gf_iload_n 3 dX2_payByParts_36 rfl rfl ?_
      refine gf_iald 200 dX2_payByParts_37 (gt_191 hG) (gl_191 hG) rfl (by omega) (by decide) ?_
      refine gf_iald 201 dX2_payByParts_38 (gt_188 hG) (gl_188 hG) ea (by omega) (by decide) ?_
      refine gf_iadd dX2_payByParts_39 ?_
      refine gf_istore_n 2 dX2_payByParts_40 rfl (Nat.le_of_ble_eq_true rfl) ?_
      refine gf_iinc (1) dX2_payByParts_41 rfl rfl (Nat.le_of_ble_eq_true rfl) ?_
      refine gf_goto 4 dX2_payByParts_44 rfl ?_
      exact gf_lw (ih (jz + 1) (by omega)) ⟨rfl, rfl, lvE (by rw [hS1, togB_t ea ha (zb_1.mp zc24)]; rfl), lvE (nI_1 jz), trivial⟩
theorem e_X2_payByParts_186 (E : gE) {d : Nat} (hd : 2 ≤ d) {n : Nat} (left : Int32) (h : hp_T) (hG : gr h) (X : Nat → Nat → Int32) (R : Nat → Int64) (hT : tagT h) (I : herI h n X) : ev E mX2_payByParts d [.ref (E.1 + 186), .int left] (hcl h 186 X R) (some (.int (pbpS (besB h 21) (X, R) left n).2)) (hcl h 186 (pbpS (besB h 21) (X, R) left n).1.1 (pbpS (besB h 21) (X, R) left n).1.2) := by
  refine ev_of rfl (fun q => absurd q (by decide)) (Nat.le_of_ble_eq_true rfl) ?_
  refine gf_iconst (0) dX2_payByParts_0 rfl ?_
  refine gf_istore_n 2 dX2_payByParts_1 rfl (Nat.le_of_ble_eq_true rfl) ?_
  refine gf_iconst (0) dX2_payByParts_2 rfl ?_
  refine gf_istore_n 3 dX2_payByParts_3 rfl (Nat.le_of_ble_eq_true rfl) ?_
  refine gf_lw (l_X2_payByParts_186 E (by omega) left h hG X R hT I ?_ n 0 (by omega)) ⟨rfl, rfl, rfl, rfl, trivial⟩
  refine gf_iload_n 2 dX2_payByParts_47 rfl rfl ?_
  refine gf_iload_n 1 dX2_payByParts_48 rfl rfl ?_
  refine gf_icmp_gt 60 dX2_payByParts_49 rfl (fun zc49 => ?_) (fun zc49 => ?_)
  · have eP : (pbpS (besB h 21) (X, R) left n) = (prS n (flS (besB h 21) left (pbpT (besB h 21) X (n)) (X, R) n).1 (min (flS (besB h 21) left (pbpT (besB h 21) X (n)) (X, R) n).2.toNatClampNeg n), 0) := if_pos zc49
    refine gf_aload_n 0 dX2_payByParts_60 rfl rfl ?_
    refine gf_iload_n 1 dX2_payByParts_61 rfl rfl ?_
    refine gf_iload_n 2 dX2_payByParts_62 rfl rfl ?_
    refine gf_callV cmX2_payFloors lkX2_125 imX2_payFloors seX2_payFloors ⟨rfl, by decide⟩ dX2_payByParts_63 (d1 := d - 1) (by omega) (gt_186 hG) (e_X2_payFloors_186 E (by omega) left (pbpT (besB h 21) X (n)) h hG X R hT I) rfl rfl (Nat.le_of_ble_eq_true rfl) ?_
    refine gf_istore_n 3 dX2_payByParts_66 rfl (Nat.le_of_ble_eq_true rfl) ?_
    refine gf_aload_n 0 dX2_payByParts_67 rfl rfl ?_
    refine gf_iload_n 3 dX2_payByParts_68 rfl rfl ?_
    refine gf_callV cmX2_payRests lkX2_128 imX2_payRests seX2_payRests ⟨rfl, by decide⟩ dX2_payByParts_69 (d1 := d - 1) (by omega) (gt_186 hG) (e_X2_payRests_186 E (by omega) (flS (besB h 21) left (pbpT (besB h 21) X (n)) (X, R) n).2 h hG (flS (besB h 21) left (pbpT (besB h 21) X (n)) (X, R) n).1.1 (flS (besB h 21) left (pbpT (besB h 21) X (n)) (X, R) n).1.2 (herI_row I (flS_row _ _ _ _ (by decide) _) (flS_row _ _ _ _ (by decide) _))) rfl rfl (Nat.le_of_ble_eq_true rfl) ?_
    refine gf_iconst (0) dX2_payByParts_72 rfl ?_
    exact gf_iretE dX2_payByParts_73 rfl (by rw [eP]) (by rw [eP])
  · have eP : (pbpS (besB h 21) (X, R) left n) = (((pitS (besB h 21) X left n).1, R), (pitS (besB h 21) X left n).2) := if_neg zc49
    refine gf_aload_n 0 dX2_payByParts_52 rfl rfl ?_
    refine gf_bipush (21) dX2_payByParts_53 rfl ?_
    refine gf_iload_n 1 dX2_payByParts_55 rfl rfl ?_
    refine gf_callV cmX2_payInTurn lkX2_103 imX2_payInTurn seX2_payInTurn ⟨rfl, by decide⟩ dX2_payByParts_56 (d1 := d - 1) (by omega) (gt_186 hG) (e_X2_payInTurn_186 E (by omega) 21 left h hG X R hT I) rfl rfl (Nat.le_of_ble_eq_true rfl) ?_
    exact gf_iretE dX2_payByParts_59 rfl (by rw [eP]) (by rw [eP])
theorem l_X2_payFloors_205 (E : gE) {d : Nat} (hd : 1 ≤ d) {n : Nat} (left tog : Int32) (h : hp_T) (hG : gr h) (X : Nat → Nat → Int32) (R : Nat → Int64) (hT : tagT h) (I : herI h n X) {v : Option Value} {hz : hp_T} (K : gf E mX2_payFloors d 113 [(0, .ref (E.1 + 205)), (1, .int left), (2, .int tog), (3, .int (flS (besB h 21) left tog (X, R) (n)).2), (4, .int (nI (n)))] [] (hcl h 205 (flS (besB h 21) left tog (X, R) (n)).1.1 (flS (besB h 21) left tog (X, R) (n)).1.2) v hz) : ∀ (kz jz : Nat), jz + kz = n → gf E mX2_payFloors d 5 [(0, .ref (E.1 + 205)), (1, .int left), (2, .int tog), (3, .int (flS (besB h 21) left tog (X, R) (jz)).2), (4, .int (nI (jz)))] [] (hcl h 205 (flS (besB h 21) left tog (X, R) (jz)).1.1 (flS (besB h 21) left tog (X, R) (jz)).1.2) v hz := by
  obtain ⟨hn, hn2, hh⟩ := I
  intro kz
  induction kz with
  | zero =>
    intro jz hj
    have hj : n = jz := by omega
    subst hj
    refine gf_iload dX2_payFloors_5 rfl ?_
    refine gf_aload_n 0 dX2_payFloors_7 rfl rfl ?_
    refine gf_getI flX2_82 rfl dX2_payFloors_8 (gt_205 hG) ?_
    refine gf_icmp_ge 113 dX2_payFloors_11 rfl (fun _ => ?_) (fun q => absurd (by rw [show hp_i (hcl h 205 (flS (besB h 21) left tog (X, R) (n)).1.1 (flS (besB h 21) left tog (X, R) (n)).1.2) 205 9 = nI n from (congrFun (flS_row _ _ _ _ (by decide) _) 9).trans hn]; exact Int32.le_refl _) q)
    exact gf_lw K ⟨rfl, rfl, rfl, rfl, rfl, trivial⟩
  | succ kz ih =>
    intro jz hj
    obtain ⟨a, x, ha, ea, hx9, hx⟩ := hh jz (by omega)
    have e5 : (flS (besB h 21) left tog (X, R) (jz)).1.1 5 jz = nI a := by rw [flS_row _ _ _ _ (by decide)]; exact ea
    have hS1 : (flS (besB h 21) left tog (X, R) (jz + 1)) = flB (besB h 21) left tog (X 5) (flS (besB h 21) left tog (X, R) (jz)) jz := rfl
    refine gf_iload dX2_payFloors_5 rfl ?_
    refine gf_aload_n 0 dX2_payFloors_7 rfl rfl ?_
    refine gf_getI flX2_82 rfl dX2_payFloors_8 (gt_205 hG) ?_
    refine gf_icmp_ge 113 dX2_payFloors_11 rfl (fun q => absurd q (by rw [show hp_i (hcl h 205 (flS (besB h 21) left tog (X, R) (jz)).1.1 (flS (besB h 21) left tog (X, R) (jz)).1.2) 205 9 = nI n from (congrFun (flS_row _ _ _ _ (by decide) _) 9).trans hn]; exact nI_ge (by omega) (by omega))) (fun _ => ?_)
    refine gf_aload_n 0 dX2_payFloors_14 rfl rfl ?_
    refine gf_getR flX2_28 rfl dX2_payFloors_15 (gt_205 hG) (gp_205_8 hG) ?_
    refine gf_iload dX2_payFloors_18 rfl ?_
    refine gf_ldc2 (-1) kcX2_131 dX2_payFloors_20 ?_
    refine gf_last 200 dX2_payFloors_23 (gt_211 hG) (gl_211 hG) rfl (by omega) (by decide) ?_
    rw [hc205_6]
    refine gf_iload_n 2 dX2_payFloors_24 rfl rfl ?_
    refine gf_if_le 107 dX2_payFloors_25 rfl (fun zc25 => ?_) (fun zc25 => ?_)
    · refine gf_iinc (1) dX2_payFloors_107 rfl rfl (Nat.le_of_ble_eq_true rfl) ?_
      refine gf_goto 5 dX2_payFloors_110 rfl ?_
      exact gf_hE (by rw [hS1, flB_f ea ha (fun q => by have q1 := q.1; rw [fa_lt] at q1; have q2 := zc25; rw [fa_le] at q2; omega)]) (gf_lw (ih (jz + 1) (by omega)) ⟨rfl, rfl, rfl, lvE (by rw [hS1, flB_f ea ha (fun q => by have q1 := q.1; rw [fa_lt] at q1; have q2 := zc25; rw [fa_le] at q2; omega)]), lvE (nI_1 jz), trivial⟩)
    · have htg : 0 < tog := by have q := zc25; rw [fa_le] at q; rw [fa_lt]; omega
      refine gf_aload_n 0 dX2_payFloors_28 rfl rfl ?_
      refine gf_aload_n 0 dX2_payFloors_29 rfl rfl ?_
      refine gf_getR flX2_25 rfl dX2_payFloors_30 (gt_205 hG) (gp_205_7 hG) ?_
      refine gf_iload dX2_payFloors_33 rfl ?_
      refine gf_iald 200 dX2_payFloors_35 (gt_210 hG) (gl_210 hG) rfl (by omega) (by decide) ?_
      rw [show hp_i (hcl h 205 (flS (besB h 21) left tog (X, R) (jz)).1.1 (va_up (flS (besB h 21) left tog (X, R) (jz)).1.2 jz (-1))) 210 jz = nI a from e5]
      refine gf_bipush (21) dX2_payFloors_36 rfl ?_
      refine gf_callV cmX2_isBeside lkX2_116 imX2_isBeside seX2_isBeside ⟨rfl, by decide⟩ dX2_payFloors_38 (d1 := d - 1) (by omega) (gt_205 hG) (e_X2_isBeside_205 E (by omega) 21 h hG (flS (besB h 21) left tog (X, R) (jz)).1.1 (va_up (flS (besB h 21) left tog (X, R) (jz)).1.2 jz (-1)) hT ha hx9 hx) rfl rfl (Nat.le_of_ble_eq_true rfl) ?_
      refine gf_if_eq 107 dX2_payFloors_41 rfl (fun zc41 => ?_) (fun zc41 => ?_)
      · refine gf_iinc (1) dX2_payFloors_107 rfl rfl (Nat.le_of_ble_eq_true rfl) ?_
        refine gf_goto 5 dX2_payFloors_110 rfl ?_
        exact gf_hE (by rw [hS1, flB_f ea ha (fun q => zb_0.mp zc41 q.2)]) (gf_lw (ih (jz + 1) (by omega)) ⟨rfl, rfl, rfl, lvE (by rw [hS1, flB_f ea ha (fun q => zb_0.mp zc41 q.2)]), lvE (nI_1 jz), trivial⟩)
      · refine gf_iload_n 1 dX2_payFloors_44 rfl rfl ?_
        refine gf_i2l dX2_payFloors_45 ?_
        refine gf_aload_n 0 dX2_payFloors_46 rfl rfl ?_
        refine gf_getR flX2_15 rfl dX2_payFloors_47 (gt_205 hG) (gp_205_1 hG) ?_
        refine gf_aload_n 0 dX2_payFloors_50 rfl rfl ?_
        refine gf_getR flX2_25 rfl dX2_payFloors_51 (gt_205 hG) (gp_205_7 hG) ?_
        refine gf_iload dX2_payFloors_54 rfl ?_
        refine gf_iald 200 dX2_payFloors_56 (gt_210 hG) (gl_210 hG) rfl (by omega) (by decide) ?_
        refine gf_iald 201 dX2_payFloors_57 (gt_207 hG) (gl_207 hG) e5 (by omega) (by decide) ?_
        refine gf_i2l dX2_payFloors_58 ?_
        refine gf_lmul dX2_payFloors_59 ?_
        refine gf_lstore dX2_payFloors_60 (Nat.le_of_ble_eq_true rfl) ?_
        refine gf_aload_n 0 dX2_payFloors_62 rfl rfl ?_
        refine gf_getR flX2_19 rfl dX2_payFloors_63 (gt_205 hG) (gp_205_2 hG) ?_
        refine gf_aload_n 0 dX2_payFloors_66 rfl rfl ?_
        refine gf_getR flX2_25 rfl dX2_payFloors_67 (gt_205 hG) (gp_205_7 hG) ?_
        refine gf_iload dX2_payFloors_70 rfl ?_
        refine gf_iald 200 dX2_payFloors_72 (gt_210 hG) (gl_210 hG) rfl (by omega) (by decide) ?_
        refine gf_lload dX2_payFloors_73 rfl ?_
        refine gf_iload_n 2 dX2_payFloors_75 rfl rfl ?_
        refine gf_i2l dX2_payFloors_76 ?_
        refine gf_ldiv dX2_payFloors_77 (i64_pos htg) ?_
        refine gf_l2i dX2_payFloors_78 ?_
        rw [show (left.toInt64 * (hp_i (hcl h 205 (flS (besB h 21) left tog (X, R) (jz)).1.1 (va_up (flS (besB h 21) left tog (X, R) (jz)).1.2 jz (-1))) 207 a).toInt64 / tog.toInt64).toInt32 = (flV left tog ((flS (besB h 21) left tog (X, R) (jz)).1.1 2 a)) from rfl]
        refine gf_iast 201 dX2_payFloors_79 (gt_208 hG) (gl_208 hG) e5 (by omega) (by decide) ?_
        rw [hc205_3]
        refine gf_aload_n 0 dX2_payFloors_80 rfl rfl ?_
        refine gf_getR flX2_28 rfl dX2_payFloors_81 (gt_205 hG) (gp_205_8 hG) ?_
        refine gf_iload dX2_payFloors_84 rfl ?_
        refine gf_lload dX2_payFloors_86 rfl ?_
        refine gf_iload_n 2 dX2_payFloors_88 rfl rfl ?_
        refine gf_i2l dX2_payFloors_89 ?_
        refine gf_lrem dX2_payFloors_90 (i64_pos htg) ?_
        rw [show left.toInt64 * (hp_i (hcl h 205 (flS (besB h 21) left tog (X, R) (jz)).1.1 (va_up (flS (besB h 21) left tog (X, R) (jz)).1.2 jz (-1))) 207 a).toInt64 - left.toInt64 * (hp_i (hcl h 205 (flS (besB h 21) left tog (X, R) (jz)).1.1 (va_up (flS (besB h 21) left tog (X, R) (jz)).1.2 jz (-1))) 207 a).toInt64 / tog.toInt64 * tog.toInt64 = (flR left tog ((flS (besB h 21) left tog (X, R) (jz)).1.1 2 a)) from rfl]
        refine gf_last 200 dX2_payFloors_91 (gt_211 hG) (gl_211 hG) rfl (by omega) (by decide) ?_
        rw [hc205_6]
        refine gf_iload_n 3 dX2_payFloors_92 rfl rfl ?_
        refine gf_aload_n 0 dX2_payFloors_93 rfl rfl ?_
        refine gf_getR flX2_19 rfl dX2_payFloors_94 (gt_205 hG) (gp_205_2 hG) ?_
        refine gf_aload_n 0 dX2_payFloors_97 rfl rfl ?_
        refine gf_getR flX2_25 rfl dX2_payFloors_98 (gt_205 hG) (gp_205_7 hG) ?_
        refine gf_iload dX2_payFloors_101 rfl ?_
        refine gf_iald 200 dX2_payFloors_103 (gt_210 hG) (gl_210 hG) rfl (by omega) (by decide) ?_
        refine gf_iald 201 dX2_payFloors_104 (gt_208 hG) (gl_208 hG) e5 (by omega) (by decide) ?_
        rw [show hp_i (hcl h 205 (up2 (flS (besB h 21) left tog (X, R) (jz)).1.1 3 a (flV left tog ((flS (besB h 21) left tog (X, R) (jz)).1.1 2 a))) (va_up (va_up (flS (besB h 21) left tog (X, R) (jz)).1.2 jz (-1)) jz (flR left tog ((flS (besB h 21) left tog (X, R) (jz)).1.1 2 a)))) 208 a = (flV left tog ((flS (besB h 21) left tog (X, R) (jz)).1.1 2 a)) from up2_s _ _ _ _]
        refine gf_isub dX2_payFloors_105 ?_
        refine gf_istore_n 3 dX2_payFloors_106 rfl (Nat.le_of_ble_eq_true rfl) ?_
        refine gf_iinc (1) dX2_payFloors_107 rfl rfl (Nat.le_of_ble_eq_true rfl) ?_
        refine gf_goto 5 dX2_payFloors_110 rfl ?_
        exact gf_hE (by rw [hS1, flB_t ea ha htg (zb_1.mp zc41)]) (gf_lw (ih (jz + 1) (by omega)) ⟨rfl, rfl, rfl, lvE (by rw [hS1, flB_t ea ha htg (zb_1.mp zc41)]), lvE (nI_1 jz), trivial⟩)
theorem e_X2_payFloors_205 (E : gE) {d : Nat} (hd : 1 ≤ d) {n : Nat} (left tog : Int32) (h : hp_T) (hG : gr h) (X : Nat → Nat → Int32) (R : Nat → Int64) (hT : tagT h) (I : herI h n X) : ev E mX2_payFloors d [.ref (E.1 + 205), .int left, .int tog] (hcl h 205 X R) (some (.int (flS (besB h 21) left tog (X, R) (n)).2)) (hcl h 205 (flS (besB h 21) left tog (X, R) (n)).1.1 (flS (besB h 21) left tog (X, R) (n)).1.2) := by
  refine ev_of rfl (fun q => absurd q (by decide)) (Nat.le_of_ble_eq_true rfl) ?_
  refine gf_iload_n 1 dX2_payFloors_0 rfl rfl ?_
  refine gf_istore_n 3 dX2_payFloors_1 rfl (Nat.le_of_ble_eq_true rfl) ?_
  refine gf_iconst (0) dX2_payFloors_2 rfl ?_
  refine gf_istore dX2_payFloors_3 (Nat.le_of_ble_eq_true rfl) ?_
  refine gf_lw (l_X2_payFloors_205 E hd left tog h hG X R hT I ?_ n 0 (by omega)) ⟨rfl, rfl, rfl, rfl, rfl, trivial⟩
  refine gf_iload_n 3 dX2_payFloors_113 rfl rfl ?_
  exact gf_iretE dX2_payFloors_114 rfl (rfl) (rfl)
theorem l_X2_payRests1_205 (E : gE) {d : Nat} {n t : Nat} (lacks : Int32) (h : hp_T) (hG : gr h) (X : Nat → Nat → Int32) (R : Nat → Int64) (hn : X 0 9 = nI n) (hn1 : 1 ≤ n) (hn2 : n ≤ 200) {v : Option Value} {hz : hp_T} (K : gf E mX2_payRests d 55 [(0, .ref (E.1 + 205)), (1, .int lacks), (2, .int (nI t)), (3, .int (nI (greS R ((n - 1))))), (4, .int (nI ((n - 1) + 1)))] [] (hcl h 205 X R) v hz) : ∀ (kz jz : Nat), jz + kz = (n - 1) → gf E mX2_payRests d 20 [(0, .ref (E.1 + 205)), (1, .int lacks), (2, .int (nI t)), (3, .int (nI (greS R (jz)))), (4, .int (nI (jz + 1)))] [] (hcl h 205 X R) v hz := by
  intro kz
  induction kz with
  | zero =>
    intro jz hj
    have hj : (n - 1) = jz := by omega
    subst hj
    refine gf_iload dX2_payRests_20 rfl ?_
    refine gf_aload_n 0 dX2_payRests_22 rfl rfl ?_
    refine gf_getI flX2_82 rfl dX2_payRests_23 (gt_205 hG) ?_
    refine gf_icmp_ge 55 dX2_payRests_26 rfl (fun _ => ?_) (fun q => absurd (by rw [show hp_i (hcl h 205 X R) 205 9 = nI n from hn]; exact nI_le (by omega) (by omega)) q)
    exact gf_lw K ⟨rfl, rfl, rfl, rfl, rfl, trivial⟩
  | succ kz ih =>
    intro jz hj
    have hgr := greS_le R jz
    refine gf_iload dX2_payRests_20 rfl ?_
    refine gf_aload_n 0 dX2_payRests_22 rfl rfl ?_
    refine gf_getI flX2_82 rfl dX2_payRests_23 (gt_205 hG) ?_
    refine gf_icmp_ge 55 dX2_payRests_26 rfl (fun q => absurd q (by rw [show hp_i (hcl h 205 X R) 205 9 = nI n from hn]; exact nI_ge (by omega) (by omega))) (fun _ => ?_)
    refine gf_aload_n 0 dX2_payRests_29 rfl rfl ?_
    refine gf_getR flX2_28 rfl dX2_payRests_30 (gt_205 hG) (gp_205_8 hG) ?_
    refine gf_iload dX2_payRests_33 rfl ?_
    refine gf_lald 200 dX2_payRests_35 (gt_211 hG) (gl_211 hG) rfl (by omega) (by decide) ?_
    refine gf_aload_n 0 dX2_payRests_36 rfl rfl ?_
    refine gf_getR flX2_28 rfl dX2_payRests_37 (gt_205 hG) (gp_205_8 hG) ?_
    refine gf_iload_n 3 dX2_payRests_40 rfl rfl ?_
    refine gf_lald 200 dX2_payRests_41 (gt_211 hG) (gl_211 hG) rfl (by omega) (by decide) ?_
    refine gf_lcmp dX2_payRests_42 ?_
    refine gf_if_le 49 dX2_payRests_43 rfl (fun zc43 => ?_) (fun zc43 => ?_)
    · refine gf_iinc (1) dX2_payRests_49 rfl rfl (Nat.le_of_ble_eq_true rfl) ?_
      refine gf_goto 20 dX2_payRests_52 rfl ?_
      exact gf_lw (ih (jz + 1) (by omega)) ⟨rfl, rfl, rfl, lvE (by rw [show greS R (jz + 1) = greS R jz from if_neg (fun (q : R (greS R jz) < R (jz + 1)) => by have w : lg_cmp (R (jz + 1)) (R (greS R jz)) ≤ 0 := zc43; rw [lg_cmp_le] at w; rw [fa_le64] at w; rw [fa_lt64] at q; omega)]), lvE (nI_1 (jz + 1)), trivial⟩
    · refine gf_iload dX2_payRests_46 rfl ?_
      refine gf_istore_n 3 dX2_payRests_48 rfl (Nat.le_of_ble_eq_true rfl) ?_
      refine gf_iinc (1) dX2_payRests_49 rfl rfl (Nat.le_of_ble_eq_true rfl) ?_
      refine gf_goto 20 dX2_payRests_52 rfl ?_
      exact gf_lw (ih (jz + 1) (by omega)) ⟨rfl, rfl, rfl, lvE (by rw [show greS R (jz + 1) = jz + 1 from if_pos (by show R (greS R jz) < R (jz + 1); have w : ¬ lg_cmp (R (jz + 1)) (R (greS R jz)) ≤ 0 := zc43; rw [lg_cmp_le] at w; rw [fa_le64] at w; rw [fa_lt64]; omega)]), lvE (nI_1 (jz + 1)), trivial⟩
theorem l_X2_payRests_205 (E : gE) {d : Nat} {n : Nat} (lacks : Int32) (h : hp_T) (hG : gr h) (X : Nat → Nat → Int32) (R : Nat → Int64) (I : herI h n X) : ∀ (kz jz : Nat), jz + kz = min lacks.toNatClampNeg n → gf E mX2_payRests d 2 [(0, .ref (E.1 + 205)), (1, .int lacks), (2, .int (nI (jz)))] [] (hcl h 205 (prS n (X, R) (jz)).1 (prS n (X, R) (jz)).2) none (hcl h 205 (prS n (X, R) ((min lacks.toNatClampNeg n))).1 (prS n (X, R) ((min lacks.toNatClampNeg n))).2) := by
  obtain ⟨hn, hn2, hh⟩ := I
  intro kz
  induction kz with
  | zero =>
    intro jz hj
    have hj : min lacks.toNatClampNeg n = jz := by omega
    rw [hj]
    refine gf_iload_n 2 dX2_payRests_2 rfl rfl ?_
    refine gf_iload_n 1 dX2_payRests_3 rfl rfl ?_
    refine gf_icmp_ge 85 dX2_payRests_4 rfl (fun zc4 => ?_) (fun zc4 => ?_)
    · exact gf_vretE dX2_payRests_85 rfl (rfl)
    · refine gf_iload_n 2 dX2_payRests_7 rfl rfl ?_
      refine gf_aload_n 0 dX2_payRests_8 rfl rfl ?_
      refine gf_getI flX2_82 rfl dX2_payRests_9 (gt_205 hG) ?_
      refine gf_icmp_ge 85 dX2_payRests_12 rfl (fun zc12 => ?_) (fun zc12 => ?_)
      · skip
        exact gf_vretE dX2_payRests_85 rfl (rfl)
      · have hlt : jz < n := by
          have q := zc12
          rw [show hp_i (hcl h 205 (prS n (X, R) (jz)).1 (prS n (X, R) (jz)).2) 205 9 = nI n from (congrFun (prS_row _ _ (by decide) _) 9).trans hn] at q
          rcases Nat.lt_or_ge jz n with w | w
          · exact w
          · exact absurd (nI_le w (by omega)) q
        exact absurd (hj ▸ rfl) (fun (_ : jz = jz) => nI_min_end (x := lacks) (n := n) (by rw [hj]; exact zc4) (by rw [hj]; exact hlt))
  | succ kz ih =>
    intro jz hj
    have hgo := nI_min_go (x := lacks) (n := n) (k := jz) (by omega)
    have hgr := greS_le (prS n (X, R) (jz)).2 (n - 1)
    obtain ⟨a, x, ha, ea, -⟩ := hh (greS (prS n (X, R) (jz)).2 (n - 1)) (by omega)
    have e5 : (prS n (X, R) (jz)).1 5 (greS (prS n (X, R) (jz)).2 (n - 1)) = nI a := by rw [prS_row _ _ (by decide)]; exact ea
    have hS1 : (prS n (X, R) (jz + 1)) = (up2 (prS n (X, R) (jz)).1 3 a ((prS n (X, R) (jz)).1 3 a + 1), va_up (prS n (X, R) (jz)).2 (greS (prS n (X, R) (jz)).2 (n - 1)) (-1)) := by
      show prB n (prS n (X, R) (jz)) jz = _
      unfold prB
      rw [e5, nI_clamp (by omega)]
    refine gf_iload_n 2 dX2_payRests_2 rfl rfl ?_
    refine gf_iload_n 1 dX2_payRests_3 rfl rfl ?_
    refine gf_icmp_ge 85 dX2_payRests_4 rfl (fun q => absurd q (hgo.1)) (fun _ => ?_)
    refine gf_iload_n 2 dX2_payRests_7 rfl rfl ?_
    refine gf_aload_n 0 dX2_payRests_8 rfl rfl ?_
    refine gf_getI flX2_82 rfl dX2_payRests_9 (gt_205 hG) ?_
    refine gf_icmp_ge 85 dX2_payRests_12 rfl (fun q => absurd q (by rw [show hp_i (hcl h 205 (prS n (X, R) (jz)).1 (prS n (X, R) (jz)).2) 205 9 = nI n from (congrFun (prS_row _ _ (by decide) _) 9).trans hn]; exact nI_ge hgo.2 (by omega))) (fun _ => ?_)
    refine gf_iconst (0) dX2_payRests_15 rfl ?_
    refine gf_istore_n 3 dX2_payRests_16 rfl (Nat.le_of_ble_eq_true rfl) ?_
    refine gf_iconst (1) dX2_payRests_17 rfl ?_
    refine gf_istore dX2_payRests_18 (Nat.le_of_ble_eq_true rfl) ?_
    refine gf_lw (l_X2_payRests1_205 E (n := n) (t := jz) lacks h hG (prS n (X, R) (jz)).1 (prS n (X, R) (jz)).2 ((congrFun (prS_row _ _ (by decide) _) 9).trans hn) (by omega) hn2 ?_ (n - 1) 0 (by omega)) ⟨rfl, rfl, rfl, rfl, rfl, trivial⟩
    refine gf_aload_n 0 dX2_payRests_55 rfl rfl ?_
    refine gf_getR flX2_19 rfl dX2_payRests_56 (gt_205 hG) (gp_205_2 hG) ?_
    refine gf_aload_n 0 dX2_payRests_59 rfl rfl ?_
    refine gf_getR flX2_25 rfl dX2_payRests_60 (gt_205 hG) (gp_205_7 hG) ?_
    refine gf_iload_n 3 dX2_payRests_63 rfl rfl ?_
    refine gf_iald 200 dX2_payRests_64 (gt_210 hG) (gl_210 hG) rfl (by omega) (by decide) ?_
    refine gf_dup2 dX2_payRests_65 rfl rfl ?_
    refine gf_iald 201 dX2_payRests_66 (gt_208 hG) (gl_208 hG) e5 (by omega) (by decide) ?_
    refine gf_iconst (1) dX2_payRests_67 rfl ?_
    refine gf_iadd dX2_payRests_68 ?_
    refine gf_iast 201 dX2_payRests_69 (gt_208 hG) (gl_208 hG) e5 (by omega) (by decide) ?_
    rw [hc205_3]
    refine gf_aload_n 0 dX2_payRests_70 rfl rfl ?_
    refine gf_getR flX2_28 rfl dX2_payRests_71 (gt_205 hG) (gp_205_8 hG) ?_
    refine gf_iload_n 3 dX2_payRests_74 rfl rfl ?_
    refine gf_ldc2 (-1) kcX2_131 dX2_payRests_75 ?_
    refine gf_last 200 dX2_payRests_78 (gt_211 hG) (gl_211 hG) rfl (by omega) (by decide) ?_
    rw [hc205_6]
    refine gf_iinc (1) dX2_payRests_79 rfl rfl (Nat.le_of_ble_eq_true rfl) ?_
    refine gf_goto 2 dX2_payRests_82 rfl ?_
    exact gf_hE (by rw [hS1]; rfl) (gf_lw (ih (jz + 1) (by omega)) ⟨rfl, rfl, lvE (nI_1 jz), trivial⟩)
theorem e_X2_payRests_205 (E : gE) {d : Nat} (hd : 0 ≤ d) {n : Nat} (lacks : Int32) (h : hp_T) (hG : gr h) (X : Nat → Nat → Int32) (R : Nat → Int64) (I : herI h n X) : ev E mX2_payRests d [.ref (E.1 + 205), .int lacks] (hcl h 205 X R) (none) (hcl h 205 (prS n (X, R) ((min lacks.toNatClampNeg n))).1 (prS n (X, R) ((min lacks.toNatClampNeg n))).2) := by
  refine ev_of rfl (fun q => absurd q (by decide)) (Nat.le_of_ble_eq_true rfl) ?_
  refine gf_iconst (0) dX2_payRests_0 rfl ?_
  refine gf_istore_n 2 dX2_payRests_1 rfl (Nat.le_of_ble_eq_true rfl) ?_
  refine gf_lw (l_X2_payRests_205 E lacks h hG X R I (min lacks.toNatClampNeg n) 0 (by omega)) ⟨rfl, rfl, rfl, trivial⟩
theorem l_X2_payByParts_205 (E : gE) {d : Nat} (hd : 1 ≤ d) {n : Nat} (left : Int32) (h : hp_T) (hG : gr h) (X : Nat → Nat → Int32) (R : Nat → Int64) (hT : tagT h) (I : herI h n X) {v : Option Value} {hz : hp_T} (K : gf E mX2_payByParts d 47 [(0, .ref (E.1 + 205)), (1, .int left), (2, .int (pbpT (besB h 21) X (n))), (3, .int (nI (n)))] [] (hcl h 205 X R) v hz) : ∀ (kz jz : Nat), jz + kz = n → gf E mX2_payByParts d 4 [(0, .ref (E.1 + 205)), (1, .int left), (2, .int (pbpT (besB h 21) X (jz))), (3, .int (nI (jz)))] [] (hcl h 205 X R) v hz := by
  obtain ⟨hn, hn2, hh⟩ := I
  intro kz
  induction kz with
  | zero =>
    intro jz hj
    have hj : n = jz := by omega
    subst hj
    refine gf_iload_n 3 dX2_payByParts_4 rfl rfl ?_
    refine gf_aload_n 0 dX2_payByParts_5 rfl rfl ?_
    refine gf_getI flX2_82 rfl dX2_payByParts_6 (gt_205 hG) ?_
    refine gf_icmp_ge 47 dX2_payByParts_9 rfl (fun _ => ?_) (fun q => absurd (by rw [show hp_i (hcl h 205 X R) 205 9 = nI n from hn]; exact Int32.le_refl _) q)
    exact gf_lw K ⟨rfl, rfl, rfl, rfl, trivial⟩
  | succ kz ih =>
    intro jz hj
    obtain ⟨a, x, ha, ea, hx9, hx⟩ := hh jz (by omega)
    have hS1 : (pbpT (besB h 21) X (jz + 1)) = togB (besB h 21) X (pbpT (besB h 21) X (jz)) jz := rfl
    refine gf_iload_n 3 dX2_payByParts_4 rfl rfl ?_
    refine gf_aload_n 0 dX2_payByParts_5 rfl rfl ?_
    refine gf_getI flX2_82 rfl dX2_payByParts_6 (gt_205 hG) ?_
    refine gf_icmp_ge 47 dX2_payByParts_9 rfl (fun q => absurd q (by rw [show hp_i (hcl h 205 X R) 205 9 = nI n from hn]; exact nI_ge (by omega) (by omega))) (fun _ => ?_)
    refine gf_aload_n 0 dX2_payByParts_12 rfl rfl ?_
    refine gf_aload_n 0 dX2_payByParts_13 rfl rfl ?_
    refine gf_getR flX2_25 rfl dX2_payByParts_14 (gt_205 hG) (gp_205_7 hG) ?_
    refine gf_iload_n 3 dX2_payByParts_17 rfl rfl ?_
    refine gf_iald 200 dX2_payByParts_18 (gt_210 hG) (gl_210 hG) rfl (by omega) (by decide) ?_
    rw [show hp_i (hcl h 205 X R) 210 jz = nI a from ea]
    refine gf_bipush (21) dX2_payByParts_19 rfl ?_
    refine gf_callV cmX2_isBeside lkX2_116 imX2_isBeside seX2_isBeside ⟨rfl, by decide⟩ dX2_payByParts_21 (d1 := d - 1) (by omega) (gt_205 hG) (e_X2_isBeside_205 E (by omega) 21 h hG X R hT ha hx9 hx) rfl rfl (Nat.le_of_ble_eq_true rfl) ?_
    refine gf_if_eq 41 dX2_payByParts_24 rfl (fun zc24 => ?_) (fun zc24 => ?_)
    · refine gf_iinc (1) dX2_payByParts_41 rfl rfl (Nat.le_of_ble_eq_true rfl) ?_
      refine gf_goto 4 dX2_payByParts_44 rfl ?_
      exact gf_lw (ih (jz + 1) (by omega)) ⟨rfl, rfl, lvE (by rw [hS1, togB_f ea ha (zb_0.mp zc24)]), lvE (nI_1 jz), trivial⟩
    · refine gf_iload_n 2 dX2_payByParts_27 rfl rfl ?_
      refine gf_aload_n 0 dX2_payByParts_28 rfl rfl ?_
      refine gf_getR flX2_15 rfl dX2_payByParts_29 (gt_205 hG) (gp_205_1 hG) ?_
      refine gf_aload_n 0 dX2_payByParts_32 rfl rfl ?_
      refine gf_getR flX2_25 rfl dX2_payByParts_33 (gt_205 hG) (gp_205_7 hG) ?_
      refine gf_iload_n 3 dX2_payByParts_36 rfl rfl ?_
      refine gf_iald 200 dX2_payByParts_37 (gt_210 hG) (gl_210 hG) rfl (by omega) (by decide) ?_
      refine gf_iald 201 dX2_payByParts_38 (gt_207 hG) (gl_207 hG) ea (by omega) (by decide) ?_
      refine gf_iadd dX2_payByParts_39 ?_
      refine gf_istore_n 2 dX2_payByParts_40 rfl (Nat.le_of_ble_eq_true rfl) ?_
      refine gf_iinc (1) dX2_payByParts_41 rfl rfl (Nat.le_of_ble_eq_true rfl) ?_
      refine gf_goto 4 dX2_payByParts_44 rfl ?_
      exact gf_lw (ih (jz + 1) (by omega)) ⟨rfl, rfl, lvE (by rw [hS1, togB_t ea ha (zb_1.mp zc24)]; rfl), lvE (nI_1 jz), trivial⟩
theorem e_X2_payByParts_205 (E : gE) {d : Nat} (hd : 2 ≤ d) {n : Nat} (left : Int32) (h : hp_T) (hG : gr h) (X : Nat → Nat → Int32) (R : Nat → Int64) (hT : tagT h) (I : herI h n X) : ev E mX2_payByParts d [.ref (E.1 + 205), .int left] (hcl h 205 X R) (some (.int (pbpS (besB h 21) (X, R) left n).2)) (hcl h 205 (pbpS (besB h 21) (X, R) left n).1.1 (pbpS (besB h 21) (X, R) left n).1.2) := by
  refine ev_of rfl (fun q => absurd q (by decide)) (Nat.le_of_ble_eq_true rfl) ?_
  refine gf_iconst (0) dX2_payByParts_0 rfl ?_
  refine gf_istore_n 2 dX2_payByParts_1 rfl (Nat.le_of_ble_eq_true rfl) ?_
  refine gf_iconst (0) dX2_payByParts_2 rfl ?_
  refine gf_istore_n 3 dX2_payByParts_3 rfl (Nat.le_of_ble_eq_true rfl) ?_
  refine gf_lw (l_X2_payByParts_205 E (by omega) left h hG X R hT I ?_ n 0 (by omega)) ⟨rfl, rfl, rfl, rfl, trivial⟩
  refine gf_iload_n 2 dX2_payByParts_47 rfl rfl ?_
  refine gf_iload_n 1 dX2_payByParts_48 rfl rfl ?_
  refine gf_icmp_gt 60 dX2_payByParts_49 rfl (fun zc49 => ?_) (fun zc49 => ?_)
  · have eP : (pbpS (besB h 21) (X, R) left n) = (prS n (flS (besB h 21) left (pbpT (besB h 21) X (n)) (X, R) n).1 (min (flS (besB h 21) left (pbpT (besB h 21) X (n)) (X, R) n).2.toNatClampNeg n), 0) := if_pos zc49
    refine gf_aload_n 0 dX2_payByParts_60 rfl rfl ?_
    refine gf_iload_n 1 dX2_payByParts_61 rfl rfl ?_
    refine gf_iload_n 2 dX2_payByParts_62 rfl rfl ?_
    refine gf_callV cmX2_payFloors lkX2_125 imX2_payFloors seX2_payFloors ⟨rfl, by decide⟩ dX2_payByParts_63 (d1 := d - 1) (by omega) (gt_205 hG) (e_X2_payFloors_205 E (by omega) left (pbpT (besB h 21) X (n)) h hG X R hT I) rfl rfl (Nat.le_of_ble_eq_true rfl) ?_
    refine gf_istore_n 3 dX2_payByParts_66 rfl (Nat.le_of_ble_eq_true rfl) ?_
    refine gf_aload_n 0 dX2_payByParts_67 rfl rfl ?_
    refine gf_iload_n 3 dX2_payByParts_68 rfl rfl ?_
    refine gf_callV cmX2_payRests lkX2_128 imX2_payRests seX2_payRests ⟨rfl, by decide⟩ dX2_payByParts_69 (d1 := d - 1) (by omega) (gt_205 hG) (e_X2_payRests_205 E (by omega) (flS (besB h 21) left (pbpT (besB h 21) X (n)) (X, R) n).2 h hG (flS (besB h 21) left (pbpT (besB h 21) X (n)) (X, R) n).1.1 (flS (besB h 21) left (pbpT (besB h 21) X (n)) (X, R) n).1.2 (herI_row I (flS_row _ _ _ _ (by decide) _) (flS_row _ _ _ _ (by decide) _))) rfl rfl (Nat.le_of_ble_eq_true rfl) ?_
    refine gf_iconst (0) dX2_payByParts_72 rfl ?_
    exact gf_iretE dX2_payByParts_73 rfl (by rw [eP]) (by rw [eP])
  · have eP : (pbpS (besB h 21) (X, R) left n) = (((pitS (besB h 21) X left n).1, R), (pitS (besB h 21) X left n).2) := if_neg zc49
    refine gf_aload_n 0 dX2_payByParts_52 rfl rfl ?_
    refine gf_bipush (21) dX2_payByParts_53 rfl ?_
    refine gf_iload_n 1 dX2_payByParts_55 rfl rfl ?_
    refine gf_callV cmX2_payInTurn lkX2_103 imX2_payInTurn seX2_payInTurn ⟨rfl, by decide⟩ dX2_payByParts_56 (d1 := d - 1) (by omega) (gt_205 hG) (e_X2_payInTurn_205 E (by omega) 21 left h hG X R hT I) rfl rfl (Nat.le_of_ble_eq_true rfl) ?_
    exact gf_iretE dX2_payByParts_59 rfl (by rw [eP]) (by rw [eP])
