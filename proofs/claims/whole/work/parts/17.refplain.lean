/-! ===== the reference: what is told in one row ===== -/
theorem wl_le (a b : Int32) : a.toInt64 ≤ b.toInt64 ↔ a ≤ b := fa_wide_le a b
theorem z64_0 : (0 : Int64) = (0 : Int32).toInt64 := by decide
theorem z64_m1000000000 : (-1000000000 : Int64) = (-1000000000 : Int32).toInt64 := by decide
theorem z64_m1 : (-1 : Int64) = (-1 : Int32).toInt64 := by decide
theorem z64_00 : (0 : Int64) = (0 : Int32).toInt64 := by decide
theorem z64_1 : (1 : Int64) = (1 : Int32).toInt64 := by decide
theorem z64_3 : (3 : Int64) = (3 : Int32).toInt64 := by decide
theorem z64_5 : (5 : Int64) = (5 : Int32).toInt64 := by decide
theorem z64_7 : (7 : Int64) = (7 : Int32).toInt64 := by decide
theorem z64_8 : (8 : Int64) = (8 : Int32).toInt64 := by decide
theorem z64_9 : (9 : Int64) = (9 : Int32).toInt64 := by decide
theorem z64_10 : (10 : Int64) = (10 : Int32).toInt64 := by decide
theorem z64_12 : (12 : Int64) = (12 : Int32).toInt64 := by decide
theorem z64_20 : (20 : Int64) = (20 : Int32).toInt64 := by decide
theorem z64_60 : (60 : Int64) = (60 : Int32).toInt64 := by decide
theorem z64_120 : (120 : Int64) = (120 : Int32).toInt64 := by decide
theorem z64_200 : (200 : Int64) = (200 : Int32).toInt64 := by decide
theorem z64_1000 : (1000 : Int64) = (1000 : Int32).toInt64 := by decide
theorem z64_9999 : (9999 : Int64) = (9999 : Int32).toInt64 := by decide
theorem z64_99999 : (99999 : Int64) = (99999 : Int32).toInt64 := by decide
theorem z64_100000000 : (100000000 : Int64) = (100000000 : Int32).toInt64 := by decide
theorem z64_1000000000 : (1000000000 : Int64) = (1000000000 : Int32).toInt64 := by decide
theorem e_X12_isIn (E : gE) {d : Nat} (hd : 0 ≤ d) (x a b : Int64) (h : hp_T) : ev E mX12_isIn d [.long x, .long a, .long b] h (some (.int (zb (a ≤ x ∧ x ≤ b)))) h := by
  refine ev_of rfl (fun q => absurd q (by decide)) (Nat.le_of_ble_eq_true rfl) ?_
  refine gf_lload_n 0 dX12_isIn_0 rfl rfl ?_
  refine gf_lload_n 2 dX12_isIn_1 rfl rfl ?_
  refine gf_lcmp dX12_isIn_2 ?_
  refine gf_if_lt 17 dX12_isIn_3 rfl (fun zc3 => ?_) (fun zc3 => ?_)
  · refine gf_iconst (0) dX12_isIn_17 rfl ?_
    exact gf_zretE dX12_isIn_18 rfl (rfl) ((zb_f (fun q => (by have q1 := q.1; have q2 := (lg_cmp_lt x a).mp zc3; rw [fa_le64] at q1; rw [fa_lt64] at q2; omega))).symm) (rfl)
  · refine gf_lload_n 0 dX12_isIn_6 rfl rfl ?_
    refine gf_lload dX12_isIn_7 rfl ?_
    refine gf_lcmp dX12_isIn_9 ?_
    refine gf_if_gt 17 dX12_isIn_10 rfl (fun zc10 => ?_) (fun zc10 => ?_)
    · refine gf_iconst (0) dX12_isIn_17 rfl ?_
      exact gf_zretE dX12_isIn_18 rfl (rfl) ((zb_f (fun q => (by have q1 := q.2; have q2 := (lg_cmp_gt x b).mp zc10; rw [fa_le64] at q1; rw [fa_lt64] at q2; omega))).symm) (rfl)
    · refine gf_iconst (1) dX12_isIn_13 rfl ?_
      refine gf_goto 18 dX12_isIn_14 rfl ?_
      exact gf_zretE dX12_isIn_18 rfl (rfl) ((zb_t ⟨by have q2 : ¬ x < a := fun z => zc3 ((lg_cmp_lt x a).mpr z); rw [fa_lt64] at q2; rw [fa_le64]; omega, by have q2 : ¬ b < x := fun z => zc10 ((lg_cmp_gt x b).mpr z); rw [fa_lt64] at q2; rw [fa_le64]; omega⟩).symm) (rfl)
/-- over ints that are taken as longs -/
theorem e_isInI (E : gE) {d : Nat} (x a b : Int32) (h : hp_T) {a' b' : Int64} (ha : a' = a.toInt64) (hb : b' = b.toInt64) : ev E mX12_isIn d [.long x.toInt64, .long a', .long b'] h (some (.int (zb (a ≤ x ∧ x ≤ b)))) h := by
  subst ha; subst hb
  refine ev_ge ?_ (e_X12_isIn E (Nat.zero_le d) x.toInt64 a.toInt64 b.toInt64 h)
  rw [zb_c (show (a.toInt64 ≤ x.toInt64 ∧ x.toInt64 ≤ b.toInt64) ↔ (a ≤ x ∧ x ≤ b) from by rw [fa_wide_le, fa_wide_le])]
theorem e_X12_cells (E : gE) {d : Nat} (hd : 0 ≤ d) (h : hp_T) (hG : gr h) : ev E mX12_cells d [.ref (E.1 + 247)] h (some (.int (hp_i h 247 42 * hp_i h 247 43))) h := by
  refine ev_of rfl (fun q => absurd q (by decide)) (Nat.le_of_ble_eq_true rfl) ?_
  refine gf_aload_n 0 dX12_cells_0 rfl rfl ?_
  refine gf_getI flX12_106 rfl dX12_cells_1 (gt_247 hG) ?_
  refine gf_aload_n 0 dX12_cells_4 rfl rfl ?_
  refine gf_getI flX12_109 rfl dX12_cells_5 (gt_247 hG) ?_
  refine gf_imul dX12_cells_8 ?_
  exact gf_iretE dX12_cells_9 rfl (rfl) (rfl)
def mty (F : Nat → Nat → Int32) (w g : Nat) : Prop := (1 ≤ w ∧ w ≤ 12 ∧ 1 ≤ g ∧ g ≤ 10) ∧ F 247 42 = nI w ∧ F 247 43 = nI g
theorem mty_n {F : Nat → Nat → Int32} {w g : Nat} (C : mty F w g) : 1 ≤ w * g ∧ w * g ≤ 120 := by
  obtain ⟨⟨h1, h2, h3, h4⟩, -⟩ := C
  exact ⟨Nat.mul_pos h1 h3, Nat.le_trans (Nat.mul_le_mul h2 h4) (by decide)⟩
theorem mty_c {F : Nat → Nat → Int32} {w g : Nat} (C : mty F w g) : F 247 42 * F 247 43 = nI (w * g) := by rw [C.2.1, C.2.2, pk_mul]
theorem lt_le1 {c : Int32} {n : Nat} (h1 : 1 ≤ n) (hn : n < 2000000000) : (0 ≤ c ∧ c ≤ nI n - 1) ↔ (0 ≤ c ∧ c < nI n) := by
  have e : (nI n - 1).toInt = (n : Int) - 1 := by
    rw [show (nI n - 1 : Int32) = nI (n - 1) from by rw [show (1 : Int32) = nI 1 from rfl, pk_sub h1], ti_nI (by omega)]
    omega
  rw [fa_le c, fa_lt, e, ti_nI (by omega)]
  constructor <;> (intro q; exact ⟨q.1, by have := q.2; omega⟩)
theorem e_X12_isCell (E : gE) {d : Nat} (hd : 1 ≤ d) (c : Int32) (h : hp_T) (hG : gr h) {w g : Nat} (C : mty (hp_i h) w g) : ev E mX12_isCell d [.ref (E.1 + 247), .int c] h (some (.int (zb (0 ≤ c ∧ c < nI (w * g))))) h := by
  refine ev_of rfl (fun q => absurd q (by decide)) (Nat.le_of_ble_eq_true rfl) ?_
  refine gf_iload_n 1 dX12_isCell_0 rfl rfl ?_
  refine gf_i2l dX12_isCell_1 ?_
  refine gf_lconst (0) dX12_isCell_2 rfl ?_
  refine gf_aload_n 0 dX12_isCell_3 rfl rfl ?_
  refine gf_callV cmX12_cells lkX12_409 imX12_cells seX12_cells ⟨rfl, by decide⟩ dX12_isCell_4 (d1 := d - 1) (by omega) (gt_247 hG) (e_X12_cells E (by omega) h hG) rfl rfl (Nat.le_of_ble_eq_true rfl) ?_
  refine gf_iconst (1) dX12_isCell_7 rfl ?_
  refine gf_isub dX12_isCell_8 ?_
  refine gf_i2l dX12_isCell_9 ?_
  refine gf_callS cmX12_isIn lkX12_325 stX12_isIn dX12_isCell_10 (d1 := d - 1) (by omega) (e_isInI E c 0 (nI (w * g) - 1) h z64_00 (by rw [mty_c C])) rfl rfl (Nat.le_of_ble_eq_true rfl) ?_
  exact gf_zretE dX12_isCell_13 rfl (zb_nar) (zb_c (lt_le1 (mty_n C).1 (by have := (mty_n C).2; omega))) (rfl)
theorem e_X12_hasHouse (E : gE) {d : Nat} (hd : 2 ≤ d) (c : Int32) (h : hp_T) (hG : gr h) {w g : Nat} (C : mty (hp_i h) w g) : ev E mX12_hasHouse d [.ref (E.1 + 247), .int c] h (some (.int (zb ((0 ≤ c ∧ c < nI (w * g)) ∧ ¬ hp_i h 281 c.toNatClampNeg = 0)))) h := by
  refine ev_of rfl (fun q => absurd q (by decide)) (Nat.le_of_ble_eq_true rfl) ?_
  refine gf_aload_n 0 dX12_hasHouse_0 rfl rfl ?_
  refine gf_iload_n 1 dX12_hasHouse_1 rfl rfl ?_
  refine gf_callV cmX12_isCell lkX12_412 imX12_isCell seX12_isCell ⟨rfl, by decide⟩ dX12_hasHouse_2 (d1 := d - 1) (by omega) (gt_247 hG) (e_X12_isCell E (by omega) c h hG C) rfl rfl (Nat.le_of_ble_eq_true rfl) ?_
  refine gf_if_eq 21 dX12_hasHouse_5 rfl (fun zc5 => ?_) (fun zc5 => ?_)
  · refine gf_iconst (0) dX12_hasHouse_21 rfl ?_
    exact gf_zretE dX12_hasHouse_22 rfl (rfl) ((zb_f (fun q => zb_0.mp zc5 q.1)).symm) (rfl)
  · refine gf_aload_n 0 dX12_hasHouse_8 rfl rfl ?_
    refine gf_getR flX12_121 rfl dX12_hasHouse_9 (gt_247 hG) (gp_247_47 hG) ?_
    refine gf_iload_n 1 dX12_hasHouse_12 rfl rfl ?_
    refine gf_zald 120 dX12_hasHouse_13 (gt_281 hG) (gl_281 hG) (ix_nI (by have q := (zb_1.mp zc5).1; simp only [fa_le, ti_0] at q; omega)) (ix_lt (by have q := (zb_1.mp zc5).1; simp only [fa_le, ti_0] at q; omega) (by have q := (zb_1.mp zc5).2; have e3 := (mty_n C).2; have e2 := ti_nI (n := w * g) (by omega); rw [fa_lt, e2] at q; omega)) (by decide) ?_
    refine gf_if_eq 21 dX12_hasHouse_14 rfl (fun zc14 => ?_) (fun zc14 => ?_)
    · refine gf_iconst (0) dX12_hasHouse_21 rfl ?_
      exact gf_zretE dX12_hasHouse_22 rfl (rfl) ((zb_f (fun q => q.2 zc14)).symm) (rfl)
    · refine gf_iconst (1) dX12_hasHouse_17 rfl ?_
      refine gf_goto 22 dX12_hasHouse_18 rfl ?_
      exact gf_zretE dX12_hasHouse_22 rfl (rfl) ((zb_t ⟨zb_1.mp zc5, zc14⟩).symm) (rfl)
theorem e_X12_isOffice (E : gE) {d : Nat} (hd : 1 ≤ d) (n : Int32) (h : hp_T) : ev E mX12_isOffice d [.int n] h (some (.int (zb (0 ≤ n ∧ n ≤ 8)))) h := by
  refine ev_of rfl (fun q => absurd q (by decide)) (Nat.le_of_ble_eq_true rfl) ?_
  refine gf_iload_n 0 dX12_isOffice_0 rfl rfl ?_
  refine gf_i2l dX12_isOffice_1 ?_
  refine gf_lconst (0) dX12_isOffice_2 rfl ?_
  refine gf_ldc2 (8) kcX12_415 dX12_isOffice_3 ?_
  refine gf_callS cmX12_isIn lkX12_325 stX12_isIn dX12_isOffice_6 (d1 := d - 1) (by omega) (e_isInI E n 0 8 h z64_00 z64_8) rfl rfl (Nat.le_of_ble_eq_true rfl) ?_
  exact gf_zretE dX12_isOffice_9 rfl (zb_nar) (rfl) (rfl)
theorem e_X12_end (E : gE) {d : Nat} (hd : 0 ≤ d) (n : Int32) (h : hp_T) (hG : gr h) : ev E mX12_end d [.ref (E.1 + 247), .int n] h (some (.int (zb ((¬ n < 0) ∧ (n ≤ hp_i h 247 1))))) (if ((¬ n < 0) ∧ (n ≤ hp_i h 247 1)) then hp_setI h 247 1 n else h) := by
  refine ev_of rfl (fun q => absurd q (by decide)) (Nat.le_of_ble_eq_true rfl) ?_
  refine gf_iload_n 1 dX12_end_0 rfl rfl ?_
  refine gf_if_lt 12 dX12_end_1 rfl (fun zc1 => ?_) (fun zc1 => ?_)
  · refine gf_iconst (0) dX12_end_12 rfl ?_
    exact gf_zretE dX12_end_13 rfl (rfl) ((zb_f (fun q => q.1 zc1)).symm) ((if_neg (fun q => q.1 zc1)).symm)
  · refine gf_iload_n 1 dX12_end_4 rfl rfl ?_
    refine gf_aload_n 0 dX12_end_5 rfl rfl ?_
    refine gf_getI flX12_282 rfl dX12_end_6 (gt_247 hG) ?_
    refine gf_icmp_le 14 dX12_end_9 rfl (fun zc9 => ?_) (fun zc9 => ?_)
    · refine gf_aload_n 0 dX12_end_14 rfl rfl ?_
      refine gf_iload_n 1 dX12_end_15 rfl rfl ?_
      refine gf_putI flX12_282 rfl rfl dX12_end_16 (gt_247 hG) ⟨rfl, rfl⟩ ?_
      refine gf_iconst (1) dX12_end_19 rfl ?_
      exact gf_zretE dX12_end_20 rfl (rfl) ((zb_t (⟨zc1, zc9⟩)).symm) ((if_pos (⟨zc1, zc9⟩)).symm)
    · refine gf_iconst (0) dX12_end_12 rfl ?_
      exact gf_zretE dX12_end_13 rfl (rfl) ((zb_f (fun q => zc9 q.2)).symm) ((if_neg (fun q => zc9 q.2)).symm)
theorem e_X12_hazard (E : gE) {d : Nat} (hd : 1 ≤ d) (t n : Int32) (h : hp_T) (hG : gr h) : ev E mX12_hazard d [.ref (E.1 + 247), .int t, .int n] h (some (.int (zb ((0 ≤ t ∧ t ≤ 5) ∧ (0 ≤ n ∧ n ≤ 9))))) (if ((0 ≤ t ∧ t ≤ 5) ∧ (0 ≤ n ∧ n ≤ 9)) then hp_setI h 283 t.toNatClampNeg n else h) := by
  refine ev_of rfl (fun q => absurd q (by decide)) (Nat.le_of_ble_eq_true rfl) ?_
  refine gf_iload_n 1 dX12_hazard_0 rfl rfl ?_
  refine gf_i2l dX12_hazard_1 ?_
  refine gf_lconst (0) dX12_hazard_2 rfl ?_
  refine gf_ldc2 (5) kcX12_439 dX12_hazard_3 ?_
  refine gf_callS cmX12_isIn lkX12_325 stX12_isIn dX12_hazard_6 (d1 := d - 1) (by omega) (e_isInI E t 0 5 h z64_00 z64_5) rfl rfl (Nat.le_of_ble_eq_true rfl) ?_
  refine gf_if_eq 24 dX12_hazard_9 rfl (fun zc9 => ?_) (fun zc9 => ?_)
  · refine gf_iconst (0) dX12_hazard_24 rfl ?_
    exact gf_zretE dX12_hazard_25 rfl (rfl) ((zb_f (fun q => zb_0.mp zc9 q.1)).symm) ((if_neg (fun q => zb_0.mp zc9 q.1)).symm)
  · refine gf_iload_n 2 dX12_hazard_12 rfl rfl ?_
    refine gf_i2l dX12_hazard_13 ?_
    refine gf_lconst (0) dX12_hazard_14 rfl ?_
    refine gf_ldc2 (9) kcX12_443 dX12_hazard_15 ?_
    refine gf_callS cmX12_isIn lkX12_325 stX12_isIn dX12_hazard_18 (d1 := d - 1) (by omega) (e_isInI E n 0 9 h z64_00 z64_9) rfl rfl (Nat.le_of_ble_eq_true rfl) ?_
    refine gf_if_ne 26 dX12_hazard_21 rfl (fun zc21 => ?_) (fun zc21 => ?_)
    · refine gf_aload_n 0 dX12_hazard_26 rfl rfl ?_
      refine gf_getR flX12_128 rfl dX12_hazard_27 (gt_247 hG) (gp_247_49 hG) ?_
      refine gf_iload_n 1 dX12_hazard_30 rfl rfl ?_
      refine gf_iload_n 2 dX12_hazard_31 rfl rfl ?_
      refine gf_iast 6 dX12_hazard_32 (gt_283 hG) (gl_283 hG) (ix_nI (by have q := (zb_1.mp zc9).1; simp only [fa_le, ti_0] at q; omega)) (ix_lt (by have q := (zb_1.mp zc9).1; simp only [fa_le, ti_0] at q; omega) (by have q := (zb_1.mp zc9).2; simp only [fa_le, ti_5] at q; omega)) (by decide) ?_
      refine gf_iconst (1) dX12_hazard_33 rfl ?_
      exact gf_zretE dX12_hazard_34 rfl (rfl) ((zb_t (⟨zb_1.mp zc9, zb_1.mp zc21⟩)).symm) ((if_pos (⟨zb_1.mp zc9, zb_1.mp zc21⟩)).symm)
    · refine gf_iconst (0) dX12_hazard_24 rfl ?_
      exact gf_zretE dX12_hazard_25 rfl (rfl) ((zb_f (fun q => zb_0.mp zc21 q.2)).symm) ((if_neg (fun q => zb_0.mp zc21 q.2)).symm)
theorem e_X12_coin (E : gE) {d : Nat} (hd : 2 ≤ d) (t n : Int32) (h : hp_T) (hG : gr h) : ev E mX12_coin d [.ref (E.1 + 247), .int t, .int n] h (some (.int (zb ((0 ≤ t ∧ t ≤ 8) ∧ (0 ≤ n ∧ n ≤ 100000000))))) (if ((0 ≤ t ∧ t ≤ 8) ∧ (0 ≤ n ∧ n ≤ 100000000)) then hp_setI h 287 t.toNatClampNeg n else h) := by
  refine ev_of rfl (fun q => absurd q (by decide)) (Nat.le_of_ble_eq_true rfl) ?_
  refine gf_iload_n 1 dX12_coin_0 rfl rfl ?_
  refine gf_callS cmX12_isOffice lkX12_451 stX12_isOffice dX12_coin_1 (d1 := d - 1) (by omega) (e_X12_isOffice E (by omega) t h) rfl rfl (Nat.le_of_ble_eq_true rfl) ?_
  refine gf_if_eq 19 dX12_coin_4 rfl (fun zc4 => ?_) (fun zc4 => ?_)
  · refine gf_iconst (0) dX12_coin_19 rfl ?_
    exact gf_zretE dX12_coin_20 rfl (rfl) ((zb_f (fun q => zb_0.mp zc4 q.1)).symm) ((if_neg (fun q => zb_0.mp zc4 q.1)).symm)
  · refine gf_iload_n 2 dX12_coin_7 rfl rfl ?_
    refine gf_i2l dX12_coin_8 ?_
    refine gf_lconst (0) dX12_coin_9 rfl ?_
    refine gf_ldc2 (100000000) kcX12_454 dX12_coin_10 ?_
    refine gf_callS cmX12_isIn lkX12_325 stX12_isIn dX12_coin_13 (d1 := d - 1) (by omega) (e_isInI E n 0 100000000 h z64_00 z64_100000000) rfl rfl (Nat.le_of_ble_eq_true rfl) ?_
    refine gf_if_ne 21 dX12_coin_16 rfl (fun zc16 => ?_) (fun zc16 => ?_)
    · refine gf_aload_n 0 dX12_coin_21 rfl rfl ?_
      refine gf_getR flX12_140 rfl dX12_coin_22 (gt_247 hG) (gp_247_53 hG) ?_
      refine gf_iload_n 1 dX12_coin_25 rfl rfl ?_
      refine gf_iload_n 2 dX12_coin_26 rfl rfl ?_
      refine gf_iast 9 dX12_coin_27 (gt_287 hG) (gl_287 hG) (ix_nI (by have q := (zb_1.mp zc4).1; simp only [fa_le, ti_0] at q; omega)) (ix_lt (by have q := (zb_1.mp zc4).1; simp only [fa_le, ti_0] at q; omega) (by have q := (zb_1.mp zc4).2; simp only [fa_le, ti_8] at q; omega)) (by decide) ?_
      refine gf_iconst (1) dX12_coin_28 rfl ?_
      exact gf_zretE dX12_coin_29 rfl (rfl) ((zb_t (⟨zb_1.mp zc4, zb_1.mp zc16⟩)).symm) ((if_pos (⟨zb_1.mp zc4, zb_1.mp zc16⟩)).symm)
    · refine gf_iconst (0) dX12_coin_19 rfl ?_
      exact gf_zretE dX12_coin_20 rfl (rfl) ((zb_f (fun q => zb_0.mp zc16 q.2)).symm) ((if_neg (fun q => zb_0.mp zc16 q.2)).symm)
theorem e_X12_plug (E : gE) {d : Nat} (hd : 2 ≤ d) (c b : Int32) (h : hp_T) (hG : gr h) {w g : Nat} (C : mty (hp_i h) w g) (hb : vp_nar .boolean b = b) : ev E mX12_plug d [.ref (E.1 + 247), .int c, .int b] h (some (.int (zb ((0 ≤ c ∧ c < nI (w * g)))))) (if ((0 ≤ c ∧ c < nI (w * g))) then hp_setI h 282 c.toNatClampNeg b else h) := by
  refine ev_of rfl (fun q => absurd q (by decide)) (Nat.le_of_ble_eq_true rfl) ?_
  refine gf_aload_n 0 dX12_plug_0 rfl rfl ?_
  refine gf_iload_n 1 dX12_plug_1 rfl rfl ?_
  refine gf_callV cmX12_isCell lkX12_412 imX12_isCell seX12_isCell ⟨rfl, by decide⟩ dX12_plug_2 (d1 := d - 1) (by omega) (gt_247 hG) (e_X12_isCell E (by omega) c h hG C) rfl rfl (Nat.le_of_ble_eq_true rfl) ?_
  refine gf_if_ne 10 dX12_plug_5 rfl (fun zc5 => ?_) (fun zc5 => ?_)
  · refine gf_aload_n 0 dX12_plug_10 rfl rfl ?_
    refine gf_getR flX12_125 rfl dX12_plug_11 (gt_247 hG) (gp_247_48 hG) ?_
    refine gf_iload_n 1 dX12_plug_14 rfl rfl ?_
    refine gf_iload_n 2 dX12_plug_15 rfl rfl ?_
    refine gf_zast 120 dX12_plug_16 (gt_282 hG) (gl_282 hG) (ix_nI (by have q := (zb_1.mp zc5).1; simp only [fa_le, ti_0] at q; omega)) (ix_lt (by have q := (zb_1.mp zc5).1; simp only [fa_le, ti_0] at q; omega) (by have q := (zb_1.mp zc5).2; have e3 := (mty_n C).2; have e2 := ti_nI (n := w * g) (by omega); rw [fa_lt, e2] at q; omega)) (by decide) hb ?_
    refine gf_iconst (1) dX12_plug_17 rfl ?_
    exact gf_zretE dX12_plug_18 rfl (rfl) ((zb_t (zb_1.mp zc5)).symm) ((if_pos (zb_1.mp zc5)).symm)
  · refine gf_iconst (0) dX12_plug_8 rfl ?_
    exact gf_zretE dX12_plug_9 rfl (rfl) ((zb_f (fun q => zb_0.mp zc5 q)).symm) ((if_neg (fun q => zb_0.mp zc5 q)).symm)
theorem e_X12_as (E : gE) {d : Nat} (hd : 1 ≤ d) (a : Int32) (h : hp_T) (hG : gr h) : ev E mX12_as d [.ref (E.1 + 247), .int a] h (some (.int (zb ((-1 ≤ a ∧ a ≤ hp_i h 247 62))))) (if ((-1 ≤ a ∧ a ≤ hp_i h 247 62)) then hp_setI h 247 68 a else h) := by
  refine ev_of rfl (fun q => absurd q (by decide)) (Nat.le_of_ble_eq_true rfl) ?_
  refine gf_iload_n 1 dX12_as_0 rfl rfl ?_
  refine gf_i2l dX12_as_1 ?_
  refine gf_ldc2 (-1) kcX12_487 dX12_as_2 ?_
  refine gf_aload_n 0 dX12_as_5 rfl rfl ?_
  refine gf_getI flX12_424 rfl dX12_as_6 (gt_247 hG) ?_
  refine gf_i2l dX12_as_9 ?_
  refine gf_callS cmX12_isIn lkX12_325 stX12_isIn dX12_as_10 (d1 := d - 1) (by omega) (e_isInI E a (-1) (hp_i h 247 62) h z64_m1 rfl) rfl rfl (Nat.le_of_ble_eq_true rfl) ?_
  refine gf_if_ne 18 dX12_as_13 rfl (fun zc13 => ?_) (fun zc13 => ?_)
  · refine gf_aload_n 0 dX12_as_18 rfl rfl ?_
    refine gf_iload_n 1 dX12_as_19 rfl rfl ?_
    refine gf_putI flX12_176 rfl rfl dX12_as_20 (gt_247 hG) ⟨rfl, rfl⟩ ?_
    refine gf_iconst (1) dX12_as_23 rfl ?_
    exact gf_zretE dX12_as_24 rfl (rfl) ((zb_t (zb_1.mp zc13)).symm) ((if_pos (zb_1.mp zc13)).symm)
  · refine gf_iconst (0) dX12_as_16 rfl ?_
    exact gf_zretE dX12_as_17 rfl (rfl) ((zb_f (fun q => zb_0.mp zc13 q)).symm) ((if_neg (fun q => zb_0.mp zc13 q)).symm)
theorem e_X12_fault (E : gE) {d : Nat} (hd : 0 ≤ d) (t : Int32) (h : hp_T) (hG : gr h) : ev E mX12_fault d [.ref (E.1 + 247), .int t] h (some (.int (if t = 0 then hp_i h 247 7 else if t = 1 then hp_i h 247 8 else -1))) h := by
  refine ev_of rfl (fun q => absurd q (by decide)) (Nat.le_of_ble_eq_true rfl) ?_
  refine gf_iload_n 1 dX12_fault_0 rfl rfl ?_
  refine gf_if_ne 11 dX12_fault_1 rfl (fun zc1 => ?_) (fun zc1 => ?_)
  · refine gf_iload_n 1 dX12_fault_11 rfl rfl ?_
    refine gf_iconst (1) dX12_fault_12 rfl ?_
    refine gf_icmp_ne 23 dX12_fault_13 rfl (fun zc13 => ?_) (fun zc13 => ?_)
    · refine gf_iconst (-1) dX12_fault_23 rfl ?_
      exact gf_iretE dX12_fault_24 rfl (((if_neg zc1).trans (if_neg zc13)).symm) (rfl)
    · refine gf_aload_n 0 dX12_fault_16 rfl rfl ?_
      refine gf_getI flX12_13 rfl dX12_fault_17 (gt_247 hG) ?_
      refine gf_goto 24 dX12_fault_20 rfl ?_
      exact gf_iretE dX12_fault_24 rfl (((if_neg zc1).trans (if_pos zc13)).symm) (rfl)
  · refine gf_aload_n 0 dX12_fault_4 rfl rfl ?_
    refine gf_getI flX12_406 rfl dX12_fault_5 (gt_247 hG) ?_
    refine gf_goto 24 dX12_fault_8 rfl ?_
    exact gf_iretE dX12_fault_24 rfl ((if_pos zc1).symm) (rfl)
theorem e_X12_lost (E : gE) {d : Nat} (hd : 0 ≤ d) (h : hp_T) (hG : gr h) : ev E mX12_lost d [.ref (E.1 + 247)] h (some (.int (if hp_i h 247 90 = 0 then -1 else hp_i h 247 103))) h := by
  refine ev_of rfl (fun q => absurd q (by decide)) (Nat.le_of_ble_eq_true rfl) ?_
  refine gf_aload_n 0 dX12_lost_0 rfl rfl ?_
  refine gf_getI flX12_430 rfl dX12_lost_1 (gt_247 hG) ?_
  refine gf_if_eq 14 dX12_lost_4 rfl (fun zc4 => ?_) (fun zc4 => ?_)
  · refine gf_iconst (-1) dX12_lost_14 rfl ?_
    exact gf_iretE dX12_lost_15 rfl ((if_pos zc4).symm) (rfl)
  · refine gf_aload_n 0 dX12_lost_7 rfl rfl ?_
    refine gf_getI flX12_626 rfl dX12_lost_8 (gt_247 hG) ?_
    refine gf_goto 15 dX12_lost_11 rfl ?_
    exact gf_iretE dX12_lost_15 rfl ((if_neg zc4).symm) (rfl)
theorem e_X12_settled (E : gE) {d : Nat} (hd : 2 ≤ d) (t : Int32) (h : hp_T) (hG : gr h) : ev E mX12_settled d [.ref (E.1 + 247), .int t] h (some (.int (if ¬ hp_i h 247 90 = 0 ∧ (0 ≤ t ∧ t ≤ 8) then hp_i h 328 t.toNatClampNeg else -1))) h := by
  refine ev_of rfl (fun q => absurd q (by decide)) (Nat.le_of_ble_eq_true rfl) ?_
  refine gf_aload_n 0 dX12_settled_0 rfl rfl ?_
  refine gf_getI flX12_430 rfl dX12_settled_1 (gt_247 hG) ?_
  refine gf_if_eq 23 dX12_settled_4 rfl (fun zc4 => ?_) (fun zc4 => ?_)
  · refine gf_iconst (-1) dX12_settled_23 rfl ?_
    exact gf_iretE dX12_settled_24 rfl ((if_neg (fun q => q.1 zc4)).symm) (rfl)
  · refine gf_iload_n 1 dX12_settled_7 rfl rfl ?_
    refine gf_callS cmX12_isOffice lkX12_451 stX12_isOffice dX12_settled_8 (d1 := d - 1) (by omega) (e_X12_isOffice E (by omega) t h) rfl rfl (Nat.le_of_ble_eq_true rfl) ?_
    refine gf_if_eq 23 dX12_settled_11 rfl (fun zc11 => ?_) (fun zc11 => ?_)
    · refine gf_iconst (-1) dX12_settled_23 rfl ?_
      exact gf_iretE dX12_settled_24 rfl ((if_neg (fun q => zb_0.mp zc11 q.2)).symm) (rfl)
    · refine gf_aload_n 0 dX12_settled_14 rfl rfl ?_
      refine gf_getR flX12_267 rfl dX12_settled_15 (gt_247 hG) (gp_247_107 hG) ?_
      refine gf_iload_n 1 dX12_settled_18 rfl rfl ?_
      refine gf_iald 9 dX12_settled_19 (gt_328 hG) (gl_328 hG) (ix_nI (by have q := (zb_1.mp zc11).1; simp only [fa_le, ti_0] at q; omega)) (ix_lt (by have q := (zb_1.mp zc11).1; simp only [fa_le, ti_0] at q; omega) (by have q := (zb_1.mp zc11).2; simp only [fa_le, ti_8] at q; omega)) (by decide) ?_
      refine gf_goto 24 dX12_settled_20 rfl ?_
      exact gf_iretE dX12_settled_24 rfl ((if_pos ⟨zc4, zb_1.mp zc11⟩).symm) (rfl)
theorem e_X12_planned (E : gE) {d : Nat} (hd : 0 ≤ d) (t : Int32) {p : Nat} (h : hp_T) (hG : gr h) (hp : hp_i h 247 112 = nI p) (hp3 : p ≤ 3) : ev E mX12_planned d [.ref (E.1 + 247), .int t] h (some (.int (if 0 ≤ t ∧ t < hp_i h 247 112 then hp_i h 332 t.toNatClampNeg else -1))) h := by
  refine ev_of rfl (fun q => absurd q (by decide)) (Nat.le_of_ble_eq_true rfl) ?_
  refine gf_iload_n 1 dX12_planned_0 rfl rfl ?_
  refine gf_if_lt 21 dX12_planned_1 rfl (fun zc1 => ?_) (fun zc1 => ?_)
  · refine gf_iconst (-1) dX12_planned_21 rfl ?_
    exact gf_iretE dX12_planned_22 rfl ((if_neg (fun q => by have q1 := q.1; have zc1 := zc1; rw [fa_le] at q1; rw [fa_lt] at zc1; omega)).symm) (rfl)
  · refine gf_iload_n 1 dX12_planned_4 rfl rfl ?_
    refine gf_aload_n 0 dX12_planned_5 rfl rfl ?_
    refine gf_getI flX12_434 rfl dX12_planned_6 (gt_247 hG) ?_
    refine gf_icmp_ge 21 dX12_planned_9 rfl (fun zc9 => ?_) (fun zc9 => ?_)
    · refine gf_iconst (-1) dX12_planned_21 rfl ?_
      exact gf_iretE dX12_planned_22 rfl ((if_neg (fun q => by have q1 := q.2; have zc9 := zc9; rw [fa_lt] at q1; rw [fa_le] at zc9; omega)).symm) (rfl)
    · refine gf_aload_n 0 dX12_planned_12 rfl rfl ?_
      refine gf_getR flX12_279 rfl dX12_planned_13 (gt_247 hG) (gp_247_113 hG) ?_
      refine gf_iload_n 1 dX12_planned_16 rfl rfl ?_
      refine gf_iald 3 dX12_planned_17 (gt_332 hG) (gl_332 hG) (ix_nI (by have zc1 := zc1; rw [fa_lt, ti_0] at zc1; omega)) (ix_lt (by have zc1 := zc1; rw [fa_lt, ti_0] at zc1; omega) (by have zc9 := zc9; rw [hp, fa_le, ti_nI (by omega)] at zc9; omega)) (by decide) ?_
      refine gf_goto 22 dX12_planned_18 rfl ?_
      exact gf_iretE dX12_planned_22 rfl ((if_pos ⟨fa_of_nlt zc1, fa_of_nle zc9⟩).symm) (rfl)
theorem e_X12_now (E : gE) {d : Nat} (hd : 0 ≤ d) (h : hp_T) (hG : gr h) : ev E mX12_now d [.ref (E.1 + 247)] h (some (.int (if hp_i h 247 68 = -1 then hp_i h 247 62 else hp_i h 247 68))) h := by
  refine ev_of rfl (fun q => absurd q (by decide)) (Nat.le_of_ble_eq_true rfl) ?_
  refine gf_aload_n 0 dX12_now_0 rfl rfl ?_
  refine gf_getI flX12_176 rfl dX12_now_1 (gt_247 hG) ?_
  refine gf_iconst (-1) dX12_now_4 rfl ?_
  refine gf_icmp_ne 15 dX12_now_5 rfl (fun zc5 => ?_) (fun zc5 => ?_)
  · refine gf_aload_n 0 dX12_now_15 rfl rfl ?_
    refine gf_getI flX12_176 rfl dX12_now_16 (gt_247 hG) ?_
    exact gf_iretE dX12_now_19 rfl ((if_neg zc5).symm) (rfl)
  · refine gf_aload_n 0 dX12_now_8 rfl rfl ?_
    refine gf_getI flX12_424 rfl dX12_now_9 (gt_247 hG) ?_
    refine gf_goto 19 dX12_now_12 rfl ?_
    exact gf_iretE dX12_now_19 rfl ((if_pos zc5).symm) (rfl)
theorem e_X12_size (E : gE) {d : Nat} (hd : 0 ≤ d) (x : Int32) (h : hp_T) : ev E mX12_size d [.int x] h (some (.int (if 0 ≤ x then x else -x))) h := by
  refine ev_of rfl (fun q => absurd q (by decide)) (Nat.le_of_ble_eq_true rfl) ?_
  refine gf_iload_n 0 dX12_size_0 rfl rfl ?_
  refine gf_if_ge 9 dX12_size_1 rfl (fun zc1 => ?_) (fun zc1 => ?_)
  · refine gf_iload_n 0 dX12_size_9 rfl rfl ?_
    exact gf_iretE dX12_size_10 rfl ((if_pos zc1).symm) (rfl)
  · refine gf_iload_n 0 dX12_size_4 rfl rfl ?_
    refine gf_ineg dX12_size_5 ?_
    refine gf_goto 10 dX12_size_6 rfl ?_
    exact gf_iretE dX12_size_10 rfl ((if_neg zc1).symm) (rfl)
theorem e_X12_resist (E : gE) {d : Nat} (hd : 0 ≤ d) {k : Nat} (hk : k < 4) (h : hp_T) : ev E mX12_resist d [.int (nI k)] h (some (.int ((gf_sc 2).getD k 0))) h := by
  refine ev_of rfl (fun q => absurd q (by decide)) (Nat.le_of_ble_eq_true rfl) ?_
  rcases (show k = 0 ∨ k = 1 ∨ k = 2 ∨ k = 3 by omega) with hk0 | hk0 | hk0 | hk0 <;> subst hk0
  · refine gf_iload_n 0 dX12_resist_0 rfl rfl ?_
    refine gf_if_ne 9 dX12_resist_1 rfl (fun q => absurd (by decide) q) (fun _ => ?_)
    refine gf_bipush (40) dX12_resist_4 rfl ?_
    refine gf_goto 32 dX12_resist_6 rfl ?_
    exact gf_iretE dX12_resist_32 rfl (by decide) (rfl)
  · refine gf_iload_n 0 dX12_resist_0 rfl rfl ?_
    refine gf_if_ne 9 dX12_resist_1 rfl (fun _ => ?_) (fun q => absurd q (by decide))
    refine gf_iload_n 0 dX12_resist_9 rfl rfl ?_
    refine gf_iconst (1) dX12_resist_10 rfl ?_
    refine gf_icmp_ne 19 dX12_resist_11 rfl (fun q => absurd (by decide) q) (fun _ => ?_)
    refine gf_bipush (60) dX12_resist_14 rfl ?_
    refine gf_goto 32 dX12_resist_16 rfl ?_
    exact gf_iretE dX12_resist_32 rfl (by decide) (rfl)
  · refine gf_iload_n 0 dX12_resist_0 rfl rfl ?_
    refine gf_if_ne 9 dX12_resist_1 rfl (fun _ => ?_) (fun q => absurd q (by decide))
    refine gf_iload_n 0 dX12_resist_9 rfl rfl ?_
    refine gf_iconst (1) dX12_resist_10 rfl ?_
    refine gf_icmp_ne 19 dX12_resist_11 rfl (fun _ => ?_) (fun q => absurd q (by decide))
    refine gf_iload_n 0 dX12_resist_19 rfl rfl ?_
    refine gf_iconst (2) dX12_resist_20 rfl ?_
    refine gf_icmp_ne 29 dX12_resist_21 rfl (fun q => absurd (by decide) q) (fun _ => ?_)
    refine gf_bipush (100) dX12_resist_24 rfl ?_
    refine gf_goto 32 dX12_resist_26 rfl ?_
    exact gf_iretE dX12_resist_32 rfl (by decide) (rfl)
  · refine gf_iload_n 0 dX12_resist_0 rfl rfl ?_
    refine gf_if_ne 9 dX12_resist_1 rfl (fun _ => ?_) (fun q => absurd q (by decide))
    refine gf_iload_n 0 dX12_resist_9 rfl rfl ?_
    refine gf_iconst (1) dX12_resist_10 rfl ?_
    refine gf_icmp_ne 19 dX12_resist_11 rfl (fun _ => ?_) (fun q => absurd q (by decide))
    refine gf_iload_n 0 dX12_resist_19 rfl rfl ?_
    refine gf_iconst (2) dX12_resist_20 rfl ?_
    refine gf_icmp_ne 29 dX12_resist_21 rfl (fun _ => ?_) (fun q => absurd q (by decide))
    refine gf_sipush (160) dX12_resist_29 rfl ?_
    exact gf_iretE dX12_resist_32 rfl (by decide) (rfl)
theorem e_X12_fuel (E : gE) {d : Nat} (hd : 0 ≤ d) {k : Nat} (hk : k < 4) (h : hp_T) : ev E mX12_fuel d [.int (nI k)] h (some (.int ((gf_sc 3).getD k 0))) h := by
  refine ev_of rfl (fun q => absurd q (by decide)) (Nat.le_of_ble_eq_true rfl) ?_
  rcases (show k = 0 ∨ k = 1 ∨ k = 2 ∨ k = 3 by omega) with hk0 | hk0 | hk0 | hk0 <;> subst hk0
  · refine gf_iload_n 0 dX12_fuel_0 rfl rfl ?_
    refine gf_if_ne 9 dX12_fuel_1 rfl (fun q => absurd (by decide) q) (fun _ => ?_)
    refine gf_bipush (15) dX12_fuel_4 rfl ?_
    refine gf_goto 31 dX12_fuel_6 rfl ?_
    exact gf_iretE dX12_fuel_31 rfl (by decide) (rfl)
  · refine gf_iload_n 0 dX12_fuel_0 rfl rfl ?_
    refine gf_if_ne 9 dX12_fuel_1 rfl (fun _ => ?_) (fun q => absurd q (by decide))
    refine gf_iload_n 0 dX12_fuel_9 rfl rfl ?_
    refine gf_iconst (1) dX12_fuel_10 rfl ?_
    refine gf_icmp_ne 19 dX12_fuel_11 rfl (fun q => absurd (by decide) q) (fun _ => ?_)
    refine gf_bipush (25) dX12_fuel_14 rfl ?_
    refine gf_goto 31 dX12_fuel_16 rfl ?_
    exact gf_iretE dX12_fuel_31 rfl (by decide) (rfl)
  · refine gf_iload_n 0 dX12_fuel_0 rfl rfl ?_
    refine gf_if_ne 9 dX12_fuel_1 rfl (fun _ => ?_) (fun q => absurd q (by decide))
    refine gf_iload_n 0 dX12_fuel_9 rfl rfl ?_
    refine gf_iconst (1) dX12_fuel_10 rfl ?_
    refine gf_icmp_ne 19 dX12_fuel_11 rfl (fun _ => ?_) (fun q => absurd q (by decide))
    refine gf_iload_n 0 dX12_fuel_19 rfl rfl ?_
    refine gf_iconst (2) dX12_fuel_20 rfl ?_
    refine gf_icmp_ne 29 dX12_fuel_21 rfl (fun q => absurd (by decide) q) (fun _ => ?_)
    refine gf_bipush (40) dX12_fuel_24 rfl ?_
    refine gf_goto 31 dX12_fuel_26 rfl ?_
    exact gf_iretE dX12_fuel_31 rfl (by decide) (rfl)
  · refine gf_iload_n 0 dX12_fuel_0 rfl rfl ?_
    refine gf_if_ne 9 dX12_fuel_1 rfl (fun _ => ?_) (fun q => absurd q (by decide))
    refine gf_iload_n 0 dX12_fuel_9 rfl rfl ?_
    refine gf_iconst (1) dX12_fuel_10 rfl ?_
    refine gf_icmp_ne 19 dX12_fuel_11 rfl (fun _ => ?_) (fun q => absurd q (by decide))
    refine gf_iload_n 0 dX12_fuel_19 rfl rfl ?_
    refine gf_iconst (2) dX12_fuel_20 rfl ?_
    refine gf_icmp_ne 29 dX12_fuel_21 rfl (fun _ => ?_) (fun q => absurd q (by decide))
    refine gf_bipush (60) dX12_fuel_29 rfl ?_
    exact gf_iretE dX12_fuel_31 rfl (by decide) (rfl)
