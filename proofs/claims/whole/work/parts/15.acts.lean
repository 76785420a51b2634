/-! ===== the class's Acts ===== -/
theorem e_X0_forget (E : gE) {d : Nat} (hd : 0 ≤ d) (h : hp_T) (hG : gr h) : ev E mX0_forget d [.ref (E.1 + 158)] h (none) (hp_setI (hp_setI h 158 0 0) 158 1 (-1)) := by
  refine ev_of rfl (fun q => absurd q (by decide)) (Nat.le_of_ble_eq_true rfl) ?_
  refine gf_aload_n 0 dX0_forget_0 rfl rfl ?_
  refine gf_iconst (0) dX0_forget_1 rfl ?_
  refine gf_putI flX0_37 rfl rfl dX0_forget_2 (gt_158 hG) ⟨rfl, rfl⟩ ?_
  refine gf_aload_n 0 dX0_forget_5 rfl rfl ?_
  refine gf_iconst (-1) dX0_forget_6 rfl ?_
  refine gf_putI flX0_9 rfl rfl dX0_forget_7 (gt_158 hG) ⟨rfl, rfl⟩ ?_
  exact gf_vretE dX0_forget_10 rfl (rfl)
theorem e_X0_full (E : gE) {d : Nat} (hd : 0 ≤ d) (h : hp_T) (hG : gr h) : ev E mX0_full d [.ref (E.1 + 158)] h (some (.int (zb (200 ≤ hp_i h 158 0)))) h := by
  refine ev_of rfl (fun q => absurd q (by decide)) (Nat.le_of_ble_eq_true rfl) ?_
  refine gf_aload_n 0 dX0_full_0 rfl rfl ?_
  refine gf_getI flX0_37 rfl dX0_full_1 (gt_158 hG) ?_
  refine gf_sipush (200) dX0_full_4 rfl ?_
  refine gf_icmp_lt 14 dX0_full_7 rfl (fun zc7 => ?_) (fun zc7 => ?_)
  · refine gf_iconst (0) dX0_full_14 rfl ?_
    exact gf_zretE dX0_full_15 rfl (rfl) ((zb_f (fa_of_lt zc7).2.1).symm) (rfl)
  · refine gf_iconst (1) dX0_full_10 rfl ?_
    refine gf_goto 15 dX0_full_11 rfl ?_
    exact gf_zretE dX0_full_15 rfl (rfl) ((zb_t (fa_of_nlt zc7)).symm) (rfl)
theorem e_X0_horizon (E : gE) {d : Nat} (hd : 0 ≤ d) (h : hp_T) (hG : gr h) : ev E mX0_horizon d [.ref (E.1 + 158)] h (some (.int (if hp_i h 158 1 = -1 then hp_i h 158 0 else hp_i h 158 1))) h := by
  refine ev_of rfl (fun q => absurd q (by decide)) (Nat.le_of_ble_eq_true rfl) ?_
  refine gf_aload_n 0 dX0_horizon_0 rfl rfl ?_
  refine gf_getI flX0_9 rfl dX0_horizon_1 (gt_158 hG) ?_
  refine gf_iconst (-1) dX0_horizon_4 rfl ?_
  refine gf_icmp_ne 15 dX0_horizon_5 rfl (fun zc5 => ?_) (fun zc5 => ?_)
  · refine gf_aload_n 0 dX0_horizon_15 rfl rfl ?_
    refine gf_getI flX0_9 rfl dX0_horizon_16 (gt_158 hG) ?_
    exact gf_iretE dX0_horizon_19 rfl (by first | exact (if_pos (by assumption)).symm | exact (if_neg (by assumption)).symm) (rfl)
  · refine gf_aload_n 0 dX0_horizon_8 rfl rfl ?_
    refine gf_getI flX0_37 rfl dX0_horizon_9 (gt_158 hG) ?_
    refine gf_goto 19 dX0_horizon_12 rfl ?_
    exact gf_iretE dX0_horizon_19 rfl (by first | exact (if_pos (by assumption)).symm | exact (if_neg (by assumption)).symm) (rfl)
theorem e_X0_isPolicy (E : gE) {d : Nat} (hd : 1 ≤ d) (a : Int32) (h : hp_T) (hG : gr h) {n : Nat} (hN : hp_i h 158 0 = nI n) (hn : n ≤ 200) : ev E mX0_isPolicy d [.ref (E.1 + 158), .int a] h (some (.int (zb ((1 ≤ a ∧ a ≤ hp_i h 158 0) ∧ hp_i h 163 a.toNatClampNeg = 2)))) h := by
  refine ev_of rfl (fun q => absurd q (by decide)) (Nat.le_of_ble_eq_true rfl) ?_
  refine gf_iload_n 1 dX0_isPolicy_0 rfl rfl ?_
  refine gf_iconst (1) dX0_isPolicy_1 rfl ?_
  refine gf_aload_n 0 dX0_isPolicy_2 rfl rfl ?_
  refine gf_getI flX0_37 rfl dX0_isPolicy_3 (gt_158 hG) ?_
  refine gf_callSN cmX11_within lkX0_51 stX11_within dX0_isPolicy_6 (d1 := d - 1) (by omega) (e_X11_within E (by omega) _ _ _ h) rfl rfl (Nat.le_of_ble_eq_true rfl) ?_
  refine gf_if_eq 26 dX0_isPolicy_9 rfl (fun zc9 => ?_) (fun zc9 => ?_)
  · refine gf_iconst (0) dX0_isPolicy_26 rfl ?_
    exact gf_zretE dX0_isPolicy_27 rfl (rfl) (by first | exact (zb_t ⟨zb_1.mp zc9, zc19⟩).symm | exact (zb_f (fun q => zb_0.mp zc9 q.1)).symm | exact (zb_f (fun q => zc19 q.2)).symm) (rfl)
  · refine gf_aload_n 0 dX0_isPolicy_12 rfl rfl ?_
    refine gf_getR flX0_31 rfl dX0_isPolicy_13 (gt_158 hG) (gp_158_6 hG) ?_
    refine gf_iload_n 1 dX0_isPolicy_16 rfl rfl ?_
    refine gf_iald 201 dX0_isPolicy_17 (gt_163 hG) (gl_163 hG) (ix_nI (by have q := zb_1.mp zc9; (try simp only [fa_lt, fa_le, fa_eq, ti_0, ti_1, ti_2, ti_3, ti_8, ti_9, ti_120, ti_m1] at *); omega)) (ix_lt (by have q := zb_1.mp zc9; (try simp only [fa_lt, fa_le, fa_eq, ti_0, ti_1, ti_2, ti_3, ti_8, ti_9, ti_120, ti_m1] at *); omega) (by have q := zb_1.mp zc9; have e2 := ti_nI (n := n) (by omega); rw [hN] at q; simp only [fa_lt, fa_le, ti_1, e2] at q; omega)) (by decide) ?_
    refine gf_iconst (2) dX0_isPolicy_18 rfl ?_
    refine gf_icmp_ne 26 dX0_isPolicy_19 rfl (fun zc19 => ?_) (fun zc19 => ?_)
    · refine gf_iconst (0) dX0_isPolicy_26 rfl ?_
      exact gf_zretE dX0_isPolicy_27 rfl (rfl) (by first | exact (zb_t ⟨zb_1.mp zc9, zc19⟩).symm | exact (zb_f (fun q => zb_0.mp zc9 q.1)).symm | exact (zb_f (fun q => zc19 q.2)).symm) (rfl)
    · refine gf_iconst (1) dX0_isPolicy_22 rfl ?_
      refine gf_goto 27 dX0_isPolicy_23 rfl ?_
      exact gf_zretE dX0_isPolicy_27 rfl (rfl) (by first | exact (zb_t ⟨zb_1.mp zc9, zc19⟩).symm | exact (zb_f (fun q => zb_0.mp zc9 q.1)).symm | exact (zb_f (fun q => zc19 q.2)).symm) (rfl)
theorem e_X0_isTerms (E : gE) {d : Nat} (hd : 1 ≤ d) (a : Int32) (h : hp_T) (hG : gr h) {n : Nat} (hN : hp_i h 158 0 = nI n) (hn : n ≤ 200) : ev E mX0_isTerms d [.ref (E.1 + 158), .int a] h (some (.int (zb ((1 ≤ a ∧ a ≤ hp_i h 158 0) ∧ hp_i h 163 a.toNatClampNeg = 1)))) h := by
  refine ev_of rfl (fun q => absurd q (by decide)) (Nat.le_of_ble_eq_true rfl) ?_
  refine gf_iload_n 1 dX0_isTerms_0 rfl rfl ?_
  refine gf_iconst (1) dX0_isTerms_1 rfl ?_
  refine gf_aload_n 0 dX0_isTerms_2 rfl rfl ?_
  refine gf_getI flX0_37 rfl dX0_isTerms_3 (gt_158 hG) ?_
  refine gf_callSN cmX11_within lkX0_51 stX11_within dX0_isTerms_6 (d1 := d - 1) (by omega) (e_X11_within E (by omega) _ _ _ h) rfl rfl (Nat.le_of_ble_eq_true rfl) ?_
  refine gf_if_eq 26 dX0_isTerms_9 rfl (fun zc9 => ?_) (fun zc9 => ?_)
  · refine gf_iconst (0) dX0_isTerms_26 rfl ?_
    exact gf_zretE dX0_isTerms_27 rfl (rfl) (by first | exact (zb_t ⟨zb_1.mp zc9, zc19⟩).symm | exact (zb_f (fun q => zb_0.mp zc9 q.1)).symm | exact (zb_f (fun q => zc19 q.2)).symm) (rfl)
  · refine gf_aload_n 0 dX0_isTerms_12 rfl rfl ?_
    refine gf_getR flX0_31 rfl dX0_isTerms_13 (gt_158 hG) (gp_158_6 hG) ?_
    refine gf_iload_n 1 dX0_isTerms_16 rfl rfl ?_
    refine gf_iald 201 dX0_isTerms_17 (gt_163 hG) (gl_163 hG) (ix_nI (by have q := zb_1.mp zc9; (try simp only [fa_lt, fa_le, fa_eq, ti_0, ti_1, ti_2, ti_3, ti_8, ti_9, ti_120, ti_m1] at *); omega)) (ix_lt (by have q := zb_1.mp zc9; (try simp only [fa_lt, fa_le, fa_eq, ti_0, ti_1, ti_2, ti_3, ti_8, ti_9, ti_120, ti_m1] at *); omega) (by have q := zb_1.mp zc9; have e2 := ti_nI (n := n) (by omega); rw [hN] at q; simp only [fa_lt, fa_le, ti_1, e2] at q; omega)) (by decide) ?_
    refine gf_iconst (1) dX0_isTerms_18 rfl ?_
    refine gf_icmp_ne 26 dX0_isTerms_19 rfl (fun zc19 => ?_) (fun zc19 => ?_)
    · refine gf_iconst (0) dX0_isTerms_26 rfl ?_
      exact gf_zretE dX0_isTerms_27 rfl (rfl) (by first | exact (zb_t ⟨zb_1.mp zc9, zc19⟩).symm | exact (zb_f (fun q => zb_0.mp zc9 q.1)).symm | exact (zb_f (fun q => zc19 q.2)).symm) (rfl)
    · refine gf_iconst (1) dX0_isTerms_22 rfl ?_
      refine gf_goto 27 dX0_isTerms_23 rfl ?_
      exact gf_zretE dX0_isTerms_27 rfl (rfl) (by first | exact (zb_t ⟨zb_1.mp zc9, zc19⟩).symm | exact (zb_f (fun q => zb_0.mp zc9 q.1)).symm | exact (zb_f (fun q => zc19 q.2)).symm) (rfl)
theorem e_X0_mayBeVoid (E : gE) {d : Nat} (hd : 1 ≤ d) (a : Int32) (h : hp_T) (hG : gr h) {n : Nat} (hN : hp_i h 158 0 = nI n) (hn : n ≤ 200) : ev E mX0_mayBeVoid d [.ref (E.1 + 158), .int a] h (some (.int (zb ((1 ≤ a ∧ a ≤ hp_i h 158 0) ∧ (¬ hp_i h 163 a.toNatClampNeg = 3) ∧ hp_i h 164 a.toNatClampNeg = 0)))) h := by
  refine ev_of rfl (fun q => absurd q (by decide)) (Nat.le_of_ble_eq_true rfl) ?_
  refine gf_iload_n 1 dX0_mayBeVoid_0 rfl rfl ?_
  refine gf_iconst (1) dX0_mayBeVoid_1 rfl ?_
  refine gf_aload_n 0 dX0_mayBeVoid_2 rfl rfl ?_
  refine gf_getI flX0_37 rfl dX0_mayBeVoid_3 (gt_158 hG) ?_
  refine gf_callSN cmX11_within lkX0_51 stX11_within dX0_mayBeVoid_6 (d1 := d - 1) (by omega) (e_X11_within E (by omega) _ _ _ h) rfl rfl (Nat.le_of_ble_eq_true rfl) ?_
  refine gf_if_eq 35 dX0_mayBeVoid_9 rfl (fun zc9 => ?_) (fun zc9 => ?_)
  · refine gf_iconst (0) dX0_mayBeVoid_35 rfl ?_
    exact gf_zretE dX0_mayBeVoid_36 rfl (rfl) ((zb_f (fun q => zb_0.mp zc9 q.1)).symm) (rfl)
  · refine gf_aload_n 0 dX0_mayBeVoid_12 rfl rfl ?_
    refine gf_getR flX0_31 rfl dX0_mayBeVoid_13 (gt_158 hG) (gp_158_6 hG) ?_
    refine gf_iload_n 1 dX0_mayBeVoid_16 rfl rfl ?_
    refine gf_iald 201 dX0_mayBeVoid_17 (gt_163 hG) (gl_163 hG) (ix_nI (by have q := zb_1.mp zc9; (try simp only [fa_lt, fa_le, fa_eq, ti_0, ti_1, ti_2, ti_3, ti_8, ti_9, ti_120, ti_m1] at *); omega)) (ix_lt (by have q := zb_1.mp zc9; (try simp only [fa_lt, fa_le, fa_eq, ti_0, ti_1, ti_2, ti_3, ti_8, ti_9, ti_120, ti_m1] at *); omega) (by have q := zb_1.mp zc9; have e2 := ti_nI (n := n) (by omega); rw [hN] at q; simp only [fa_lt, fa_le, ti_1, e2] at q; omega)) (by decide) ?_
    refine gf_iconst (3) dX0_mayBeVoid_18 rfl ?_
    refine gf_icmp_eq 35 dX0_mayBeVoid_19 rfl (fun zc19 => ?_) (fun zc19 => ?_)
    · refine gf_iconst (0) dX0_mayBeVoid_35 rfl ?_
      exact gf_zretE dX0_mayBeVoid_36 rfl (rfl) ((zb_f (fun q => q.2.1 zc19)).symm) (rfl)
    · refine gf_aload_n 0 dX0_mayBeVoid_22 rfl rfl ?_
      refine gf_getR flX0_34 rfl dX0_mayBeVoid_23 (gt_158 hG) (gp_158_7 hG) ?_
      refine gf_iload_n 1 dX0_mayBeVoid_26 rfl rfl ?_
      refine gf_iald 201 dX0_mayBeVoid_27 (gt_164 hG) (gl_164 hG) (ix_nI (by have q := zb_1.mp zc9; (try simp only [fa_lt, fa_le, fa_eq, ti_0, ti_1, ti_2, ti_3, ti_8, ti_9, ti_120, ti_m1] at *); omega)) (ix_lt (by have q := zb_1.mp zc9; (try simp only [fa_lt, fa_le, fa_eq, ti_0, ti_1, ti_2, ti_3, ti_8, ti_9, ti_120, ti_m1] at *); omega) (by have q := zb_1.mp zc9; have e2 := ti_nI (n := n) (by omega); rw [hN] at q; simp only [fa_lt, fa_le, ti_1, e2] at q; omega)) (by decide) ?_
      refine gf_if_ne 35 dX0_mayBeVoid_28 rfl (fun zc28 => ?_) (fun zc28 => ?_)
      · refine gf_iconst (0) dX0_mayBeVoid_35 rfl ?_
        exact gf_zretE dX0_mayBeVoid_36 rfl (rfl) ((zb_f (fun q => zc28 q.2.2)).symm) (rfl)
      · refine gf_iconst (1) dX0_mayBeVoid_31 rfl ?_
        refine gf_goto 36 dX0_mayBeVoid_32 rfl ?_
        exact gf_zretE dX0_mayBeVoid_36 rfl (rfl) ((zb_t ⟨zb_1.mp zc9, zc19, zc28⟩).symm) (rfl)
theorem mn_le {a x y : Int32} (h : a ≤ (if x < y then x else y)) : a ≤ x ∧ a ≤ y := by
  by_cases c : x < y
  · rw [if_pos c] at h
    rw [fa_lt] at c
    rw [fa_le] at h
    rw [fa_le, fa_le]
    omega
  · rw [if_neg c] at h
    rw [fa_lt] at c
    rw [fa_le] at h
    rw [fa_le, fa_le]
    omega
theorem e_X0_knownAt (E : gE) {d : Nat} (hd : 1 ≤ d) (a s : Int32) (h : hp_T) (hG : gr h) {n : Nat} (hN : hp_i h 158 0 = nI n) (hn : n ≤ 200) : ev E mX0_knownAt d [.ref (E.1 + 158), .int a, .int s] h (some (.int (zb ((1 ≤ a ∧ a ≤ (if hp_i h 158 0 < s then hp_i h 158 0 else s)) ∧ (hp_i h 164 a.toNatClampNeg = 0 ∨ s < hp_i h 164 a.toNatClampNeg))))) h := by
  refine ev_of rfl (fun q => absurd q (by decide)) (Nat.le_of_ble_eq_true rfl) ?_
  refine gf_iload_n 1 dX0_knownAt_0 rfl rfl ?_
  refine gf_iconst (1) dX0_knownAt_1 rfl ?_
  refine gf_iload_n 2 dX0_knownAt_2 rfl rfl ?_
  refine gf_aload_n 0 dX0_knownAt_3 rfl rfl ?_
  refine gf_getI flX0_37 rfl dX0_knownAt_4 (gt_158 hG) ?_
  refine gf_min lkX0_55 kMmin.1 kMmin.2.1 kMmin.2.2 dX0_knownAt_7 (by omega) (Nat.le_of_ble_eq_true rfl) ?_
  refine gf_callSN cmX11_within lkX0_51 stX11_within dX0_knownAt_10 (d1 := d - 1) (by omega) (e_X11_within E (by omega) _ _ _ h) rfl rfl (Nat.le_of_ble_eq_true rfl) ?_
  refine gf_if_eq 39 dX0_knownAt_13 rfl (fun zc13 => ?_) (fun zc13 => ?_)
  · refine gf_iconst (0) dX0_knownAt_39 rfl ?_
    exact gf_zretE dX0_knownAt_40 rfl (rfl) ((zb_f (fun q => zb_0.mp zc13 q.1)).symm) (rfl)
  · refine gf_aload_n 0 dX0_knownAt_16 rfl rfl ?_
    refine gf_getR flX0_34 rfl dX0_knownAt_17 (gt_158 hG) (gp_158_7 hG) ?_
    refine gf_iload_n 1 dX0_knownAt_20 rfl rfl ?_
    refine gf_iald 201 dX0_knownAt_21 (gt_164 hG) (gl_164 hG) (ix_nI (by have q := zb_1.mp zc13; have q1 := q.1; simp only [fa_le, ti_1] at q1; omega)) (ix_lt (by have q := zb_1.mp zc13; have q1 := q.1; simp only [fa_le, ti_1] at q1; omega) (by have q := (mn_le (zb_1.mp zc13).2).1; have e2 := ti_nI (n := n) (by omega); rw [hN, fa_le, e2] at q; omega)) (by decide) ?_
    refine gf_if_eq 35 dX0_knownAt_22 rfl (fun zc22 => ?_) (fun zc22 => ?_)
    · refine gf_iconst (1) dX0_knownAt_35 rfl ?_
      refine gf_goto 40 dX0_knownAt_36 rfl ?_
      exact gf_zretE dX0_knownAt_40 rfl (rfl) ((zb_t ⟨zb_1.mp zc13, Or.inl zc22⟩).symm) (rfl)
    · refine gf_aload_n 0 dX0_knownAt_25 rfl rfl ?_
      refine gf_getR flX0_34 rfl dX0_knownAt_26 (gt_158 hG) (gp_158_7 hG) ?_
      refine gf_iload_n 1 dX0_knownAt_29 rfl rfl ?_
      refine gf_iald 201 dX0_knownAt_30 (gt_164 hG) (gl_164 hG) (ix_nI (by have q := zb_1.mp zc13; have q1 := q.1; simp only [fa_le, ti_1] at q1; omega)) (ix_lt (by have q := zb_1.mp zc13; have q1 := q.1; simp only [fa_le, ti_1] at q1; omega) (by have q := (mn_le (zb_1.mp zc13).2).1; have e2 := ti_nI (n := n) (by omega); rw [hN, fa_le, e2] at q; omega)) (by decide) ?_
      refine gf_iload_n 2 dX0_knownAt_31 rfl rfl ?_
      refine gf_icmp_le 39 dX0_knownAt_32 rfl (fun zc32 => ?_) (fun zc32 => ?_)
      · refine gf_iconst (0) dX0_knownAt_39 rfl ?_
        exact gf_zretE dX0_knownAt_40 rfl (rfl) ((zb_f (fun q => q.2.elim zc22 (fun z => (fa_of_lt z).2.1 zc32))).symm) (rfl)
      · refine gf_iconst (1) dX0_knownAt_35 rfl ?_
        refine gf_goto 40 dX0_knownAt_36 rfl ?_
        exact gf_zretE dX0_knownAt_40 rfl (rfl) ((zb_t ⟨zb_1.mp zc13, Or.inr (fa_of_nle zc32)⟩).symm) (rfl)
theorem e_X0_add (E : gE) {d : Nat} (hd : 1 ≤ d) (kd : Int32) (h : hp_T) (hG : gr h) {n : Nat} (hN : hp_i h 158 0 = nI n) (hn : n < 200) : ev E mX0_add d [.ref (E.1 + 158), .int kd] h (some (.int 1)) (hp_setR (hp_setI (hp_setI (hp_setI h 158 0 (nI (n + 1))) 163 (n + 1) kd) 164 (n + 1) 0) 162 (n + 1) none) := by
  refine ev_of rfl (fun q => absurd q (by decide)) (Nat.le_of_ble_eq_true rfl) ?_
  refine gf_aload_n 0 dX0_add_0 rfl rfl ?_
  refine gf_callV cmX0_full lkX0_47 imX0_full seX0_full ⟨rfl, by decide⟩ dX0_add_1 (d1 := d - 1) (by omega) (gt_158 hG) (e_X0_full E (by omega) h hG) rfl rfl (Nat.le_of_ble_eq_true rfl) ?_
  rw [zb_f (show ¬ (200 : Int32) ≤ hp_i h 158 0 by rw [hN]; exact fun q => nI_nlt (Nat.le_refl n) (by omega) (by have e2 := ti_nI (n := n) (by omega); rw [fa_le, ti_200, e2] at q; omega))]
  refine gf_if_eq 9 dX0_add_4 rfl (fun _ => ?_) (fun q => absurd (rfl) q)
  refine gf_aload_n 0 dX0_add_9 rfl rfl ?_
  refine gf_dup dX0_add_10 rfl ?_
  refine gf_getI flX0_37 rfl dX0_add_11 (gt_158 hG) ?_
  refine gf_iconst (1) dX0_add_14 rfl ?_
  refine gf_iadd dX0_add_15 ?_
  rw [show hp_i h 158 0 + 1 = nI (n + 1) from by rw [hN]; exact nI_1 n]
  refine gf_putI flX0_37 rfl rfl dX0_add_16 (gt_158 hG) ⟨rfl, rfl⟩ ?_
  refine gf_aload_n 0 dX0_add_19 rfl rfl ?_
  refine gf_getR flX0_31 rfl dX0_add_20 (gt_158 hG) (gp_158_6 hG) ?_
  refine gf_aload_n 0 dX0_add_23 rfl rfl ?_
  refine gf_getI flX0_37 rfl dX0_add_24 (gt_158 hG) ?_
  refine gf_iload_n 1 dX0_add_27 rfl rfl ?_
  refine gf_iast 201 dX0_add_28 (gt_163 hG) (gl_163 hG) (j := n + 1) (by simp [hp_i, hp_setI, up2]) (by omega) (by decide) ?_
  refine gf_aload_n 0 dX0_add_29 rfl rfl ?_
  refine gf_getR flX0_34 rfl dX0_add_30 (gt_158 hG) (gp_158_7 hG) ?_
  refine gf_aload_n 0 dX0_add_33 rfl rfl ?_
  refine gf_getI flX0_37 rfl dX0_add_34 (gt_158 hG) ?_
  refine gf_iconst (0) dX0_add_37 rfl ?_
  refine gf_iast 201 dX0_add_38 (gt_164 hG) (gl_164 hG) (j := n + 1) (by simp [hp_i, hp_setI, up2]) (by omega) (by decide) ?_
  refine gf_aload_n 0 dX0_add_39 rfl rfl ?_
  refine gf_getR flX0_27 rfl dX0_add_40 (gt_158 hG) (gp_158_5 hG) ?_
  refine gf_aload_n 0 dX0_add_43 rfl rfl ?_
  refine gf_getI flX0_37 rfl dX0_add_44 (gt_158 hG) ?_
  refine gf_null dX0_add_47 ?_
  refine gf_rastN 201 dX0_add_48 (gt_162 hG) (gl_162 hG) (j := n + 1) (by simp [hp_i, hp_setI, up2]) (by omega) (by decide) ?_
  refine gf_iconst (1) dX0_add_49 rfl ?_
  exact gf_zretE dX0_add_50 rfl (rfl) (rfl) (rfl)
