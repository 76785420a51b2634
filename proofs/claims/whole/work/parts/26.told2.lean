/-! ===== the class itself: policies, voids, engines ===== -/
theorem e_X11_policy (E : gE) {d : Nat} (hd : 3 ≤ d) (c oo sm : Int32) (h : hp_T) (hG : gr h) {w g : Nat} (C : cty (hp_i h) w g) {n : Nat} (hN : hp_i h 158 0 = nI n) (hn : n ≤ 200) : ev E mX11_policy d [.ref (E.1 + 0), .int c, .int oo, .int sm] h (some (.int (if (((0 ≤ c ∧ c < hp_i h 1 2) ∧ ¬ hp_i h 2 c.toNatClampNeg = 0) ∧ (0 ≤ oo ∧ oo ≤ 8) ∧ (1 ≤ sm ∧ sm ≤ 99999) ∧ (¬ 200 ≤ hp_i h 158 0)) then nI (n + 1) else -1))) (if (((0 ≤ c ∧ c < hp_i h 1 2) ∧ ¬ hp_i h 2 c.toNatClampNeg = 0) ∧ (0 ≤ oo ∧ oo ≤ 8) ∧ (1 ≤ sm ∧ sm ≤ 99999) ∧ (¬ 200 ≤ hp_i h 158 0)) then (hp_setI (hp_setI (hp_setI (hp_setR (hp_setI (hp_setI (hp_setI h 158 0 (nI (n + 1))) 163 (n + 1) 2) 164 (n + 1) 0) 162 (n + 1) none) 160 (n + 1) c) 159 (n + 1) oo) 161 (n + 1) sm) else h) := by
  refine ev_of rfl (fun q => absurd q (by decide)) (Nat.le_of_ble_eq_true rfl) ?_
  refine gf_aload_n 0 dX11_policy_0 rfl rfl ?_
  refine gf_getR flX11_10 rfl dX11_policy_1 (gt_0 hG) (gp_0_0 hG) ?_
  refine gf_iload_n 1 dX11_policy_4 rfl rfl ?_
  refine gf_callV cmX1_hasHouse lkX11_178 imX1_hasHouse seX1_hasHouse ⟨rfl, by decide⟩ dX11_policy_5 (d1 := d - 1) (by omega) (gt_1 hG) (e_X1_hasHouse E (by omega) c h hG C) rfl rfl (Nat.le_of_ble_eq_true rfl) ?_
  refine gf_if_eq 38 dX11_policy_8 rfl (fun zc8 => ?_) (fun zc8 => ?_)
  · refine gf_iconst (-1) dX11_policy_38 rfl ?_
    exact gf_iretE dX11_policy_39 rfl ((if_neg (fun q => zb_0.mp zc8 q.1)).symm) ((if_neg (fun q => zb_0.mp zc8 q.1)).symm)
  · refine gf_iload_n 2 dX11_policy_11 rfl rfl ?_
    refine gf_callS cmX11_isOffice lkX11_143 stX11_isOffice dX11_policy_12 (d1 := d - 1) (by omega) (e_X11_isOffice E (by omega) _ h) rfl rfl (Nat.le_of_ble_eq_true rfl) ?_
    refine gf_if_eq 38 dX11_policy_15 rfl (fun zc15 => ?_) (fun zc15 => ?_)
    · refine gf_iconst (-1) dX11_policy_38 rfl ?_
      exact gf_iretE dX11_policy_39 rfl ((if_neg (fun q => zb_0.mp zc15 q.2.1)).symm) ((if_neg (fun q => zb_0.mp zc15 q.2.1)).symm)
    · refine gf_iload_n 3 dX11_policy_18 rfl rfl ?_
      refine gf_iconst (1) dX11_policy_19 rfl ?_
      refine gf_ldc (99999) kcX11_181 dX11_policy_20 ?_
      refine gf_callS cmX11_within lkX11_105 stX11_within dX11_policy_22 (d1 := d - 1) (by omega) (e_X11_within E (by omega) _ _ _ h) rfl rfl (Nat.le_of_ble_eq_true rfl) ?_
      refine gf_if_eq 38 dX11_policy_25 rfl (fun zc25 => ?_) (fun zc25 => ?_)
      · refine gf_iconst (-1) dX11_policy_38 rfl ?_
        exact gf_iretE dX11_policy_39 rfl ((if_neg (fun q => zb_0.mp zc25 q.2.2.1)).symm) ((if_neg (fun q => zb_0.mp zc25 q.2.2.1)).symm)
      · refine gf_aload_n 0 dX11_policy_28 rfl rfl ?_
        refine gf_getR flX11_33 rfl dX11_policy_29 (gt_0 hG) (gp_0_3 hG) ?_
        refine gf_callV cmX0_full lkX11_160 imX0_full seX0_full ⟨rfl, by decide⟩ dX11_policy_32 (d1 := d - 1) (by omega) (gt_158 hG) (e_X0_full E (by omega) h hG) rfl rfl (Nat.le_of_ble_eq_true rfl) ?_
        refine gf_if_eq 40 dX11_policy_35 rfl (fun zc35 => ?_) (fun zc35 => ?_)
        · refine gf_aload_n 0 dX11_policy_40 rfl rfl ?_
          refine gf_getR flX11_33 rfl dX11_policy_41 (gt_0 hG) (gp_0_3 hG) ?_
          refine gf_iload_n 1 dX11_policy_44 rfl rfl ?_
          refine gf_iload_n 2 dX11_policy_45 rfl rfl ?_
          refine gf_iload_n 3 dX11_policy_46 rfl rfl ?_
          refine gf_callV cmX0_addPolicy lkX11_182 imX0_addPolicy seX0_addPolicy ⟨rfl, by decide⟩ dX11_policy_47 (d1 := d - 1) (by omega) (gt_158 hG) (e_X0_addPolicy E (by omega) c oo sm h hG hN (by have q := zb_0.mp zc35; rw [hN, fa_le, ti_200, ti_nI (by omega)] at q; omega)) rfl rfl (Nat.le_of_ble_eq_true rfl) ?_
          exact gf_iretE dX11_policy_50 rfl ((rfl).trans (if_pos (⟨zb_1.mp zc8, zb_1.mp zc15, zb_1.mp zc25, zb_0.mp zc35⟩)).symm) ((if_pos (⟨zb_1.mp zc8, zb_1.mp zc15, zb_1.mp zc25, zb_0.mp zc35⟩)).symm)
        · refine gf_iconst (-1) dX11_policy_38 rfl ?_
          exact gf_iretE dX11_policy_39 rfl ((if_neg (fun q => q.2.2.2 (zb_1.mp zc35))).symm) ((if_neg (fun q => q.2.2.2 (zb_1.mp zc35))).symm)
theorem e_X11_annul (E : gE) {d : Nat} (hd : 3 ≤ d) (a : Int32) (h : hp_T) (hG : gr h) {n : Nat} (hN : hp_i h 158 0 = nI n) (hn : n ≤ 200) : ev E mX11_annul d [.ref (E.1 + 0), .int a] h (some (.int (if (((1 ≤ a ∧ a ≤ hp_i h 158 0) ∧ (¬ hp_i h 163 a.toNatClampNeg = 3) ∧ hp_i h 164 a.toNatClampNeg = 0) ∧ (¬ 200 ≤ hp_i h 158 0)) then nI (n + 1) else -1))) (if (((1 ≤ a ∧ a ≤ hp_i h 158 0) ∧ (¬ hp_i h 163 a.toNatClampNeg = 3) ∧ hp_i h 164 a.toNatClampNeg = 0) ∧ (¬ 200 ≤ hp_i h 158 0)) then (hp_setI (hp_setR (hp_setI (hp_setI (hp_setI h 158 0 (nI (n + 1))) 163 (n + 1) 3) 164 (n + 1) 0) 162 (n + 1) none) 164 a.toNatClampNeg (nI (n + 1))) else h) := by
  refine ev_of rfl (fun q => absurd q (by decide)) (Nat.le_of_ble_eq_true rfl) ?_
  refine gf_aload_n 0 dX11_annul_0 rfl rfl ?_
  refine gf_getR flX11_33 rfl dX11_annul_1 (gt_0 hG) (gp_0_3 hG) ?_
  refine gf_iload_n 1 dX11_annul_4 rfl rfl ?_
  refine gf_callV cmX0_mayBeVoid lkX11_186 imX0_mayBeVoid seX0_mayBeVoid ⟨rfl, by decide⟩ dX11_annul_5 (d1 := d - 1) (by omega) (gt_158 hG) (e_X0_mayBeVoid E (by omega) a h hG hN hn) rfl rfl (Nat.le_of_ble_eq_true rfl) ?_
  refine gf_if_eq 21 dX11_annul_8 rfl (fun zc8 => ?_) (fun zc8 => ?_)
  · refine gf_iconst (-1) dX11_annul_21 rfl ?_
    exact gf_iretE dX11_annul_22 rfl ((if_neg (fun q => zb_0.mp zc8 q.1)).symm) ((if_neg (fun q => zb_0.mp zc8 q.1)).symm)
  · refine gf_aload_n 0 dX11_annul_11 rfl rfl ?_
    refine gf_getR flX11_33 rfl dX11_annul_12 (gt_0 hG) (gp_0_3 hG) ?_
    refine gf_callV cmX0_full lkX11_160 imX0_full seX0_full ⟨rfl, by decide⟩ dX11_annul_15 (d1 := d - 1) (by omega) (gt_158 hG) (e_X0_full E (by omega) h hG) rfl rfl (Nat.le_of_ble_eq_true rfl) ?_
    refine gf_if_eq 23 dX11_annul_18 rfl (fun zc18 => ?_) (fun zc18 => ?_)
    · refine gf_aload_n 0 dX11_annul_23 rfl rfl ?_
      refine gf_getR flX11_33 rfl dX11_annul_24 (gt_0 hG) (gp_0_3 hG) ?_
      refine gf_iload_n 1 dX11_annul_27 rfl rfl ?_
      have q := zb_1.mp zc8
      have q0 : 1 ≤ a.toInt ∧ a.toInt ≤ n := by have q1 := q.1; rw [hN] at q1; simp only [fa_le, ti_1, ti_nI (show n < 2147483648 by omega)] at q1; exact q1
      have hte : a = nI a.toNatClampNeg := ix_nI (by omega)
      have hl9 : a.toNatClampNeg < 201 := ix_lt (by omega) (by omega)
      have hg9 : a.toInt = (a.toNatClampNeg : Int) := (congrArg Int32.toInt hte).trans (ti_nI (by omega))
      have q2 : ((1 : Int32) ≤ nI a.toNatClampNeg ∧ nI a.toNatClampNeg ≤ hp_i h 158 0) ∧ (¬ hp_i h 163 (nI a.toNatClampNeg).toNatClampNeg = 3) ∧ hp_i h 164 (nI a.toNatClampNeg).toNatClampNeg = 0 := by rw [← hte]; exact q
      refine gf_callV cmX0_addVoid lkX11_189 imX0_addVoid seX0_addVoid ⟨rfl, by decide⟩ dX11_annul_28 (d1 := d - 1) (by omega) (gt_158 hG) (ev_aE (aw := [.ref (E.1 + 158), .int a]) (by rw [← hte]) (e_X0_addVoid E (by omega) (a := a.toNatClampNeg) h hG hN (by have q := zb_0.mp zc18; rw [hN, fa_le, ti_200, ti_nI (by omega)] at q; omega) ⟨by omega, by omega⟩ q2)) rfl rfl (Nat.le_of_ble_eq_true rfl) ?_
      exact gf_iretE dX11_annul_31 rfl ((rfl).trans (if_pos (⟨zb_1.mp zc8, zb_0.mp zc18⟩)).symm) ((if_pos (⟨zb_1.mp zc8, zb_0.mp zc18⟩)).symm)
    · refine gf_iconst (-1) dX11_annul_21 rfl ?_
      exact gf_iretE dX11_annul_22 rfl ((if_neg (fun q => q.2 (zb_1.mp zc18))).symm) ((if_neg (fun q => q.2 (zb_1.mp zc18))).symm)
theorem e_X11_engine (E : gE) {d : Nat} (hd : 3 ≤ d) (oo c gg pp : Int32) (h : hp_T) (hG : gr h) {n : Nat} (hE : hp_i h 145 0 = nI n) (hn : n ≤ 12) : ev E mX11_engine d [.ref (E.1 + 0), .int oo, .int c, .int gg, .int pp] h (some (.int (if (((0 ≤ oo ∧ oo ≤ 8) ∧ (1 ≤ gg ∧ gg ≤ 9) ∧ (1 ≤ pp ∧ pp ≤ 9)) ∧ (0 ≤ c ∧ c < hp_i h 1 2) ∧ (hp_i h 145 0 < 12)) then nI n else -1))) (if (((0 ≤ oo ∧ oo ≤ 8) ∧ (1 ≤ gg ∧ gg ≤ 9) ∧ (1 ≤ pp ∧ pp ≤ 9)) ∧ (0 ≤ c ∧ c < hp_i h 1 2) ∧ (hp_i h 145 0 < 12)) then (hp_setI (hp_setI (hp_setI (hp_setI (hp_setI h 146 n oo) 147 n c) 148 n gg) 149 n pp) 145 0 (nI (n + 1))) else h) := by
  refine ev_of rfl (fun q => absurd q (by decide)) (Nat.le_of_ble_eq_true rfl) ?_
  refine gf_iload_n 1 dX11_engine_0 rfl rfl ?_
  refine gf_iload_n 3 dX11_engine_1 rfl rfl ?_
  refine gf_iload dX11_engine_2 rfl ?_
  refine gf_callS cmX11_mayServe lkX11_150 stX11_mayServe dX11_engine_4 (d1 := d - 1) (by omega) (e_X11_mayServe E (by omega) oo gg pp h) rfl rfl (Nat.le_of_ble_eq_true rfl) ?_
  refine gf_if_eq 33 dX11_engine_7 rfl (fun zc7 => ?_) (fun zc7 => ?_)
  · refine gf_iconst (-1) dX11_engine_33 rfl ?_
    exact gf_iretE dX11_engine_34 rfl ((if_neg (fun q => zb_0.mp zc7 q.1)).symm) ((if_neg (fun q => zb_0.mp zc7 q.1)).symm)
  · refine gf_aload_n 0 dX11_engine_10 rfl rfl ?_
    refine gf_getR flX11_10 rfl dX11_engine_11 (gt_0 hG) (gp_0_0 hG) ?_
    refine gf_iload_n 2 dX11_engine_14 rfl rfl ?_
    refine gf_callV cmX1_has lkX11_120 imX1_has seX1_has ⟨rfl, by decide⟩ dX11_engine_15 (d1 := d - 1) (by omega) (gt_1 hG) (e_X1_has E (by omega) c h hG) rfl rfl (Nat.le_of_ble_eq_true rfl) ?_
    refine gf_if_eq 33 dX11_engine_18 rfl (fun zc18 => ?_) (fun zc18 => ?_)
    · refine gf_iconst (-1) dX11_engine_33 rfl ?_
      exact gf_iretE dX11_engine_34 rfl ((if_neg (fun q => zb_0.mp zc18 q.2.1)).symm) ((if_neg (fun q => zb_0.mp zc18 q.2.1)).symm)
    · refine gf_aload_n 0 dX11_engine_21 rfl rfl ?_
      refine gf_getR flX11_19 rfl dX11_engine_22 (gt_0 hG) (gp_0_1 hG) ?_
      refine gf_getI flX11_109 rfl dX11_engine_25 (gt_145 hG) ?_
      refine gf_bipush (12) dX11_engine_28 rfl ?_
      refine gf_icmp_lt 35 dX11_engine_30 rfl (fun zc30 => ?_) (fun zc30 => ?_)
      · refine gf_aload_n 0 dX11_engine_35 rfl rfl ?_
        refine gf_getR flX11_19 rfl dX11_engine_36 (gt_0 hG) (gp_0_1 hG) ?_
        refine gf_iload_n 1 dX11_engine_39 rfl rfl ?_
        refine gf_iload_n 2 dX11_engine_40 rfl rfl ?_
        refine gf_iload_n 3 dX11_engine_41 rfl rfl ?_
        refine gf_iload dX11_engine_42 rfl ?_
        refine gf_callV cmX3_add lkX11_153 imX3_add seX3_add ⟨rfl, by decide⟩ dX11_engine_44 (d1 := d - 1) (by omega) (gt_145 hG) (e_X3_add E (by omega) oo c gg pp h hG hE (by have q := zc30; rw [hE, show (12 : Int32) = nI 12 from rfl, nI_ltI (by omega) (by decide)] at q; exact q)) rfl rfl (Nat.le_of_ble_eq_true rfl) ?_
        refine gf_aload_n 0 dX11_engine_47 rfl rfl ?_
        refine gf_getR flX11_19 rfl dX11_engine_48 (gt_0 hG) (gp_0_1 hG) ?_
        refine gf_getI flX11_109 rfl dX11_engine_51 (gt_145 hG) ?_
        refine gf_iconst (1) dX11_engine_54 rfl ?_
        refine gf_isub dX11_engine_55 ?_
        exact gf_iretE dX11_engine_56 rfl ((show hp_i (hp_setI (hp_setI (hp_setI (hp_setI (hp_setI h 146 n oo) 147 n c) 148 n gg) 149 n pp) 145 0 (nI (n + 1))) 145 0 - 1 = nI n from by rw [hset_s, show (1 : Int32) = nI 1 from rfl, pk_sub (by omega)]; rfl).trans (if_pos (⟨zb_1.mp zc7, zb_1.mp zc18, zc30⟩)).symm) ((if_pos (⟨zb_1.mp zc7, zb_1.mp zc18, zc30⟩)).symm)
      · refine gf_iconst (-1) dX11_engine_33 rfl ?_
        exact gf_iretE dX11_engine_34 rfl ((if_neg (fun q => zc30 q.2.2)).symm) ((if_neg (fun q => zc30 q.2.2)).symm)
