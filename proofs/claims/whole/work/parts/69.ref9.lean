/-! ===== the reference: came, burnt ===== -/
abbrev mcaC (M : mM) (m : Nat) (a : Int32) : Prop := ¬ M 0 90 = 0 ∧ (0 ≤ a ∧ a ≤ nI m - 1)
def mcaV (M : mM) (a : Nat) (u : Int32) : Int32 := if u = 0 then M 75 a else if u = 1 then M 76 a else if u = 2 then M 77 a else -1
theorem le_pred {a : Int32} {m N9 : Nat} (hm : m ≤ N9) (hN9 : N9 < 100000) (h : 0 ≤ a ∧ a ≤ nI m - 1) : a = nI a.toNatClampNeg ∧ a.toNatClampNeg < N9 := by
  have h1 := h.1
  have h2 := h.2
  have e9 : (nI m - 1).toInt = (m : Int) - 1 := pk_sub_toInt (a := m) (b := 1) (by omega) (by omega)
  rw [fa_le, ti_0] at h1
  rw [fa_le, e9] at h2
  exact ⟨ix_nI h1, ix_lt h1 (by omega)⟩
theorem e_X12_came (E : gE) {d : Nat} (hd : 1 ≤ d) {m : Nat} (k u : Int32) (h : hp_T) (hG : gr h) (M : mM) (N : mN) (hE : M 0 92 = nI m) (hm12 : m ≤ 12) : ev E mX12_came d [.ref (E.1 + 247), .int k, .int u] (hm h M N) (some (.int (if mcaC M m k then mcaV M k.toNatClampNeg u else -1))) (hm h M N) := by
  refine ev_of rfl (fun q => absurd q (by decide)) (Nat.le_of_ble_eq_true rfl) ?_
  refine gf_aload_n 0 dX12_came_0 rfl rfl ?_
  refine gf_getI flX12_430 rfl dX12_came_1 (gt_247 hG) ?_
  refine gf_if_eq 23 dX12_came_4 rfl (fun zc4 => ?_) (fun zc4 => ?_)
  · refine gf_iconst (-1) dX12_came_23 rfl ?_
    exact gf_iretE dX12_came_24 rfl ((if_neg (fun q => q.1 zc4)).symm) (rfl)
  · refine gf_iload_n 1 dX12_came_7 rfl rfl ?_
    refine gf_i2l dX12_came_8 ?_
    refine gf_lconst (0) dX12_came_9 rfl ?_
    refine gf_aload_n 0 dX12_came_10 rfl rfl ?_
    refine gf_getI flX12_620 rfl dX12_came_11 (gt_247 hG) ?_
    rw [show hp_i (hm h M N) 247 92 = nI m from hE]
    refine gf_iconst (1) dX12_came_14 rfl ?_
    refine gf_isub dX12_came_15 ?_
    refine gf_i2l dX12_came_16 ?_
    refine gf_callS cmX12_isIn lkX12_325 stX12_isIn dX12_came_17 (d1 := d - 1) (by omega) (e_X12_isIn E (by omega) k.toInt64 0 (nI m - 1).toInt64 _) rfl rfl (Nat.le_of_ble_eq_true rfl) ?_
    refine gf_if_ne 25 dX12_came_20 rfl (fun zc20 => ?_) (fun zc20 => ?_)
    · have pin : 0 ≤ k ∧ k ≤ nI m - 1 := (isIn_l z64_0 rfl).mp (zb_1.mp zc20)
      have hk9 := le_pred (N9 := 12) hm12 (by omega) pin
      refine gf_iload_n 2 dX12_came_25 rfl rfl ?_
      refine gf_if_ne 38 dX12_came_26 rfl (fun zc26 => ?_) (fun zc26 => ?_)
      · refine gf_iload_n 2 dX12_came_38 rfl rfl ?_
        refine gf_iconst (1) dX12_came_39 rfl ?_
        refine gf_icmp_ne 52 dX12_came_40 rfl (fun zc40 => ?_) (fun zc40 => ?_)
        · refine gf_iload_n 2 dX12_came_52 rfl rfl ?_
          refine gf_iconst (2) dX12_came_53 rfl ?_
          refine gf_icmp_ne 66 dX12_came_54 rfl (fun zc54 => ?_) (fun zc54 => ?_)
          · refine gf_iconst (-1) dX12_came_66 rfl ?_
            exact gf_iretE dX12_came_67 rfl (((if_pos ⟨zc4, pin⟩).trans ((if_neg zc26).trans ((if_neg zc40).trans (if_neg zc54)) : mcaV M k.toNatClampNeg u = _)).symm) (rfl)
          · refine gf_aload_n 0 dX12_came_57 rfl rfl ?_
            refine gf_getR flX12_255 rfl dX12_came_58 (gt_247 hG) (gp_247_102 hG) ?_
            refine gf_iload_n 1 dX12_came_61 rfl rfl ?_
            refine gf_iald 12 dX12_came_62 (gt_324 hG) (gl_324 hG) hk9.1 hk9.2 (by decide) ?_
            refine gf_goto 67 dX12_came_63 rfl ?_
            exact gf_iretE dX12_came_67 rfl (((if_pos ⟨zc4, pin⟩).trans ((if_neg zc26).trans ((if_neg zc40).trans (if_pos zc54)) : mcaV M k.toNatClampNeg u = _)).symm) (rfl)
        · refine gf_aload_n 0 dX12_came_43 rfl rfl ?_
          refine gf_getR flX12_252 rfl dX12_came_44 (gt_247 hG) (gp_247_101 hG) ?_
          refine gf_iload_n 1 dX12_came_47 rfl rfl ?_
          refine gf_iald 12 dX12_came_48 (gt_323 hG) (gl_323 hG) hk9.1 hk9.2 (by decide) ?_
          refine gf_goto 67 dX12_came_49 rfl ?_
          exact gf_iretE dX12_came_67 rfl (((if_pos ⟨zc4, pin⟩).trans ((if_neg zc26).trans (if_pos zc40) : mcaV M k.toNatClampNeg u = _)).symm) (rfl)
      · refine gf_aload_n 0 dX12_came_29 rfl rfl ?_
        refine gf_getR flX12_249 rfl dX12_came_30 (gt_247 hG) (gp_247_100 hG) ?_
        refine gf_iload_n 1 dX12_came_33 rfl rfl ?_
        refine gf_iald 12 dX12_came_34 (gt_322 hG) (gl_322 hG) hk9.1 hk9.2 (by decide) ?_
        refine gf_goto 67 dX12_came_35 rfl ?_
        exact gf_iretE dX12_came_67 rfl (((if_pos ⟨zc4, pin⟩).trans (if_pos zc26 : mcaV M k.toNatClampNeg u = _)).symm) (rfl)
    · refine gf_iconst (-1) dX12_came_23 rfl ?_
      exact gf_iretE dX12_came_24 rfl ((if_neg (fun q => zb_0.mp zc20 ((isIn_l z64_0 rfl).mpr q.2))).symm) (rfl)
