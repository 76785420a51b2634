/-! ===== the reference: claim, came ===== -/
abbrev mclC (M : mM) (a : Int32) : Prop := (¬ M 0 90 = 0 ∧ (1 ≤ a ∧ a ≤ 200)) ∧ ¬ M 78 a.toNatClampNeg = 0
def mclV (M : mM) (a : Nat) (u : Int32) : Int32 := if u = 0 then M 79 a else if u = 1 then M 80 a else -1
theorem e_X12_claim (E : gE) {d : Nat} (hd : 1 ≤ d) (k u : Int32) (h : hp_T) (hG : gr h) (M : mM) (N : mN) : ev E mX12_claim d [.ref (E.1 + 247), .int k, .int u] (hm h M N) (some (.int (if mclC M k then mclV M k.toNatClampNeg u else -1))) (hm h M N) := by
  refine ev_of rfl (fun q => absurd q (by decide)) (Nat.le_of_ble_eq_true rfl) ?_
  refine gf_aload_n 0 dX12_claim_0 rfl rfl ?_
  refine gf_getI flX12_430 rfl dX12_claim_1 (gt_247 hG) ?_
  refine gf_if_eq 28 dX12_claim_4 rfl (fun zc4 => ?_) (fun zc4 => ?_)
  · refine gf_iconst (-1) dX12_claim_28 rfl ?_
    exact gf_iretE dX12_claim_29 rfl ((if_neg (fun q => q.1.1 zc4)).symm) (rfl)
  · refine gf_iload_n 1 dX12_claim_7 rfl rfl ?_
    refine gf_i2l dX12_claim_8 ?_
    refine gf_lconst (1) dX12_claim_9 rfl ?_
    refine gf_ldc2 (200) kcX12_632 dX12_claim_10 ?_
    refine gf_callS cmX12_isIn lkX12_325 stX12_isIn dX12_claim_13 (d1 := d - 1) (by omega) (e_X12_isIn E (by omega) k.toInt64 1 200 _) rfl rfl (Nat.le_of_ble_eq_true rfl) ?_
    refine gf_if_eq 28 dX12_claim_16 rfl (fun zc16 => ?_) (fun zc16 => ?_)
    · refine gf_iconst (-1) dX12_claim_28 rfl ?_
      exact gf_iretE dX12_claim_29 rfl ((if_neg (fun q => zb_0.mp zc16 ((isIn_l z64_1 z64_200).mpr q.1.2))).symm) (rfl)
    · have pin : 1 ≤ k ∧ k ≤ 200 := (isIn_l z64_1 z64_200).mp (zb_1.mp zc16)
      refine gf_aload_n 0 dX12_claim_19 rfl rfl ?_
      refine gf_getR flX12_258 rfl dX12_claim_20 (gt_247 hG) (gp_247_104 hG) ?_
      refine gf_iload_n 1 dX12_claim_23 rfl rfl ?_
      refine gf_zald 201 dX12_claim_24 (gt_325 hG) (gl_325 hG) (ix_nI (by have q := pin.1; rw [fa_le, ti_1] at q; omega)) (ix_lt (by have q := pin.1; rw [fa_le, ti_1] at q; omega) (by have q := pin.2; rw [fa_le, ti_200] at q; omega)) (by decide) ?_
      refine gf_if_ne 30 dX12_claim_25 rfl (fun zc25 => ?_) (fun zc25 => ?_)
      · refine gf_iload_n 2 dX12_claim_30 rfl rfl ?_
        refine gf_if_ne 43 dX12_claim_31 rfl (fun zc31 => ?_) (fun zc31 => ?_)
        · refine gf_iload_n 2 dX12_claim_43 rfl rfl ?_
          refine gf_iconst (1) dX12_claim_44 rfl ?_
          refine gf_icmp_ne 57 dX12_claim_45 rfl (fun zc45 => ?_) (fun zc45 => ?_)
          · refine gf_iconst (-1) dX12_claim_57 rfl ?_
            exact gf_iretE dX12_claim_58 rfl (((if_pos ⟨⟨zc4, pin⟩, zc25⟩).trans ((if_neg zc31).trans (if_neg zc45) : mclV M k.toNatClampNeg u = _)).symm) (rfl)
          · refine gf_aload_n 0 dX12_claim_48 rfl rfl ?_
            refine gf_getR flX12_264 rfl dX12_claim_49 (gt_247 hG) (gp_247_106 hG) ?_
            refine gf_iload_n 1 dX12_claim_52 rfl rfl ?_
            refine gf_iald 201 dX12_claim_53 (gt_327 hG) (gl_327 hG) (ix_nI (by have q := pin.1; rw [fa_le, ti_1] at q; omega)) (ix_lt (by have q := pin.1; rw [fa_le, ti_1] at q; omega) (by have q := pin.2; rw [fa_le, ti_200] at q; omega)) (by decide) ?_
            refine gf_goto 58 dX12_claim_54 rfl ?_
            exact gf_iretE dX12_claim_58 rfl (((if_pos ⟨⟨zc4, pin⟩, zc25⟩).trans ((if_neg zc31).trans (if_pos zc45) : mclV M k.toNatClampNeg u = _)).symm) (rfl)
        · refine gf_aload_n 0 dX12_claim_34 rfl rfl ?_
          refine gf_getR flX12_261 rfl dX12_claim_35 (gt_247 hG) (gp_247_105 hG) ?_
          refine gf_iload_n 1 dX12_claim_38 rfl rfl ?_
          refine gf_iald 201 dX12_claim_39 (gt_326 hG) (gl_326 hG) (ix_nI (by have q := pin.1; rw [fa_le, ti_1] at q; omega)) (ix_lt (by have q := pin.1; rw [fa_le, ti_1] at q; omega) (by have q := pin.2; rw [fa_le, ti_200] at q; omega)) (by decide) ?_
          refine gf_goto 58 dX12_claim_40 rfl ?_
          exact gf_iretE dX12_claim_58 rfl (((if_pos ⟨⟨zc4, pin⟩, zc25⟩).trans (if_pos zc31 : mclV M k.toNatClampNeg u = _)).symm) (rfl)
      · refine gf_iconst (-1) dX12_claim_28 rfl ?_
        exact gf_iretE dX12_claim_29 rfl ((if_neg (fun q => q.2 zc25)).symm) (rfl)
