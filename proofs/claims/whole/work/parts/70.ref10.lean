/-! ===== the reference: burnt ===== -/
abbrev mbuC (M : mM) (m : Nat) (a : Int32) : Prop := (¬ M 0 90 = 0 ∧ (0 ≤ a ∧ a ≤ nI m - 1)) ∧ ¬ M 68 a.toNatClampNeg = 0
def mbuV (M : mM) (a : Nat) (u : Int32) : Int32 := if u = 0 then M 69 a else if u = 1 then M 70 a else if u = 2 then M 71 a else if u = 3 then M 72 a else if u = 4 then M 73 a else if u = 5 then M 74 a else -1
theorem e_X12_burnt (E : gE) {d : Nat} (hd : 1 ≤ d) {m : Nat} (k u : Int32) (h : hp_T) (hG : gr h) (M : mM) (N : mN) (hE : M 0 91 = nI m) (hm12 : m ≤ 120) : ev E mX12_burnt d [.ref (E.1 + 247), .int k, .int u] (hm h M N) (some (.int (if mbuC M m k then mbuV M k.toNatClampNeg u else -1))) (hm h M N) := by
  refine ev_of rfl (fun q => absurd q (by decide)) (Nat.le_of_ble_eq_true rfl) ?_
  refine gf_aload_n 0 dX12_burnt_0 rfl rfl ?_
  refine gf_getI flX12_430 rfl dX12_burnt_1 (gt_247 hG) ?_
  refine gf_if_eq 32 dX12_burnt_4 rfl (fun zc4 => ?_) (fun zc4 => ?_)
  · refine gf_iconst (-1) dX12_burnt_32 rfl ?_
    exact gf_iretE dX12_burnt_33 rfl ((if_neg (fun q => q.1.1 zc4)).symm) (rfl)
  · refine gf_iload_n 1 dX12_burnt_7 rfl rfl ?_
    refine gf_i2l dX12_burnt_8 ?_
    refine gf_lconst (0) dX12_burnt_9 rfl ?_
    refine gf_aload_n 0 dX12_burnt_10 rfl rfl ?_
    refine gf_getI flX12_617 rfl dX12_burnt_11 (gt_247 hG) ?_
    rw [show hp_i (hm h M N) 247 91 = nI m from hE]
    refine gf_iconst (1) dX12_burnt_14 rfl ?_
    refine gf_isub dX12_burnt_15 ?_
    refine gf_i2l dX12_burnt_16 ?_
    refine gf_callS cmX12_isIn lkX12_325 stX12_isIn dX12_burnt_17 (d1 := d - 1) (by omega) (e_X12_isIn E (by omega) k.toInt64 0 (nI m - 1).toInt64 _) rfl rfl (Nat.le_of_ble_eq_true rfl) ?_
    refine gf_if_eq 32 dX12_burnt_20 rfl (fun zc20 => ?_) (fun zc20 => ?_)
    · refine gf_iconst (-1) dX12_burnt_32 rfl ?_
      exact gf_iretE dX12_burnt_33 rfl ((if_neg (fun q => zb_0.mp zc20 ((isIn_l z64_0 rfl).mpr q.1.2))).symm) (rfl)
    · have pin : 0 ≤ k ∧ k ≤ nI m - 1 := (isIn_l z64_0 rfl).mp (zb_1.mp zc20)
      have hk9 := le_pred (N9 := 120) hm12 (by omega) pin
      refine gf_aload_n 0 dX12_burnt_23 rfl rfl ?_
      refine gf_getR flX12_228 rfl dX12_burnt_24 (gt_247 hG) (gp_247_93 hG) ?_
      refine gf_iload_n 1 dX12_burnt_27 rfl rfl ?_
      refine gf_zald 120 dX12_burnt_28 (gt_315 hG) (gl_315 hG) hk9.1 hk9.2 (by decide) ?_
      refine gf_if_ne 34 dX12_burnt_29 rfl (fun zc29 => ?_) (fun zc29 => ?_)
      · refine gf_iload_n 2 dX12_burnt_34 rfl rfl ?_
        by_cases zs35_0 : u = 0
        · refine gf_tableIn 72 dX12_burnt_35 (by rw [zs35_0]; decide) (by rw [zs35_0]; decide) (by rw [zs35_0]; rfl) rfl ?_
          refine gf_aload_n 0 dX12_burnt_72 rfl rfl ?_
          refine gf_getR flX12_231 rfl dX12_burnt_73 (gt_247 hG) (gp_247_94 hG) ?_
          refine gf_iload_n 1 dX12_burnt_76 rfl rfl ?_
          refine gf_iald 120 dX12_burnt_77 (gt_316 hG) (gl_316 hG) hk9.1 hk9.2 (by decide) ?_
          exact gf_iretE dX12_burnt_78 rfl (((if_pos ⟨⟨zc4, pin⟩, zc29⟩).trans (if_pos zs35_0 : mbuV M k.toNatClampNeg u = _)).symm) (rfl)
        by_cases zs35_1 : u = 1
        · refine gf_tableIn 79 dX12_burnt_35 (by rw [zs35_1]; decide) (by rw [zs35_1]; decide) (by rw [zs35_1]; rfl) rfl ?_
          refine gf_aload_n 0 dX12_burnt_79 rfl rfl ?_
          refine gf_getR flX12_234 rfl dX12_burnt_80 (gt_247 hG) (gp_247_95 hG) ?_
          refine gf_iload_n 1 dX12_burnt_83 rfl rfl ?_
          refine gf_iald 120 dX12_burnt_84 (gt_317 hG) (gl_317 hG) hk9.1 hk9.2 (by decide) ?_
          exact gf_iretE dX12_burnt_85 rfl (((if_pos ⟨⟨zc4, pin⟩, zc29⟩).trans ((if_neg zs35_0).trans (if_pos zs35_1) : mbuV M k.toNatClampNeg u = _)).symm) (rfl)
        by_cases zs35_2 : u = 2
        · refine gf_tableIn 86 dX12_burnt_35 (by rw [zs35_2]; decide) (by rw [zs35_2]; decide) (by rw [zs35_2]; rfl) rfl ?_
          refine gf_aload_n 0 dX12_burnt_86 rfl rfl ?_
          refine gf_getR flX12_237 rfl dX12_burnt_87 (gt_247 hG) (gp_247_96 hG) ?_
          refine gf_iload_n 1 dX12_burnt_90 rfl rfl ?_
          refine gf_iald 120 dX12_burnt_91 (gt_318 hG) (gl_318 hG) hk9.1 hk9.2 (by decide) ?_
          exact gf_iretE dX12_burnt_92 rfl (((if_pos ⟨⟨zc4, pin⟩, zc29⟩).trans ((if_neg zs35_0).trans ((if_neg zs35_1).trans (if_pos zs35_2)) : mbuV M k.toNatClampNeg u = _)).symm) (rfl)
        by_cases zs35_3 : u = 3
        · refine gf_tableIn 93 dX12_burnt_35 (by rw [zs35_3]; decide) (by rw [zs35_3]; decide) (by rw [zs35_3]; rfl) rfl ?_
          refine gf_aload_n 0 dX12_burnt_93 rfl rfl ?_
          refine gf_getR flX12_240 rfl dX12_burnt_94 (gt_247 hG) (gp_247_97 hG) ?_
          refine gf_iload_n 1 dX12_burnt_97 rfl rfl ?_
          refine gf_iald 120 dX12_burnt_98 (gt_319 hG) (gl_319 hG) hk9.1 hk9.2 (by decide) ?_
          exact gf_iretE dX12_burnt_99 rfl (((if_pos ⟨⟨zc4, pin⟩, zc29⟩).trans ((if_neg zs35_0).trans ((if_neg zs35_1).trans ((if_neg zs35_2).trans (if_pos zs35_3))) : mbuV M k.toNatClampNeg u = _)).symm) (rfl)
        by_cases zs35_4 : u = 4
        · refine gf_tableIn 100 dX12_burnt_35 (by rw [zs35_4]; decide) (by rw [zs35_4]; decide) (by rw [zs35_4]; rfl) rfl ?_
          refine gf_aload_n 0 dX12_burnt_100 rfl rfl ?_
          refine gf_getR flX12_243 rfl dX12_burnt_101 (gt_247 hG) (gp_247_98 hG) ?_
          refine gf_iload_n 1 dX12_burnt_104 rfl rfl ?_
          refine gf_iald 120 dX12_burnt_105 (gt_320 hG) (gl_320 hG) hk9.1 hk9.2 (by decide) ?_
          exact gf_iretE dX12_burnt_106 rfl (((if_pos ⟨⟨zc4, pin⟩, zc29⟩).trans ((if_neg zs35_0).trans ((if_neg zs35_1).trans ((if_neg zs35_2).trans ((if_neg zs35_3).trans (if_pos zs35_4)))) : mbuV M k.toNatClampNeg u = _)).symm) (rfl)
        by_cases zs35_5 : u = 5
        · refine gf_tableIn 107 dX12_burnt_35 (by rw [zs35_5]; decide) (by rw [zs35_5]; decide) (by rw [zs35_5]; rfl) rfl ?_
          refine gf_aload_n 0 dX12_burnt_107 rfl rfl ?_
          refine gf_getR flX12_246 rfl dX12_burnt_108 (gt_247 hG) (gp_247_99 hG) ?_
          refine gf_iload_n 1 dX12_burnt_111 rfl rfl ?_
          refine gf_iald 120 dX12_burnt_112 (gt_321 hG) (gl_321 hG) hk9.1 hk9.2 (by decide) ?_
          exact gf_iretE dX12_burnt_113 rfl (((if_pos ⟨⟨zc4, pin⟩, zc29⟩).trans ((if_neg zs35_0).trans ((if_neg zs35_1).trans ((if_neg zs35_2).trans ((if_neg zs35_3).trans ((if_neg zs35_4).trans (if_pos zs35_5))))) : mbuV M k.toNatClampNeg u = _)).symm) (rfl)
        refine gf_tableOut 114 dX12_burnt_35 (by have y0 : ¬ (u).toInt = 0 := fun z => zs35_0 ((fa_eq _ _).mpr z); have y1 : ¬ (u).toInt = 1 := fun z => zs35_1 ((fa_eq _ _).mpr z); have y2 : ¬ (u).toInt = 2 := fun z => zs35_2 ((fa_eq _ _).mpr z); have y3 : ¬ (u).toInt = 3 := fun z => zs35_3 ((fa_eq _ _).mpr z); have y4 : ¬ (u).toInt = 4 := fun z => zs35_4 ((fa_eq _ _).mpr z); have y5 : ¬ (u).toInt = 5 := fun z => zs35_5 ((fa_eq _ _).mpr z); omega) rfl ?_
        refine gf_iconst (-1) dX12_burnt_114 rfl ?_
        exact gf_iretE dX12_burnt_115 rfl (((if_pos ⟨⟨zc4, pin⟩, zc29⟩).trans ((if_neg zs35_0).trans ((if_neg zs35_1).trans ((if_neg zs35_2).trans ((if_neg zs35_3).trans ((if_neg zs35_4).trans (if_neg zs35_5))))) : mbuV M k.toNatClampNeg u = _)).symm) (rfl)
      · refine gf_iconst (-1) dX12_burnt_32 rfl ?_
        exact gf_iretE dX12_burnt_33 rfl ((if_neg (fun q => q.2 zc29)).symm) (rfl)
