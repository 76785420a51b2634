/-! ===== the reference: settledOf ===== -/
def mseB (M : mM) (o : Int32) (f : Int32) (i : Nat) : Int32 := if ¬ M 66 (i + 1) = 0 ∧ M 48 (i + 1) = o then f + M 64 (i + 1) else f
def mseS (M : mM) (o : Int32) (n : Nat) : Int32 := itN (mseB M o) 0 n
theorem l_X12_settledOf (E : gE) {d : Nat} {n : Nat} (o : Int32) (h : hp_T) (hG : gr h) (M : mM) (N : mN) (hN : M 0 62 = nI n) (hn2 : n ≤ 200) {v : Option Value} {hz : hp_T} (K : gf E mX12_settledOf d 46 [(0, .ref (E.1 + 247)), (1, .int o), (2, .int (mseS M o (n))), (3, .int (nI (n + 1)))] [] (hm h M N) v hz) : ∀ (kz jz : Nat), jz + kz = n → gf E mX12_settledOf d 4 [(0, .ref (E.1 + 247)), (1, .int o), (2, .int (mseS M o (jz))), (3, .int (nI (jz + 1)))] [] (hm h M N) v hz := by
  intro kz
  induction kz with
  | zero =>
    intro jz hj
    have hj : n = jz := by omega
    subst hj
    refine gf_iload_n 3 dX12_settledOf_4 rfl rfl ?_
    refine gf_aload_n 0 dX12_settledOf_5 rfl rfl ?_
    refine gf_getI flX12_424 rfl dX12_settledOf_6 (gt_247 hG) ?_
    refine gf_icmp_gt 46 dX12_settledOf_9 rfl (fun _ => ?_) (fun q => absurd (by rw [show hp_i (hm h M N) 247 62 = nI n from hN]; exact nI_lt (by omega) (by omega)) q)
    exact gf_lw K ⟨rfl, rfl, rfl, rfl, trivial⟩
  | succ kz ih =>
    intro jz hj
    refine gf_iload_n 3 dX12_settledOf_4 rfl rfl ?_
    refine gf_aload_n 0 dX12_settledOf_5 rfl rfl ?_
    refine gf_getI flX12_424 rfl dX12_settledOf_6 (gt_247 hG) ?_
    refine gf_icmp_gt 46 dX12_settledOf_9 rfl (fun q => absurd q (fun q => by rw [show hp_i (hm h M N) 247 62 = nI n from hN] at q; exact nI_nlt (by omega) (by omega) q)) (fun _ => ?_)
    refine gf_aload_n 0 dX12_settledOf_12 rfl rfl ?_
    refine gf_getR flX12_222 rfl dX12_settledOf_13 (gt_247 hG) (gp_247_88 hG) ?_
    refine gf_iload_n 3 dX12_settledOf_16 rfl rfl ?_
    refine gf_zald 201 dX12_settledOf_17 (gt_313 hG) (gl_313 hG) rfl (by omega) (by decide) ?_
    refine gf_if_eq 40 dX12_settledOf_18 rfl (fun zc18 => ?_) (fun zc18 => ?_)
    · refine gf_iinc (1) dX12_settledOf_40 rfl rfl (Nat.le_of_ble_eq_true rfl) ?_
      refine gf_goto 4 dX12_settledOf_43 rfl ?_
      exact gf_lw (ih (jz + 1) (by omega)) ⟨rfl, rfl, lvE ((if_neg (fun q => q.1 zc18) : mseB M o (mseS M o (jz)) jz = _).symm), lvE (nI_1 (jz + 1)), trivial⟩
    · refine gf_aload_n 0 dX12_settledOf_21 rfl rfl ?_
      refine gf_getR flX12_164 rfl dX12_settledOf_22 (gt_247 hG) (gp_247_64 hG) ?_
      refine gf_iload_n 3 dX12_settledOf_25 rfl rfl ?_
      refine gf_iald 201 dX12_settledOf_26 (gt_295 hG) (gl_295 hG) rfl (by omega) (by decide) ?_
      refine gf_iload_n 1 dX12_settledOf_27 rfl rfl ?_
      refine gf_icmp_ne 40 dX12_settledOf_28 rfl (fun zc28 => ?_) (fun zc28 => ?_)
      · refine gf_iinc (1) dX12_settledOf_40 rfl rfl (Nat.le_of_ble_eq_true rfl) ?_
        refine gf_goto 4 dX12_settledOf_43 rfl ?_
        exact gf_lw (ih (jz + 1) (by omega)) ⟨rfl, rfl, lvE ((if_neg (fun q => zc28 q.2) : mseB M o (mseS M o (jz)) jz = _).symm), lvE (nI_1 (jz + 1)), trivial⟩
      · refine gf_iload_n 2 dX12_settledOf_31 rfl rfl ?_
        refine gf_aload_n 0 dX12_settledOf_32 rfl rfl ?_
        refine gf_getR flX12_216 rfl dX12_settledOf_33 (gt_247 hG) (gp_247_86 hG) ?_
        refine gf_iload_n 3 dX12_settledOf_36 rfl rfl ?_
        refine gf_iald 201 dX12_settledOf_37 (gt_311 hG) (gl_311 hG) rfl (by omega) (by decide) ?_
        refine gf_iadd dX12_settledOf_38 ?_
        refine gf_istore_n 2 dX12_settledOf_39 rfl (Nat.le_of_ble_eq_true rfl) ?_
        refine gf_iinc (1) dX12_settledOf_40 rfl rfl (Nat.le_of_ble_eq_true rfl) ?_
        refine gf_goto 4 dX12_settledOf_43 rfl ?_
        exact gf_lw (ih (jz + 1) (by omega)) ⟨rfl, rfl, lvE ((if_pos ⟨zc18, zc28⟩ : mseB M o (mseS M o (jz)) jz = _).symm), lvE (nI_1 (jz + 1)), trivial⟩
theorem e_X12_settledOf (E : gE) {d : Nat} (hd : 0 ≤ d) {n : Nat} (o : Int32) (h : hp_T) (hG : gr h) (M : mM) (N : mN) (hN : M 0 62 = nI n) (hn2 : n ≤ 200) : ev E mX12_settledOf d [.ref (E.1 + 247), .int o] (hm h M N) (some (.int (mseS M o (n)))) (hm h M N) := by
  refine ev_of rfl (fun q => absurd q (by decide)) (Nat.le_of_ble_eq_true rfl) ?_
  refine gf_iconst (0) dX12_settledOf_0 rfl ?_
  refine gf_istore_n 2 dX12_settledOf_1 rfl (Nat.le_of_ble_eq_true rfl) ?_
  refine gf_iconst (1) dX12_settledOf_2 rfl ?_
  refine gf_istore_n 3 dX12_settledOf_3 rfl (Nat.le_of_ble_eq_true rfl) ?_
  refine gf_lw (l_X12_settledOf E o h hG M N hN hn2 ?_ n 0 (by omega)) ⟨rfl, rfl, rfl, rfl, trivial⟩
  refine gf_iload_n 2 dX12_settledOf_46 rfl rfl ?_
  exact gf_iretE dX12_settledOf_47 rfl (rfl) (rfl)
