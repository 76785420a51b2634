/-! ===== the reference's reader: copies; terms ===== -/
theorem nI_24 (a : Nat) : (24 : Int32) * nI a = nI (24 * a) := by rw [show (24 : Int32) = nI 24 from rfl, pk_mul]
theorem nI_640 (a : Nat) : (640 : Int32) * nI a = nI (640 * a) := by rw [show (640 : Int32) = nI 640 from rfl, pk_mul]
def cp1B (a : Nat) (z : mM) (jz : Nat) : mM := (up2 (up2 (up2 z 26 (24 * a + jz) (z 26 jz)) 27 (24 * a + jz) ((up2 z 26 (24 * a + jz) (z 26 jz)) 27 jz)) 28 (24 * a + jz) ((up2 (up2 z 26 (24 * a + jz) (z 26 jz)) 27 (24 * a + jz) ((up2 z 26 (24 * a + jz) (z 26 jz)) 27 jz)) 28 jz))
theorem cp1B_row {a : Nat} (z : mM) (j : Nat) {r : Nat} (h : r < 26 ∨ 28 < r) : cp1B a z j r = z r := by
  unfold cp1B
  rw [up2_row (show r ≠ 28 by omega), up2_row (show r ≠ 27 by omega), up2_row (show r ≠ 26 by omega)]
theorem l_cp1 (E : gE) {d : Nat} {a p : Nat} (h : hp_T) (hG : gr h) (M : mM) (N : mN) (ha : a ≤ 200) (hp : M 25 0 = nI p) (hp24 : p ≤ 24) {v : Option Value} {hz : hp_T} (K : gf E mX12_copies d 87 [(0, .ref (E.1 + 247)), (1, .int (nI a))] [] (hm h (itN (cp1B a) M p) N) v hz) : ∀ (kz jz : Nat), jz + kz = p → gf E mX12_copies d 14 [(0, .ref (E.1 + 247)), (1, .int (nI a)), (2, .int (nI jz))] [] (hm h (itN (cp1B a) M jz) N) v hz := by
  intro kz
  induction kz with
  | zero =>
    intro jz hj
    have hj : p = jz := by omega
    subst hj
    have Iz : (itN (cp1B a) M p) 25 = M 25 := itN_row (fun z j => cp1B_row z j (by decide)) M p
    generalize ez : (itN (cp1B a) M p) = z at K Iz ⊢
    refine gf_iload_n 2 dX12_copies_14 rfl rfl ?_
    refine gf_aload_n 0 dX12_copies_15 rfl rfl ?_
    refine gf_getR flX12_87 rfl dX12_copies_16 (gt_247 hG) (gp_247_32 hG) ?_
    refine gf_iconst (0) dX12_copies_19 rfl ?_
    refine gf_iald 201 dX12_copies_20 (gt_272 hG) (gl_272 hG) (show (0 : Int32) = nI 0 from rfl) (by decide) (by decide) ?_
    rw [show hp_i (hm h z N) 272 0 = nI p from (congrFun Iz 0).trans hp]
    refine gf_icmp_ge 87 dX12_copies_21 rfl (fun _ => ?_) (fun q => absurd (Int32.le_refl _) q)
    exact gf_lw K ⟨rfl, rfl, trivial⟩
  | succ kz ih =>
    intro jz hj
    have ih1 := ih (jz + 1) (by omega)
    have Iz : (itN (cp1B a) M jz) 25 = M 25 := itN_row (fun z j => cp1B_row z j (by decide)) M jz
    rw [show (itN (cp1B a) M (jz + 1)) = cp1B a (itN (cp1B a) M jz) jz from itN_s _ _ _] at ih1
    generalize (itN (cp1B a) M jz) = z at ih1 Iz ⊢
    refine gf_iload_n 2 dX12_copies_14 rfl rfl ?_
    refine gf_aload_n 0 dX12_copies_15 rfl rfl ?_
    refine gf_getR flX12_87 rfl dX12_copies_16 (gt_247 hG) (gp_247_32 hG) ?_
    refine gf_iconst (0) dX12_copies_19 rfl ?_
    refine gf_iald 201 dX12_copies_20 (gt_272 hG) (gl_272 hG) (show (0 : Int32) = nI 0 from rfl) (by decide) (by decide) ?_
    rw [show hp_i (hm h z N) 272 0 = nI p from (congrFun Iz 0).trans hp]
    refine gf_icmp_ge 87 dX12_copies_21 rfl (fun q => absurd q (nI_ge (by omega) (by omega))) (fun _ => ?_)
    refine gf_aload_n 0 dX12_copies_24 rfl rfl ?_
    refine gf_getR flX12_90 rfl dX12_copies_25 (gt_247 hG) (gp_247_33 hG) ?_
    refine gf_bipush (24) dX12_copies_28 rfl ?_
    refine gf_iload_n 1 dX12_copies_30 rfl rfl ?_
    refine gf_imul dX12_copies_31 ?_
    rw [nI_24]
    refine gf_iload_n 2 dX12_copies_32 rfl rfl ?_
    refine gf_iadd dX12_copies_33 ?_
    rw [nI_add]
    refine gf_aload_n 0 dX12_copies_34 rfl rfl ?_
    refine gf_getR flX12_90 rfl dX12_copies_35 (gt_247 hG) (gp_247_33 hG) ?_
    refine gf_iconst (0) dX12_copies_38 rfl ?_
    refine gf_iload_n 2 dX12_copies_39 rfl rfl ?_
    refine gf_iadd dX12_copies_40 ?_
    rw [Int32.zero_add]
    refine gf_iald 4824 dX12_copies_41 (gt_273 hG) (gl_273 hG) rfl (by omega) (by decide) ?_
    refine gf_iast 4824 dX12_copies_42 (gt_273 hG) (gl_273 hG) rfl (by omega) (by decide) ?_
    rw [mI_26]
    refine gf_aload_n 0 dX12_copies_43 rfl rfl ?_
    refine gf_getR flX12_93 rfl dX12_copies_44 (gt_247 hG) (gp_247_34 hG) ?_
    refine gf_bipush (24) dX12_copies_47 rfl ?_
    refine gf_iload_n 1 dX12_copies_49 rfl rfl ?_
    refine gf_imul dX12_copies_50 ?_
    rw [nI_24]
    refine gf_iload_n 2 dX12_copies_51 rfl rfl ?_
    refine gf_iadd dX12_copies_52 ?_
    rw [nI_add]
    refine gf_aload_n 0 dX12_copies_53 rfl rfl ?_
    refine gf_getR flX12_93 rfl dX12_copies_54 (gt_247 hG) (gp_247_34 hG) ?_
    refine gf_iconst (0) dX12_copies_57 rfl ?_
    refine gf_iload_n 2 dX12_copies_58 rfl rfl ?_
    refine gf_iadd dX12_copies_59 ?_
    rw [Int32.zero_add]
    refine gf_iald 4824 dX12_copies_60 (gt_274 hG) (gl_274 hG) rfl (by omega) (by decide) ?_
    refine gf_iast 4824 dX12_copies_61 (gt_274 hG) (gl_274 hG) rfl (by omega) (by decide) ?_
    rw [mI_27]
    refine gf_aload_n 0 dX12_copies_62 rfl rfl ?_
    refine gf_getR flX12_96 rfl dX12_copies_63 (gt_247 hG) (gp_247_35 hG) ?_
    refine gf_bipush (24) dX12_copies_66 rfl ?_
    refine gf_iload_n 1 dX12_copies_68 rfl rfl ?_
    refine gf_imul dX12_copies_69 ?_
    rw [nI_24]
    refine gf_iload_n 2 dX12_copies_70 rfl rfl ?_
    refine gf_iadd dX12_copies_71 ?_
    rw [nI_add]
    refine gf_aload_n 0 dX12_copies_72 rfl rfl ?_
    refine gf_getR flX12_96 rfl dX12_copies_73 (gt_247 hG) (gp_247_35 hG) ?_
    refine gf_iconst (0) dX12_copies_76 rfl ?_
    refine gf_iload_n 2 dX12_copies_77 rfl rfl ?_
    refine gf_iadd dX12_copies_78 ?_
    rw [Int32.zero_add]
    refine gf_iald 4824 dX12_copies_79 (gt_275 hG) (gl_275 hG) rfl (by omega) (by decide) ?_
    refine gf_iast 4824 dX12_copies_80 (gt_275 hG) (gl_275 hG) rfl (by omega) (by decide) ?_
    rw [mI_28]
    refine gf_iinc (1) dX12_copies_81 rfl rfl (Nat.le_of_ble_eq_true rfl) ?_
    refine gf_goto 14 dX12_copies_84 rfl ?_
    rw [show cp1B a z jz = (up2 (up2 (up2 z 26 (24 * a + jz) (z 26 jz)) 27 (24 * a + jz) ((up2 z 26 (24 * a + jz) (z 26 jz)) 27 jz)) 28 (24 * a + jz) ((up2 (up2 z 26 (24 * a + jz) (z 26 jz)) 27 (24 * a + jz) ((up2 z 26 (24 * a + jz) (z 26 jz)) 27 jz)) 28 jz)) from rfl] at ih1
    exact gf_lw ih1 ⟨rfl, rfl, lvE (nI_1 jz), trivial⟩
def cp2B (a : Nat) (z : mM) (jz : Nat) : mM := (up2 z 29 (640 * a + jz) (z 29 jz))
theorem cp2B_row {a : Nat} (z : mM) (j : Nat) {r : Nat} (h : r ≠ 29) : cp2B a z j r = z r := by
  unfold cp2B
  rw [up2_row h]
theorem l_cp2 (E : gE) {d : Nat} {a c : Nat} (h : hp_T) (hG : gr h) (M : mM) (N : mN) (ha : a ≤ 200) (hc : M 0 37 = nI c) (hc640 : c ≤ 640) {v : Option Value} {hz : hp_T} (K : gf E mX12_copies d 123 [(0, .ref (E.1 + 247)), (1, .int (nI a))] [] (hm h (itN (cp2B a) M c) N) v hz) : ∀ (kz jz : Nat), jz + kz = c → gf E mX12_copies d 89 [(0, .ref (E.1 + 247)), (1, .int (nI a)), (2, .int (nI jz))] [] (hm h (itN (cp2B a) M jz) N) v hz := by
  intro kz
  induction kz with
  | zero =>
    intro jz hj
    have hj : c = jz := by omega
    subst hj
    have Iz : (itN (cp2B a) M c) 0 = M 0 := itN_row (fun z j => cp2B_row z j (by decide)) M c
    generalize ez : (itN (cp2B a) M c) = z at K Iz ⊢
    refine gf_iload_n 2 dX12_copies_89 rfl rfl ?_
    refine gf_aload_n 0 dX12_copies_90 rfl rfl ?_
    refine gf_getI flX12_329 rfl dX12_copies_91 (gt_247 hG) ?_
    rw [show hp_i (hm h z N) 247 37 = nI c from (congrFun Iz 37).trans hc]
    refine gf_icmp_ge 123 dX12_copies_94 rfl (fun _ => ?_) (fun q => absurd (Int32.le_refl _) q)
    exact gf_lw K ⟨rfl, rfl, trivial⟩
  | succ kz ih =>
    intro jz hj
    have ih1 := ih (jz + 1) (by omega)
    have Iz : (itN (cp2B a) M jz) 0 = M 0 := itN_row (fun z j => cp2B_row z j (by decide)) M jz
    rw [show (itN (cp2B a) M (jz + 1)) = cp2B a (itN (cp2B a) M jz) jz from itN_s _ _ _] at ih1
    generalize (itN (cp2B a) M jz) = z at ih1 Iz ⊢
    refine gf_iload_n 2 dX12_copies_89 rfl rfl ?_
    refine gf_aload_n 0 dX12_copies_90 rfl rfl ?_
    refine gf_getI flX12_329 rfl dX12_copies_91 (gt_247 hG) ?_
    rw [show hp_i (hm h z N) 247 37 = nI c from (congrFun Iz 37).trans hc]
    refine gf_icmp_ge 123 dX12_copies_94 rfl (fun q => absurd q (nI_ge (by omega) (by omega))) (fun _ => ?_)
    refine gf_aload_n 0 dX12_copies_97 rfl rfl ?_
    refine gf_getR flX12_100 rfl dX12_copies_98 (gt_247 hG) (gp_247_36 hG) ?_
    refine gf_sipush (640) dX12_copies_101 rfl ?_
    refine gf_iload_n 1 dX12_copies_104 rfl rfl ?_
    refine gf_imul dX12_copies_105 ?_
    rw [nI_640]
    refine gf_iload_n 2 dX12_copies_106 rfl rfl ?_
    refine gf_iadd dX12_copies_107 ?_
    rw [nI_add]
    refine gf_aload_n 0 dX12_copies_108 rfl rfl ?_
    refine gf_getR flX12_100 rfl dX12_copies_109 (gt_247 hG) (gp_247_36 hG) ?_
    refine gf_iconst (0) dX12_copies_112 rfl ?_
    refine gf_iload_n 2 dX12_copies_113 rfl rfl ?_
    refine gf_iadd dX12_copies_114 ?_
    rw [Int32.zero_add]
    refine gf_iald 128640 dX12_copies_115 (gt_276 hG) (gl_276 hG) rfl (by omega) (by decide) ?_
    refine gf_iast 128640 dX12_copies_116 (gt_276 hG) (gl_276 hG) rfl (by omega) (by decide) ?_
    rw [mI_29]
    refine gf_iinc (1) dX12_copies_117 rfl rfl (Nat.le_of_ble_eq_true rfl) ?_
    refine gf_goto 89 dX12_copies_120 rfl ?_
    rw [show cp2B a z jz = (up2 z 29 (640 * a + jz) (z 29 jz)) from rfl] at ih1
    exact gf_lw ih1 ⟨rfl, rfl, lvE (nI_1 jz), trivial⟩
def mcpS (a p c : Nat) (M : mM) : mM := itN (cp2B a) (itN (cp1B a) (up2 M 25 a (M 25 0)) p) c
theorem e_X12_copies (E : gE) {d : Nat} {a p c : Nat} (h : hp_T) (hG : gr h) (M : mM) (N : mN) (ha1 : 1 ≤ a) (ha : a ≤ 200) (hp : M 25 0 = nI p) (hp24 : p ≤ 24) (hc : M 0 37 = nI c) (hc640 : c ≤ 640) : ev E mX12_copies d [.ref (E.1 + 247), .int (nI a)] (hm h M N) none (hm h (mcpS a p c M) N) := by
  refine ev_of rfl (fun q => absurd q (by decide)) (Nat.le_of_ble_eq_true rfl) ?_
  have hc9 : (itN (cp1B a) (up2 M 25 a (M 25 0)) p) 0 37 = M 0 37 := (congrFun (itN_row (r := 0) (fun z j => cp1B_row z j (by decide)) (up2 M 25 a (M 25 0)) p) 37).trans (congrFun (up2_row (by decide)) 37)
  refine gf_aload_n 0 dX12_copies_0 rfl rfl ?_
  refine gf_getR flX12_87 rfl dX12_copies_1 (gt_247 hG) (gp_247_32 hG) ?_
  refine gf_iload_n 1 dX12_copies_4 rfl rfl ?_
  refine gf_aload_n 0 dX12_copies_5 rfl rfl ?_
  refine gf_getR flX12_87 rfl dX12_copies_6 (gt_247 hG) (gp_247_32 hG) ?_
  refine gf_iconst (0) dX12_copies_9 rfl ?_
  refine gf_iald 201 dX12_copies_10 (gt_272 hG) (gl_272 hG) (show (0 : Int32) = nI 0 from rfl) (by decide) (by decide) ?_
  refine gf_iast 201 dX12_copies_11 (gt_272 hG) (gl_272 hG) rfl (by omega) (by decide) ?_
  rw [mI_25]
  refine gf_iconst (0) dX12_copies_12 rfl ?_
  refine gf_istore_n 2 dX12_copies_13 rfl (Nat.le_of_ble_eq_true rfl) ?_
  refine gf_lw (l_cp1 E h hG (up2 M 25 a (M 25 0)) N ha (show (up2 M 25 a (M 25 0)) 25 0 = nI p from (up2_k M _ (show 0 ≠ a by omega)).trans hp) hp24 ?_ p 0 (by omega)) ⟨rfl, rfl, rfl, trivial⟩
  refine gf_iconst (0) dX12_copies_87 rfl ?_
  refine gf_istore_n 2 dX12_copies_88 rfl (Nat.le_of_ble_eq_true rfl) ?_
  refine gf_lw (l_cp2 E h hG (itN (cp1B a) (up2 M 25 a (M 25 0)) p) N ha (show (itN (cp1B a) (up2 M 25 a (M 25 0)) p) 0 37 = nI c from hc9.trans hc) hc640 ?_ c 0 (by omega)) ⟨rfl, rfl, rfl, trivial⟩
  exact gf_vretE dX12_copies_123 rfl (rfl)
