/-! ===== the reference: falling ===== -/
def rohB (N : mN) (o : Nat) (z : Int64) (jz : Nat) : Int64 := (z + (N 83 (10 * jz + o)))
theorem l_roh (E : gE) {d : Nat} {o : Nat} (ho : o < 9) (b0 : Int64) (h : hp_T) (hG : gr h) (M : mM) (N : mN) {v : Option Value} {hz : hp_T} (K : gf E mX12_round d 47 [(0, .ref (E.1 + 247)), (1, .int (nI o)), (2, .long (itN (rohB N o) b0 (9 : Nat)))] [] (hm h M N) v hz) : ∀ (kz jz : Nat), jz + kz = (9 : Nat) → gf E mX12_round d 19 [(0, .ref (E.1 + 247)), (1, .int (nI o)), (2, .long (itN (rohB N o) b0 jz)), (4, .int (nI jz))] [] (hm h M N) v hz := by
  intro kz
  induction kz with
  | zero =>
    intro jz hj
    have hj : (9 : Nat) = jz := by omega
    subst hj
    generalize ez : (itN (rohB N o) b0 (9 : Nat)) = z at K ⊢
    refine gf_iload dX12_round_19 rfl ?_
    refine gf_bipush (9) dX12_round_21 rfl ?_
    refine gf_icmp_ge 47 dX12_round_23 rfl (fun _ => ?_) (fun q => absurd (Int32.le_refl _) q)
    exact gf_lw K ⟨rfl, rfl, rfl, trivial⟩
  | succ kz ih =>
    intro jz hj
    have ih1 := ih (jz + 1) (by omega)
    rw [show (itN (rohB N o) b0 (jz + 1)) = rohB N o (itN (rohB N o) b0 jz) jz from itN_s _ _ _] at ih1
    generalize (itN (rohB N o) b0 jz) = z at ih1 ⊢
    refine gf_iload dX12_round_19 rfl ?_
    refine gf_bipush (9) dX12_round_21 rfl ?_
    refine gf_icmp_ge 47 dX12_round_23 rfl (fun q => absurd q (nI_ge (b := 9) (by omega) (by omega))) (fun _ => ?_)
    refine gf_lload_n 2 dX12_round_26 rfl rfl ?_
    refine gf_aload_n 0 dX12_round_27 rfl rfl ?_
    refine gf_getR flX12_273 rfl dX12_round_28 (gt_247 hG) (gp_247_109 hG) ?_
    refine gf_bipush (10) dX12_round_31 rfl ?_
    refine gf_iload dX12_round_33 rfl ?_
    refine gf_imul dX12_round_35 ?_
    refine gf_iload_n 1 dX12_round_36 rfl rfl ?_
    refine gf_iadd dX12_round_37 ?_
    refine gf_lald 90 dX12_round_38 (gt_330 hG) (gl_330 hG) (show (10 : Int32) * nI jz + nI o = nI (10 * jz + o) from by rw [show (10 : Int32) * nI jz = nI (10 * jz) from pk_mul 10 jz, nI_add]) (by omega) (by decide) ?_
    refine gf_ladd dX12_round_39 ?_
    refine gf_lstore_n 2 dX12_round_40 rfl (Nat.le_of_ble_eq_true rfl) ?_
    refine gf_iinc (1) dX12_round_41 rfl rfl (Nat.le_of_ble_eq_true rfl) ?_
    refine gf_goto 19 dX12_round_44 rfl ?_
    rw [show rohB N o z jz = (z + (N 83 (10 * jz + o))) from rfl] at ih1
    exact gf_lw ih1 ⟨rfl, rfl, rfl, lvE (nI_1 jz), trivial⟩
def roH (M : mM) (N : mN) (o : Nat) : Int64 := itN (rohB N o) (Int32.toInt64 (M 40 o)) 9
def ronB (o : Nat) (has al : Int64) (z : mN) (jz : Nat) : mN := (if 0 ≤ (lg_cmp has al) then (up2 z 84 (10 * o + jz) (z 82 (10 * o + jz))) else (up2 z 84 (10 * o + jz) (((z 82 (10 * o + jz)) * has) / al)))
theorem ronB_row {o : Nat} {has al : Int64} (z : mN) (j : Nat) {r : Nat} (h : r ≠ 84) : ronB o has al z j r = z r := by
  unfold ronB
  split
  all_goals exact hp_upne h
theorem itN_rowL {f : mN → Nat → mN} {r : Nat} (hf : ∀ z j, f z j r = z r) (z : mN) : ∀ n, itN f z n r = z r
  | 0 => rfl
  | n + 1 => (hf _ n).trans (itN_rowL hf z n)
theorem l_ron (E : gE) {d : Nat} {o : Nat} (ho : o < 9) (has al : Int64) (hz9 : ¬ 0 ≤ lg_cmp has al → ¬ al = 0) (h : hp_T) (hG : gr h) (M : mM) (N : mN) {v : Option Value} {hz : hp_T} (K : gf E mX12_round d 122 [(0, .ref (E.1 + 247)), (1, .int (nI o)), (2, .long has), (4, .long al)] [] (hm h M (itN (ronB o has al) N (10 : Nat))) v hz) : ∀ (kz jz : Nat), jz + kz = (10 : Nat) → gf E mX12_round d 58 [(0, .ref (E.1 + 247)), (1, .int (nI o)), (2, .long has), (4, .long al), (6, .int (nI jz))] [] (hm h M (itN (ronB o has al) N jz)) v hz := by
  intro kz
  induction kz with
  | zero =>
    intro jz hj
    have hj : (10 : Nat) = jz := by omega
    subst hj
    generalize ez : (itN (ronB o has al) N (10 : Nat)) = z at K ⊢
    refine gf_iload dX12_round_58 rfl ?_
    refine gf_bipush (10) dX12_round_60 rfl ?_
    refine gf_icmp_ge 122 dX12_round_62 rfl (fun _ => ?_) (fun q => absurd (Int32.le_refl _) q)
    exact gf_lw K ⟨rfl, rfl, rfl, rfl, trivial⟩
  | succ kz ih =>
    intro jz hj
    have ih1 := ih (jz + 1) (by omega)
    rw [show (itN (ronB o has al) N (jz + 1)) = ronB o has al (itN (ronB o has al) N jz) jz from itN_s _ _ _] at ih1
    generalize (itN (ronB o has al) N jz) = z at ih1 ⊢
    refine gf_iload dX12_round_58 rfl ?_
    refine gf_bipush (10) dX12_round_60 rfl ?_
    refine gf_icmp_ge 122 dX12_round_62 rfl (fun q => absurd q (nI_ge (b := 10) (by omega) (by omega))) (fun _ => ?_)
    refine gf_lw (lv' := [(0, .ref (E.1 + 247)), (1, .int (nI o)), (2, .long has), (4, .long al), (6, .int (nI jz))]) ?_ ⟨rfl, rfl, rfl, rfl, rfl, trivial⟩
    refine gf_aload_n 0 dX12_round_65 rfl rfl ?_
    refine gf_getR flX12_276 rfl dX12_round_66 (gt_247 hG) (gp_247_110 hG) ?_
    refine gf_bipush (10) dX12_round_69 rfl ?_
    refine gf_iload_n 1 dX12_round_71 rfl rfl ?_
    refine gf_imul dX12_round_72 ?_
    refine gf_iload dX12_round_73 rfl ?_
    refine gf_iadd dX12_round_75 ?_
    refine gf_lload_n 2 dX12_round_76 rfl rfl ?_
    refine gf_lload dX12_round_77 rfl ?_
    refine gf_lcmp dX12_round_79 ?_
    refine gf_if_ge 103 dX12_round_80 rfl (fun zc80 => ?_) (fun zc80 => ?_)
    · refine gf_aload_n 0 dX12_round_103 rfl rfl ?_
      refine gf_getR flX12_270 rfl dX12_round_104 (gt_247 hG) (gp_247_108 hG) ?_
      refine gf_bipush (10) dX12_round_107 rfl ?_
      refine gf_iload_n 1 dX12_round_109 rfl rfl ?_
      refine gf_imul dX12_round_110 ?_
      refine gf_iload dX12_round_111 rfl ?_
      refine gf_iadd dX12_round_113 ?_
      refine gf_lald 90 dX12_round_114 (gt_329 hG) (gl_329 hG) (show (10 : Int32) * nI o + nI jz = nI (10 * o + jz) from by rw [show (10 : Int32) * nI o = nI (10 * o) from pk_mul 10 o, nI_add]) (by omega) (by decide) ?_
      refine gf_last 90 dX12_round_115 (gt_331 hG) (gl_331 hG) (show (10 : Int32) * nI o + nI jz = nI (10 * o + jz) from by rw [show (10 : Int32) * nI o = nI (10 * o) from pk_mul 10 o, nI_add]) (by omega) (by decide) ?_
      rw [mL_84]
      refine gf_iinc (1) dX12_round_116 rfl rfl (Nat.le_of_ble_eq_true rfl) ?_
      refine gf_goto 58 dX12_round_119 rfl ?_
      rw [show ronB o has al z jz = (up2 z 84 (10 * o + jz) (z 82 (10 * o + jz))) from if_pos zc80] at ih1
      exact gf_lw ih1 ⟨rfl, rfl, rfl, rfl, lvE (nI_1 jz), trivial⟩
    · refine gf_aload_n 0 dX12_round_83 rfl rfl ?_
      refine gf_getR flX12_270 rfl dX12_round_84 (gt_247 hG) (gp_247_108 hG) ?_
      refine gf_bipush (10) dX12_round_87 rfl ?_
      refine gf_iload_n 1 dX12_round_89 rfl rfl ?_
      refine gf_imul dX12_round_90 ?_
      refine gf_iload dX12_round_91 rfl ?_
      refine gf_iadd dX12_round_93 ?_
      refine gf_lald 90 dX12_round_94 (gt_329 hG) (gl_329 hG) (show (10 : Int32) * nI o + nI jz = nI (10 * o + jz) from by rw [show (10 : Int32) * nI o = nI (10 * o) from pk_mul 10 o, nI_add]) (by omega) (by decide) ?_
      refine gf_lload_n 2 dX12_round_95 rfl rfl ?_
      refine gf_lmul dX12_round_96 ?_
      refine gf_lload dX12_round_97 rfl ?_
      refine gf_ldiv dX12_round_99 (hz9 zc80) ?_
      refine gf_goto 115 dX12_round_100 rfl ?_
      refine gf_last 90 dX12_round_115 (gt_331 hG) (gl_331 hG) (show (10 : Int32) * nI o + nI jz = nI (10 * o + jz) from by rw [show (10 : Int32) * nI o = nI (10 * o) from pk_mul 10 o, nI_add]) (by omega) (by decide) ?_
      rw [mL_84]
      refine gf_iinc (1) dX12_round_116 rfl rfl (Nat.le_of_ble_eq_true rfl) ?_
      refine gf_goto 58 dX12_round_119 rfl ?_
      rw [show ronB o has al z jz = (up2 z 84 (10 * o + jz) (((z 82 (10 * o + jz)) * has) / al)) from if_neg zc80] at ih1
      exact gf_lw ih1 ⟨rfl, rfl, rfl, rfl, lvE (nI_1 jz), trivial⟩
def rooB (M : mM) (z : mN) (jz : Nat) : mN := (itN (ronB jz (roH M z jz) (msuS z 1 jz 10)) z 10)
theorem rooB_row {M : mM} (z : mN) (j : Nat) {r : Nat} (h : r ≠ 84) : rooB M z j r = z r := itN_rowL (fun z j => ronB_row z j h) z 10
theorem l_roo (E : gE) {d : Nat} (hd : 1 ≤ d) (h : hp_T) (hG : gr h) (M : mM) (N : mN) (hH : ∀ o, o < 9 → ¬ roH M N o < 0) {v : Option Value} {hz : hp_T} (K : gf E mX12_round d 128 [(0, .ref (E.1 + 247))] [] (hm h M (itN (rooB M) N (9 : Nat))) v hz) : ∀ (kz jz : Nat), jz + kz = (9 : Nat) → gf E mX12_round d 2 [(0, .ref (E.1 + 247)), (1, .int (nI jz))] [] (hm h M (itN (rooB M) N jz)) v hz := by
  intro kz
  induction kz with
  | zero =>
    intro jz hj
    have hj : (9 : Nat) = jz := by omega
    subst hj
    have Iz : ∀ r : Nat, r ≠ 84 → (itN (rooB M) N (9 : Nat)) r = N r := (fun (r : Nat) (hr : r ≠ 84) => itN_rowL (fun z j => rooB_row z j hr) N (9 : Nat))
    generalize ez : (itN (rooB M) N (9 : Nat)) = z at K Iz ⊢
    refine gf_iload_n 1 dX12_round_2 rfl rfl ?_
    refine gf_bipush (9) dX12_round_3 rfl ?_
    refine gf_icmp_ge 128 dX12_round_5 rfl (fun _ => ?_) (fun q => absurd (Int32.le_refl _) q)
    exact gf_lw K ⟨rfl, trivial⟩
  | succ kz ih =>
    intro jz hj
    have ih1 := ih (jz + 1) (by omega)
    have Iz : ∀ r : Nat, r ≠ 84 → (itN (rooB M) N jz) r = N r := (fun (r : Nat) (hr : r ≠ 84) => itN_rowL (fun z j => rooB_row z j hr) N jz)
    rw [show (itN (rooB M) N (jz + 1)) = rooB M (itN (rooB M) N jz) jz from itN_s _ _ _] at ih1
    generalize (itN (rooB M) N jz) = z at ih1 Iz ⊢
    have hz9 : ¬ 0 ≤ lg_cmp (roH M z jz) (msuS z 1 jz 10) → ¬ (msuS z 1 jz 10) = 0 := fun q e => by
      have e9 : (roH M z jz) = roH M N jz := by unfold roH rohB; rw [Iz 83 (by decide)]
      rw [e] at q
      rw [e9] at q
      exact hH jz (by omega) (lt_of_lgg q)
    refine gf_iload_n 1 dX12_round_2 rfl rfl ?_
    refine gf_bipush (9) dX12_round_3 rfl ?_
    refine gf_icmp_ge 128 dX12_round_5 rfl (fun q => absurd q (nI_ge (b := 9) (by omega) (by omega))) (fun _ => ?_)
    refine gf_aload_n 0 dX12_round_8 rfl rfl ?_
    refine gf_getR flX12_140 rfl dX12_round_9 (gt_247 hG) (gp_247_53 hG) ?_
    refine gf_iload_n 1 dX12_round_12 rfl rfl ?_
    refine gf_iald 9 dX12_round_13 (gt_287 hG) (gl_287 hG) rfl (by omega) (by decide) ?_
    refine gf_i2l dX12_round_14 ?_
    refine gf_lstore_n 2 dX12_round_15 rfl (Nat.le_of_ble_eq_true rfl) ?_
    refine gf_iconst (0) dX12_round_16 rfl ?_
    refine gf_istore dX12_round_17 (Nat.le_of_ble_eq_true rfl) ?_
    refine gf_lw (l_roh E (o := jz) (by omega) (Int32.toInt64 (M 40 jz)) h hG M z ?_ 9 0 (by omega)) ⟨rfl, rfl, rfl, rfl, trivial⟩
    refine gf_aload_n 0 dX12_round_47 rfl rfl ?_
    refine gf_iload_n 1 dX12_round_48 rfl rfl ?_
    refine gf_iconst (1) dX12_round_49 rfl ?_
    refine gf_callV cmX12_sumOf lkX12_640 imX12_sumOf seX12_sumOf ⟨rfl, by decide⟩ dX12_round_50 (d1 := d - 1) (by omega) (gt_247 hG) (e_X12_sumOf E (Nat.zero_le _) (o := jz) 1 h hG M z (by omega)) rfl rfl (Nat.le_of_ble_eq_true rfl) ?_
    refine gf_lstore dX12_round_53 (Nat.le_of_ble_eq_true rfl) ?_
    refine gf_iconst (0) dX12_round_55 rfl ?_
    refine gf_istore dX12_round_56 (Nat.le_of_ble_eq_true rfl) ?_
    refine gf_lw (l_ron E (o := jz) (by omega) (roH M z jz) (msuS z 1 jz 10) hz9 h hG M z ?_ 10 0 (by omega)) ⟨rfl, rfl, rfl, rfl, rfl, trivial⟩
    refine gf_iinc (1) dX12_round_122 rfl rfl (Nat.le_of_ble_eq_true rfl) ?_
    refine gf_goto 2 dX12_round_125 rfl ?_
    rw [show rooB M z jz = (itN (ronB jz (roH M z jz) (msuS z 1 jz 10)) z 10) from rfl] at ih1
    exact gf_lw ih1 ⟨rfl, lvE (nI_1 jz), trivial⟩
def rocB (z : Int32 × mN) (jz : Nat) : Int32 × mN := (if z.1 = 0 then (if (lg_cmp (z.2 83 jz) (z.2 84 jz)) = 0 then ((0 : Int32), (up2 z.2 83 jz (z.2 84 jz))) else ((1 : Int32), (up2 z.2 83 jz (z.2 84 jz)))) else ((1 : Int32), (up2 z.2 83 jz (z.2 84 jz))))
theorem l_roc (E : gE) {d : Nat} (h : hp_T) (hG : gr h) (M : mM) (N : mN) {v : Option Value} {hz : hp_T} (K : gf E mX12_round d 182 [(0, .ref (E.1 + 247)), (1, .int ((itN (rocB) ((0 : Int32), N) (90 : Nat)).1))] [] (hm h M ((itN (rocB) ((0 : Int32), N) (90 : Nat)).2)) v hz) : ∀ (kz jz : Nat), jz + kz = (90 : Nat) → gf E mX12_round d 132 [(0, .ref (E.1 + 247)), (1, .int ((itN (rocB) ((0 : Int32), N) jz).1)), (2, .int (nI jz))] [] (hm h M ((itN (rocB) ((0 : Int32), N) jz).2)) v hz := by
  intro kz
  induction kz with
  | zero =>
    intro jz hj
    have hj : (90 : Nat) = jz := by omega
    subst hj
    generalize ez : (itN (rocB) ((0 : Int32), N) (90 : Nat)) = z at K ⊢
    refine gf_iload_n 2 dX12_round_132 rfl rfl ?_
    refine gf_bipush (90) dX12_round_133 rfl ?_
    refine gf_icmp_ge 182 dX12_round_135 rfl (fun _ => ?_) (fun q => absurd (Int32.le_refl _) q)
    exact gf_lw K ⟨rfl, rfl, trivial⟩
  | succ kz ih =>
    intro jz hj
    have ih1 := ih (jz + 1) (by omega)
    rw [show (itN (rocB) ((0 : Int32), N) (jz + 1)) = rocB (itN (rocB) ((0 : Int32), N) jz) jz from itN_s _ _ _] at ih1
    generalize (itN (rocB) ((0 : Int32), N) jz) = z at ih1 ⊢
    refine gf_iload_n 2 dX12_round_132 rfl rfl ?_
    refine gf_bipush (90) dX12_round_133 rfl ?_
    refine gf_icmp_ge 182 dX12_round_135 rfl (fun q => absurd q (nI_ge (b := 90) (by omega) (by omega))) (fun _ => ?_)
    refine gf_iload_n 1 dX12_round_138 rfl rfl ?_
    refine gf_if_ne 158 dX12_round_139 rfl (fun zc139 => ?_) (fun zc139 => ?_)
    · refine gf_iconst (1) dX12_round_158 rfl ?_
      refine gf_goto 163 dX12_round_159 rfl ?_
      refine gf_istore_n 1 dX12_round_163 rfl (Nat.le_of_ble_eq_true rfl) ?_
      refine gf_lw (lv' := [(0, .ref (E.1 + 247)), (1, .int 1), (2, .int (nI jz))]) ?_ ⟨rfl, rfl, rfl, trivial⟩
      refine gf_aload_n 0 dX12_round_164 rfl rfl ?_
      refine gf_getR flX12_273 rfl dX12_round_165 (gt_247 hG) (gp_247_109 hG) ?_
      refine gf_iload_n 2 dX12_round_168 rfl rfl ?_
      refine gf_aload_n 0 dX12_round_169 rfl rfl ?_
      refine gf_getR flX12_276 rfl dX12_round_170 (gt_247 hG) (gp_247_110 hG) ?_
      refine gf_iload_n 2 dX12_round_173 rfl rfl ?_
      refine gf_lald 90 dX12_round_174 (gt_331 hG) (gl_331 hG) rfl (by omega) (by decide) ?_
      refine gf_last 90 dX12_round_175 (gt_330 hG) (gl_330 hG) rfl (by omega) (by decide) ?_
      rw [mL_83]
      refine gf_iinc (1) dX12_round_176 rfl rfl (Nat.le_of_ble_eq_true rfl) ?_
      refine gf_goto 132 dX12_round_179 rfl ?_
      rw [show rocB z jz = ((1 : Int32), (up2 z.2 83 jz (z.2 84 jz))) from if_neg zc139] at ih1
      exact gf_lw ih1 ⟨rfl, rfl, lvE (nI_1 jz), trivial⟩
    · refine gf_aload_n 0 dX12_round_142 rfl rfl ?_
      refine gf_getR flX12_273 rfl dX12_round_143 (gt_247 hG) (gp_247_109 hG) ?_
      refine gf_iload_n 2 dX12_round_146 rfl rfl ?_
      refine gf_lald 90 dX12_round_147 (gt_330 hG) (gl_330 hG) rfl (by omega) (by decide) ?_
      refine gf_aload_n 0 dX12_round_148 rfl rfl ?_
      refine gf_getR flX12_276 rfl dX12_round_149 (gt_247 hG) (gp_247_110 hG) ?_
      refine gf_iload_n 2 dX12_round_152 rfl rfl ?_
      refine gf_lald 90 dX12_round_153 (gt_331 hG) (gl_331 hG) rfl (by omega) (by decide) ?_
      refine gf_lcmp dX12_round_154 ?_
      refine gf_if_eq 162 dX12_round_155 rfl (fun zc155 => ?_) (fun zc155 => ?_)
      · refine gf_iconst (0) dX12_round_162 rfl ?_
        refine gf_istore_n 1 dX12_round_163 rfl (Nat.le_of_ble_eq_true rfl) ?_
        refine gf_lw (lv' := [(0, .ref (E.1 + 247)), (1, .int 0), (2, .int (nI jz))]) ?_ ⟨rfl, rfl, rfl, trivial⟩
        refine gf_aload_n 0 dX12_round_164 rfl rfl ?_
        refine gf_getR flX12_273 rfl dX12_round_165 (gt_247 hG) (gp_247_109 hG) ?_
        refine gf_iload_n 2 dX12_round_168 rfl rfl ?_
        refine gf_aload_n 0 dX12_round_169 rfl rfl ?_
        refine gf_getR flX12_276 rfl dX12_round_170 (gt_247 hG) (gp_247_110 hG) ?_
        refine gf_iload_n 2 dX12_round_173 rfl rfl ?_
        refine gf_lald 90 dX12_round_174 (gt_331 hG) (gl_331 hG) rfl (by omega) (by decide) ?_
        refine gf_last 90 dX12_round_175 (gt_330 hG) (gl_330 hG) rfl (by omega) (by decide) ?_
        rw [mL_83]
        refine gf_iinc (1) dX12_round_176 rfl rfl (Nat.le_of_ble_eq_true rfl) ?_
        refine gf_goto 132 dX12_round_179 rfl ?_
        rw [show rocB z jz = ((0 : Int32), (up2 z.2 83 jz (z.2 84 jz))) from (if_pos zc139).trans (if_pos zc155)] at ih1
        exact gf_lw ih1 ⟨rfl, rfl, lvE (nI_1 jz), trivial⟩
      · refine gf_iconst (1) dX12_round_158 rfl ?_
        refine gf_goto 163 dX12_round_159 rfl ?_
        refine gf_istore_n 1 dX12_round_163 rfl (Nat.le_of_ble_eq_true rfl) ?_
        refine gf_lw (lv' := [(0, .ref (E.1 + 247)), (1, .int 1), (2, .int (nI jz))]) ?_ ⟨rfl, rfl, rfl, trivial⟩
        refine gf_aload_n 0 dX12_round_164 rfl rfl ?_
        refine gf_getR flX12_273 rfl dX12_round_165 (gt_247 hG) (gp_247_109 hG) ?_
        refine gf_iload_n 2 dX12_round_168 rfl rfl ?_
        refine gf_aload_n 0 dX12_round_169 rfl rfl ?_
        refine gf_getR flX12_276 rfl dX12_round_170 (gt_247 hG) (gp_247_110 hG) ?_
        refine gf_iload_n 2 dX12_round_173 rfl rfl ?_
        refine gf_lald 90 dX12_round_174 (gt_331 hG) (gl_331 hG) rfl (by omega) (by decide) ?_
        refine gf_last 90 dX12_round_175 (gt_330 hG) (gl_330 hG) rfl (by omega) (by decide) ?_
        rw [mL_83]
        refine gf_iinc (1) dX12_round_176 rfl rfl (Nat.le_of_ble_eq_true rfl) ?_
        refine gf_goto 132 dX12_round_179 rfl ?_
        rw [show rocB z jz = ((1 : Int32), (up2 z.2 83 jz (z.2 84 jz))) from (if_pos zc139).trans (if_neg zc155)] at ih1
        exact gf_lw ih1 ⟨rfl, rfl, lvE (nI_1 jz), trivial⟩
def rocS (N9 : mN) : Int32 × mN := itN rocB ((0 : Int32), N9) 90
def roS (M : mM) (N : mN) : Int32 × mN := rocS (itN (rooB M) N 9)
theorem roc_01 {N : mN} : ∀ n, (itN rocB ((0 : Int32), N) n).1 = 0 ∨ (itN rocB ((0 : Int32), N) n).1 = 1
  | 0 => Or.inl rfl
  | n + 1 => by
    rw [itN_s]
    generalize itN rocB ((0 : Int32), N) n = y
    unfold rocB
    repeat' split
    all_goals first | exact Or.inl rfl | exact Or.inr rfl
theorem ro_nar (N9 : mN) : narrow .boolean (.int (rocS N9).1) = .int (rocS N9).1 := by
  rcases roc_01 (N := N9) 90 with q | q
  · rw [show (rocS N9).1 = 0 from q]; rfl
  · rw [show (rocS N9).1 = 1 from q]; rfl
theorem l_ro2 (E : gE) {d : Nat} (h : hp_T) (hG : gr h) (M : mM) (N9 : mN) : gf E mX12_round d 128 [(0, .ref (E.1 + 247))] [] (hm h M N9) (some (.int (rocS N9).1)) (hm h M (rocS N9).2) := by
  refine gf_iconst (0) dX12_round_128 rfl ?_
  refine gf_istore_n 1 dX12_round_129 rfl (Nat.le_of_ble_eq_true rfl) ?_
  refine gf_iconst (0) dX12_round_130 rfl ?_
  refine gf_istore_n 2 dX12_round_131 rfl (Nat.le_of_ble_eq_true rfl) ?_
  refine gf_lw (l_roc E h hG M N9 ?_ 90 0 (by omega)) ⟨rfl, rfl, rfl, trivial⟩
  change gf _ _ _ _ [(0, .ref (E.1 + 247)), (1, .int (rocS N9).1)] _ (hm h M (rocS N9).2) _ _
  refine gf_iload_n 1 dX12_round_182 rfl rfl ?_
  exact gf_zretE dX12_round_183 rfl (ro_nar N9) (rfl) (rfl)
theorem e_X12_round (E : gE) {d : Nat} (hd : 1 ≤ d) (h : hp_T) (hG : gr h) (M : mM) (N : mN) (hH : ∀ o, o < 9 → ¬ roH M N o < 0) : ev E mX12_round d [.ref (E.1 + 247)] (hm h M N) (some (.int (roS M N).1)) (hm h M (roS M N).2) := by
  refine ev_of rfl (fun q => absurd q (by decide)) (Nat.le_of_ble_eq_true rfl) ?_
  refine gf_iconst (0) dX12_round_0 rfl ?_
  refine gf_istore_n 1 dX12_round_1 rfl (Nat.le_of_ble_eq_true rfl) ?_
  refine gf_lw (l_roo E (by omega) h hG M N hH ?_ 9 0 (by omega)) ⟨rfl, rfl, trivial⟩
  exact l_ro2 E h hG M (itN (rooB M) N 9)
def fa1B (M : mM) (o : Nat) (z : mN) (jz : Nat) : mN := (up2 z 82 (10 * o + jz) (((Int32.toInt64 (M 81 jz)) * (Int32.toInt64 (M 45 (9 * o + jz)))) / 1000))
theorem l_fa1 (E : gE) {d : Nat} {o : Nat} (ho : o < 9) (h : hp_T) (hG : gr h) (M : mM) (N : mN) {v : Option Value} {hz : hp_T} (K : gf E mX12_falls d 57 [(0, .ref (E.1 + 247)), (1, .int (nI o))] [] (hm h M (itN (fa1B M o) N (9 : Nat))) v hz) : ∀ (kz jz : Nat), jz + kz = (9 : Nat) → gf E mX12_falls d 10 [(0, .ref (E.1 + 247)), (1, .int (nI o)), (2, .int (nI jz))] [] (hm h M (itN (fa1B M o) N jz)) v hz := by
  intro kz
  induction kz with
  | zero =>
    intro jz hj
    have hj : (9 : Nat) = jz := by omega
    subst hj
    generalize ez : (itN (fa1B M o) N (9 : Nat)) = z at K ⊢
    refine gf_iload_n 2 dX12_falls_10 rfl rfl ?_
    refine gf_bipush (9) dX12_falls_11 rfl ?_
    refine gf_icmp_ge 57 dX12_falls_13 rfl (fun _ => ?_) (fun q => absurd (Int32.le_refl _) q)
    exact gf_lw K ⟨rfl, rfl, trivial⟩
  | succ kz ih =>
    intro jz hj
    have ih1 := ih (jz + 1) (by omega)
    rw [show (itN (fa1B M o) N (jz + 1)) = fa1B M o (itN (fa1B M o) N jz) jz from itN_s _ _ _] at ih1
    generalize (itN (fa1B M o) N jz) = z at ih1 ⊢
    refine gf_iload_n 2 dX12_falls_10 rfl rfl ?_
    refine gf_bipush (9) dX12_falls_11 rfl ?_
    refine gf_icmp_ge 57 dX12_falls_13 rfl (fun q => absurd q (nI_ge (b := 9) (by omega) (by omega))) (fun _ => ?_)
    refine gf_aload_n 0 dX12_falls_16 rfl rfl ?_
    refine gf_getR flX12_270 rfl dX12_falls_17 (gt_247 hG) (gp_247_108 hG) ?_
    refine gf_bipush (10) dX12_falls_20 rfl ?_
    refine gf_iload_n 1 dX12_falls_22 rfl rfl ?_
    refine gf_imul dX12_falls_23 ?_
    refine gf_iload_n 2 dX12_falls_24 rfl rfl ?_
    refine gf_iadd dX12_falls_25 ?_
    refine gf_aload_n 0 dX12_falls_26 rfl rfl ?_
    refine gf_getR flX12_267 rfl dX12_falls_27 (gt_247 hG) (gp_247_107 hG) ?_
    refine gf_iload_n 2 dX12_falls_30 rfl rfl ?_
    refine gf_iald 9 dX12_falls_31 (gt_328 hG) (gl_328 hG) rfl (by omega) (by decide) ?_
    refine gf_i2l dX12_falls_32 ?_
    refine gf_aload_n 0 dX12_falls_33 rfl rfl ?_
    refine gf_getR flX12_155 rfl dX12_falls_34 (gt_247 hG) (gp_247_59 hG) ?_
    refine gf_bipush (9) dX12_falls_37 rfl ?_
    refine gf_iload_n 1 dX12_falls_39 rfl rfl ?_
    refine gf_imul dX12_falls_40 ?_
    refine gf_iload_n 2 dX12_falls_41 rfl rfl ?_
    refine gf_iadd dX12_falls_42 ?_
    refine gf_iald 81 dX12_falls_43 (gt_292 hG) (gl_292 hG) (show (9 : Int32) * nI o + nI jz = nI (9 * o + jz) from by rw [show (9 : Int32) * nI o = nI (9 * o) from pk_mul 9 o, nI_add]) (by omega) (by decide) ?_
    refine gf_i2l dX12_falls_44 ?_
    refine gf_lmul dX12_falls_45 ?_
    refine gf_ldc2 (1000) kcX12_460 dX12_falls_46 ?_
    refine gf_ldiv dX12_falls_49 (by decide) ?_
    refine gf_last 90 dX12_falls_50 (gt_329 hG) (gl_329 hG) (show (10 : Int32) * nI o + nI jz = nI (10 * o + jz) from by rw [show (10 : Int32) * nI o = nI (10 * o) from pk_mul 10 o, nI_add]) (by omega) (by decide) ?_
    rw [mL_82]
    refine gf_iinc (1) dX12_falls_51 rfl rfl (Nat.le_of_ble_eq_true rfl) ?_
    refine gf_goto 10 dX12_falls_54 rfl ?_
    rw [show fa1B M o z jz = (up2 z 82 (10 * o + jz) (((Int32.toInt64 (M 81 jz)) * (Int32.toInt64 (M 45 (9 * o + jz)))) / 1000)) from rfl] at ih1
    exact gf_lw ih1 ⟨rfl, rfl, lvE (nI_1 jz), trivial⟩
def fa2B (M : mM) (z : mN) (jz : Nat) : mN := (up2 (itN (fa1B M jz) z 9) 82 (10 * jz + 9) (Int32.toInt64 (M 81 jz)))
theorem l_fa2 (E : gE) {d : Nat} (h : hp_T) (hG : gr h) (M : mM) (N : mN) {v : Option Value} {hz : hp_T} (K : gf E mX12_falls d 82 [(0, .ref (E.1 + 247))] [] (hm h M (itN (fa2B M) N (9 : Nat))) v hz) : ∀ (kz jz : Nat), jz + kz = (9 : Nat) → gf E mX12_falls d 2 [(0, .ref (E.1 + 247)), (1, .int (nI jz))] [] (hm h M (itN (fa2B M) N jz)) v hz := by
  intro kz
  induction kz with
  | zero =>
    intro jz hj
    have hj : (9 : Nat) = jz := by omega
    subst hj
    generalize ez : (itN (fa2B M) N (9 : Nat)) = z at K ⊢
    refine gf_iload_n 1 dX12_falls_2 rfl rfl ?_
    refine gf_bipush (9) dX12_falls_3 rfl ?_
    refine gf_icmp_ge 82 dX12_falls_5 rfl (fun _ => ?_) (fun q => absurd (Int32.le_refl _) q)
    exact gf_lw K ⟨rfl, trivial⟩
  | succ kz ih =>
    intro jz hj
    have ih1 := ih (jz + 1) (by omega)
    rw [show (itN (fa2B M) N (jz + 1)) = fa2B M (itN (fa2B M) N jz) jz from itN_s _ _ _] at ih1
    generalize (itN (fa2B M) N jz) = z at ih1 ⊢
    refine gf_iload_n 1 dX12_falls_2 rfl rfl ?_
    refine gf_bipush (9) dX12_falls_3 rfl ?_
    refine gf_icmp_ge 82 dX12_falls_5 rfl (fun q => absurd q (nI_ge (b := 9) (by omega) (by omega))) (fun _ => ?_)
    refine gf_iconst (0) dX12_falls_8 rfl ?_
    refine gf_istore_n 2 dX12_falls_9 rfl (Nat.le_of_ble_eq_true rfl) ?_
    refine gf_lw (l_fa1 E (o := jz) (by omega) h hG M z ?_ 9 0 (by omega)) ⟨rfl, rfl, rfl, trivial⟩
    refine gf_aload_n 0 dX12_falls_57 rfl rfl ?_
    refine gf_getR flX12_270 rfl dX12_falls_58 (gt_247 hG) (gp_247_108 hG) ?_
    refine gf_bipush (10) dX12_falls_61 rfl ?_
    refine gf_iload_n 1 dX12_falls_63 rfl rfl ?_
    refine gf_imul dX12_falls_64 ?_
    refine gf_bipush (9) dX12_falls_65 rfl ?_
    refine gf_iadd dX12_falls_67 ?_
    refine gf_aload_n 0 dX12_falls_68 rfl rfl ?_
    refine gf_getR flX12_267 rfl dX12_falls_69 (gt_247 hG) (gp_247_107 hG) ?_
    refine gf_iload_n 1 dX12_falls_72 rfl rfl ?_
    refine gf_iald 9 dX12_falls_73 (gt_328 hG) (gl_328 hG) rfl (by omega) (by decide) ?_
    refine gf_i2l dX12_falls_74 ?_
    refine gf_last 90 dX12_falls_75 (gt_329 hG) (gl_329 hG) (show (10 : Int32) * nI jz + 9 = nI (10 * jz + 9) from by rw [show (10 : Int32) * nI jz = nI (10 * jz) from pk_mul 10 jz]; exact nI_add (10 * jz) 9) (by omega) (by decide) ?_
    rw [mL_82]
    refine gf_iinc (1) dX12_falls_76 rfl rfl (Nat.le_of_ble_eq_true rfl) ?_
    refine gf_goto 2 dX12_falls_79 rfl ?_
    rw [show fa2B M z jz = (up2 (itN (fa1B M jz) z 9) 82 (10 * jz + 9) (Int32.toInt64 (M 81 jz))) from rfl] at ih1
    exact gf_lw ih1 ⟨rfl, lvE (nI_1 jz), trivial⟩
def fa3B (z : mN) (jz : Nat) : mN := (up2 z 83 jz (z 82 jz))
theorem l_fa3 (E : gE) {d : Nat} (h : hp_T) (hG : gr h) (M : mM) (N : mN) {v : Option Value} {hz : hp_T} (K : gf E mX12_falls d 108 [(0, .ref (E.1 + 247))] [] (hm h M (itN (fa3B) N (90 : Nat))) v hz) : ∀ (kz jz : Nat), jz + kz = (90 : Nat) → gf E mX12_falls d 84 [(0, .ref (E.1 + 247)), (1, .int (nI jz))] [] (hm h M (itN (fa3B) N jz)) v hz := by
  intro kz
  induction kz with
  | zero =>
    intro jz hj
    have hj : (90 : Nat) = jz := by omega
    subst hj
    generalize ez : (itN (fa3B) N (90 : Nat)) = z at K ⊢
    refine gf_iload_n 1 dX12_falls_84 rfl rfl ?_
    refine gf_bipush (90) dX12_falls_85 rfl ?_
    refine gf_icmp_ge 108 dX12_falls_87 rfl (fun _ => ?_) (fun q => absurd (Int32.le_refl _) q)
    exact gf_lw K ⟨rfl, trivial⟩
  | succ kz ih =>
    intro jz hj
    have ih1 := ih (jz + 1) (by omega)
    rw [show (itN (fa3B) N (jz + 1)) = fa3B (itN (fa3B) N jz) jz from itN_s _ _ _] at ih1
    generalize (itN (fa3B) N jz) = z at ih1 ⊢
    refine gf_iload_n 1 dX12_falls_84 rfl rfl ?_
    refine gf_bipush (90) dX12_falls_85 rfl ?_
    refine gf_icmp_ge 108 dX12_falls_87 rfl (fun q => absurd q (nI_ge (b := 90) (by omega) (by omega))) (fun _ => ?_)
    refine gf_aload_n 0 dX12_falls_90 rfl rfl ?_
    refine gf_getR flX12_273 rfl dX12_falls_91 (gt_247 hG) (gp_247_109 hG) ?_
    refine gf_iload_n 1 dX12_falls_94 rfl rfl ?_
    refine gf_aload_n 0 dX12_falls_95 rfl rfl ?_
    refine gf_getR flX12_270 rfl dX12_falls_96 (gt_247 hG) (gp_247_108 hG) ?_
    refine gf_iload_n 1 dX12_falls_99 rfl rfl ?_
    refine gf_lald 90 dX12_falls_100 (gt_329 hG) (gl_329 hG) rfl (by omega) (by decide) ?_
    refine gf_last 90 dX12_falls_101 (gt_330 hG) (gl_330 hG) rfl (by omega) (by decide) ?_
    rw [mL_83]
    refine gf_iinc (1) dX12_falls_102 rfl rfl (Nat.le_of_ble_eq_true rfl) ?_
    refine gf_goto 84 dX12_falls_105 rfl ?_
    rw [show fa3B z jz = (up2 z 83 jz (z 82 jz)) from rfl] at ih1
    exact gf_lw ih1 ⟨rfl, lvE (nI_1 jz), trivial⟩
/-- the rounds: those that are left, their number, whether more -/
def fa4 (M : mM) : Nat → Nat → Int32 → mN → Nat × mN
  | 0, r, _, N => (r, N)
  | k + 1, r, is, N => if is = 0 then (r, N) else fa4 M k (r + 1) (roS M N).1 (roS M N).2
def faM (M : mM) (r : Nat) : mM := up2 M 0 111 (nI r)
def fa0 (M : mM) (N : mN) : mN := itN fa3B (itN (fa2B M) N 9) 90
def faS (M : mM) (N : mN) : Nat × mN := fa4 M 100 0 1 (fa0 M N)
/-- no office has less than nothing, in any round -/
def faI (M : mM) : Nat → mN → Prop
  | 0, _ => True
  | k + 1, N => (∀ o, o < 9 → ¬ roH M N o < 0) ∧ faI M k (roS M N).2
theorem l_fa4 (E : gE) {d : Nat} (hd : 2 ≤ d) (h : hp_T) (hG : gr h) (M : mM) : ∀ (kz r : Nat) (is : Int32) (N : mN), r + kz = 100 → faI M kz N → gf E mX12_falls d 115 [(0, .ref (E.1 + 247)), (1, .int is)] [] (hm h (faM M r) N) none (hm h (faM M (fa4 M kz r is N).1) (fa4 M kz r is N).2) := by
  intro kz
  induction kz with
  | zero =>
    intro r is N hr _
    have hr : r = 100 := by omega
    subst hr
    by_cases e : is = 0
    · skip
      refine gf_iload_n 1 dX12_falls_115 rfl rfl ?_
      refine gf_if_eq 146 dX12_falls_116 rfl (fun _ => ?_) (fun q => absurd (e) q)
      exact gf_vretE dX12_falls_146 rfl (rfl)
    · skip
      refine gf_iload_n 1 dX12_falls_115 rfl rfl ?_
      refine gf_if_eq 146 dX12_falls_116 rfl (fun q => absurd q (e)) (fun _ => ?_)
      refine gf_aload_n 0 dX12_falls_119 rfl rfl ?_
      refine gf_getI flX12_634 rfl dX12_falls_120 (gt_247 hG) ?_
      rw [show hp_i (hm h (faM M 100) N) 247 111 = nI 100 from up2_s M 0 111 _]
      refine gf_bipush (100) dX12_falls_123 rfl ?_
      refine gf_icmp_ge 146 dX12_falls_125 rfl (fun _ => ?_) (fun q => absurd (Int32.le_refl _) q)
      exact gf_vretE dX12_falls_146 rfl (rfl)
  | succ kz ih =>
    intro r is N hr hI
    by_cases e : is = 0
    · skip
      refine gf_iload_n 1 dX12_falls_115 rfl rfl ?_
      refine gf_if_eq 146 dX12_falls_116 rfl (fun _ => ?_) (fun q => absurd (e) q)
      exact gf_vretE dX12_falls_146 rfl (by rw [show fa4 M (kz + 1) r is N = (r, N) from if_pos e])
    · skip
      refine gf_iload_n 1 dX12_falls_115 rfl rfl ?_
      refine gf_if_eq 146 dX12_falls_116 rfl (fun q => absurd q (e)) (fun _ => ?_)
      refine gf_aload_n 0 dX12_falls_119 rfl rfl ?_
      refine gf_getI flX12_634 rfl dX12_falls_120 (gt_247 hG) ?_
      rw [show hp_i (hm h (faM M r) N) 247 111 = nI r from up2_s M 0 111 _]
      refine gf_bipush (100) dX12_falls_123 rfl ?_
      refine gf_icmp_ge 146 dX12_falls_125 rfl (fun q => absurd q (nI_ge (b := 100) (by omega) (by omega))) (fun _ => ?_)
      refine gf_aload_n 0 dX12_falls_128 rfl rfl ?_
      refine gf_callV cmX12_round lkX12_637 imX12_round seX12_round ⟨rfl, by decide⟩ dX12_falls_129 (d1 := d - 1) (by omega) (gt_247 hG) (e_X12_round E (by omega) h hG (faM M r) N (show ∀ o, o < 9 → ¬ roH M N o < 0 from hI.1)) rfl rfl (Nat.le_of_ble_eq_true rfl) ?_
      change gf _ _ _ _ _ [.int (roS M N).1] (hm h (faM M r) (roS M N).2) _ _
      refine gf_istore_n 1 dX12_falls_132 rfl (Nat.le_of_ble_eq_true rfl) ?_
      refine gf_aload_n 0 dX12_falls_133 rfl rfl ?_
      refine gf_dup dX12_falls_134 rfl ?_
      refine gf_getI flX12_634 rfl dX12_falls_135 (gt_247 hG) ?_
      rw [show hp_i (hm h (faM M r) (roS M N).2) 247 111 = nI r from up2_s M 0 111 _]
      refine gf_iconst (1) dX12_falls_138 rfl ?_
      refine gf_iadd dX12_falls_139 ?_
      rw [nI_1]
      refine gf_putI flX12_634 rfl rfl dX12_falls_140 (gt_247 hG) ⟨rfl, rfl⟩ ?_
      rw [mI_0]
      refine gf_goto 115 dX12_falls_143 rfl ?_
      rw [show fa4 M (kz + 1) r is N = fa4 M kz (r + 1) (roS M N).1 (roS M N).2 from if_neg e]
      rw [show up2 (faM M r) 0 111 (nI (r + 1)) = faM M (r + 1) from up2_up2 M 0 111 _ _]
      exact gf_lw (ih (r + 1) (roS M N).1 (roS M N).2 (by omega) hI.2) ⟨rfl, rfl, trivial⟩
theorem l_fab (E : gE) {d : Nat} (hd : 2 ≤ d) (h : hp_T) (hG : gr h) (M : mM) (N9 : mN) (hI : faI M 100 (itN fa3B N9 90)) : gf E mX12_falls d 84 [(0, .ref (E.1 + 247)), (1, .int (nI 0))] [] (hm h M N9) none (hm h (faM M (fa4 M 100 0 1 (itN fa3B N9 90)).1) (fa4 M 100 0 1 (itN fa3B N9 90)).2) := by
  refine gf_lw (l_fa3 E h hG M N9 ?_ 90 0 (by omega)) ⟨rfl, rfl, trivial⟩
  refine gf_aload_n 0 dX12_falls_108 rfl rfl ?_
  refine gf_iconst (0) dX12_falls_109 rfl ?_
  refine gf_putI flX12_634 rfl rfl dX12_falls_110 (gt_247 hG) ⟨rfl, rfl⟩ ?_
  rw [mI_0]
  refine gf_iconst (1) dX12_falls_113 rfl ?_
  refine gf_istore_n 1 dX12_falls_114 rfl (Nat.le_of_ble_eq_true rfl) ?_
  exact gf_lw (l_fa4 E hd h hG M 100 0 1 (itN fa3B N9 90) (by omega) hI) ⟨rfl, rfl, trivial⟩
theorem e_X12_falls (E : gE) {d : Nat} (hd : 2 ≤ d) (h : hp_T) (hG : gr h) (M : mM) (N : mN) (hI : faI M 100 (fa0 M N)) : ev E mX12_falls d [.ref (E.1 + 247)] (hm h M N) none (hm h (faM M (faS M N).1) (faS M N).2) := by
  refine ev_of rfl (fun q => absurd q (by decide)) (Nat.le_of_ble_eq_true rfl) ?_
  refine gf_iconst (0) dX12_falls_0 rfl ?_
  refine gf_istore_n 1 dX12_falls_1 rfl (Nat.le_of_ble_eq_true rfl) ?_
  refine gf_lw (l_fa2 E h hG M N ?_ 9 0 (by omega)) ⟨rfl, rfl, trivial⟩
  refine gf_iconst (0) dX12_falls_82 rfl ?_
  refine gf_istore_n 1 dX12_falls_83 rfl (Nat.le_of_ble_eq_true rfl) ?_
  exact gf_lw (l_fab E hd h hG M (itN (fa2B M) N 9) hI) ⟨rfl, rfl, trivial⟩
theorem hmL_83 (h : hp_T) (M : mM) (N : mN) (k : Nat) : hp_l (hm h M N) 330 k = N 83 k := rfl
abbrev mfaC (M : mM) (o u : Int32) : Prop := ¬ M 0 90 = 0 ∧ (0 ≤ o ∧ o ≤ 8) ∧ (0 ≤ u ∧ u ≤ 3)
def mfaV (Y : mN) (o : Nat) (u : Int32) : Int64 := if u = 0 then msuS Y 1 o 10 else if u = 1 then msuS Y 0 o 10 else if u = 2 then (if msuS Y 0 o 10 < msuS Y 1 o 10 then 1 else 0) else Y 83 (10 * o + 9)
theorem e_X12_fall (E : gE) {d : Nat} (hd : 3 ≤ d) (o u : Int32) (h : hp_T) (hG : gr h) (M : mM) (N : mN) (hI : faI M 100 (fa0 M N)) : ev E mX12_fall d [.ref (E.1 + 247), .int o, .int u] (hm h M N) (some (.long (if mfaC M o u then mfaV (faS M N).2 o.toNatClampNeg u else -1))) (if mfaC M o u then hm h (faM M (faS M N).1) (faS M N).2 else hm h M N) := by
  refine ev_of rfl (fun q => absurd q (by decide)) (Nat.le_of_ble_eq_true rfl) ?_
  by_cases hP : mfaC M o u
  · rw [if_pos hP, if_pos hP]
    have ho9 : o = nI o.toNatClampNeg ∧ o.toNatClampNeg < 9 := by
      have h1 := hP.2.1.1
      have h2 := hP.2.1.2
      rw [fa_le, ti_0] at h1
      rw [fa_le, ti_8] at h2
      exact ⟨ix_nI h1, ix_lt h1 (by omega)⟩
    refine gf_aload_n 0 dX12_fall_0 rfl rfl ?_
    refine gf_getI flX12_430 rfl dX12_fall_1 (gt_247 hG) ?_
    refine gf_if_eq 26 dX12_fall_4 rfl (fun q => absurd q (hP.1)) (fun _ => ?_)
    refine gf_iload_n 1 dX12_fall_7 rfl rfl ?_
    refine gf_callS cmX12_isOffice lkX12_451 stX12_isOffice dX12_fall_8 (d1 := d - 1) (by omega) (e_X12_isOffice E (by omega) o _) rfl rfl (Nat.le_of_ble_eq_true rfl) ?_
    refine gf_if_eq 26 dX12_fall_11 rfl (fun q => absurd q (fun q => zb_0.mp q hP.2.1)) (fun _ => ?_)
    refine gf_iload_n 2 dX12_fall_14 rfl rfl ?_
    refine gf_i2l dX12_fall_15 ?_
    refine gf_lconst (0) dX12_fall_16 rfl ?_
    refine gf_ldc2 (3) kcX12_437 dX12_fall_17 ?_
    refine gf_callS cmX12_isIn lkX12_325 stX12_isIn dX12_fall_20 (d1 := d - 1) (by omega) (e_X12_isIn E (by omega) u.toInt64 0 3 _) rfl rfl (Nat.le_of_ble_eq_true rfl) ?_
    refine gf_if_ne 30 dX12_fall_23 rfl (fun _ => ?_) (fun q => absurd q (fun q => zb_0.mp q ((isIn_l z64_0 z64_3).mpr hP.2.2)))
    refine gf_aload_n 0 dX12_fall_30 rfl rfl ?_
    refine gf_callV cmX12_falls lkX12_644 imX12_falls seX12_falls ⟨rfl, by decide⟩ dX12_fall_31 (d1 := d - 1) (by omega) (gt_247 hG) (e_X12_falls E (by omega) h hG M N hI) rfl rfl (Nat.le_of_ble_eq_true rfl) ?_
    refine gf_iload_n 2 dX12_fall_34 rfl rfl ?_
    by_cases zs35_0 : u = 0
    · refine gf_tableIn 60 dX12_fall_35 (by rw [zs35_0]; decide) (by rw [zs35_0]; decide) (by rw [zs35_0]; rfl) rfl ?_
      refine gf_aload_n 0 dX12_fall_60 rfl rfl ?_
      refine gf_iload_n 1 dX12_fall_61 rfl rfl ?_
      refine gf_iconst (1) dX12_fall_62 rfl ?_
      refine gf_callV cmX12_sumOf lkX12_640 imX12_sumOf seX12_sumOf ⟨rfl, by decide⟩ dX12_fall_63 (d1 := d - 1) (by omega) (gt_247 hG) (ev_aE (by rw [← ho9.1]) (e_X12_sumOf E (Nat.zero_le _) (o := o.toNatClampNeg) 1 h hG (faM M (faS M N).1) (faS M N).2 ho9.2)) rfl rfl (Nat.le_of_ble_eq_true rfl) ?_
      exact gf_lretE dX12_fall_66 rfl ((show mfaV (faS M N).2 o.toNatClampNeg u = _ from if_pos zs35_0).symm) (rfl)
    by_cases zs35_1 : u = 1
    · refine gf_tableIn 67 dX12_fall_35 (by rw [zs35_1]; decide) (by rw [zs35_1]; decide) (by rw [zs35_1]; rfl) rfl ?_
      refine gf_aload_n 0 dX12_fall_67 rfl rfl ?_
      refine gf_iload_n 1 dX12_fall_68 rfl rfl ?_
      refine gf_iconst (0) dX12_fall_69 rfl ?_
      refine gf_callV cmX12_sumOf lkX12_640 imX12_sumOf seX12_sumOf ⟨rfl, by decide⟩ dX12_fall_70 (d1 := d - 1) (by omega) (gt_247 hG) (ev_aE (by rw [← ho9.1]) (e_X12_sumOf E (Nat.zero_le _) (o := o.toNatClampNeg) 0 h hG (faM M (faS M N).1) (faS M N).2 ho9.2)) rfl rfl (Nat.le_of_ble_eq_true rfl) ?_
      exact gf_lretE dX12_fall_73 rfl ((show mfaV (faS M N).2 o.toNatClampNeg u = _ from (if_neg zs35_0).trans (if_pos zs35_1)).symm) (rfl)
    by_cases zs35_2 : u = 2
    · refine gf_tableIn 74 dX12_fall_35 (by rw [zs35_2]; decide) (by rw [zs35_2]; decide) (by rw [zs35_2]; rfl) rfl ?_
      refine gf_aload_n 0 dX12_fall_74 rfl rfl ?_
      refine gf_iload_n 1 dX12_fall_75 rfl rfl ?_
      refine gf_iconst (0) dX12_fall_76 rfl ?_
      refine gf_callV cmX12_sumOf lkX12_640 imX12_sumOf seX12_sumOf ⟨rfl, by decide⟩ dX12_fall_77 (d1 := d - 1) (by omega) (gt_247 hG) (ev_aE (by rw [← ho9.1]) (e_X12_sumOf E (Nat.zero_le _) (o := o.toNatClampNeg) 0 h hG (faM M (faS M N).1) (faS M N).2 ho9.2)) rfl rfl (Nat.le_of_ble_eq_true rfl) ?_
      refine gf_aload_n 0 dX12_fall_80 rfl rfl ?_
      refine gf_iload_n 1 dX12_fall_81 rfl rfl ?_
      refine gf_iconst (1) dX12_fall_82 rfl ?_
      refine gf_callV cmX12_sumOf lkX12_640 imX12_sumOf seX12_sumOf ⟨rfl, by decide⟩ dX12_fall_83 (d1 := d - 1) (by omega) (gt_247 hG) (ev_aE (by rw [← ho9.1]) (e_X12_sumOf E (Nat.zero_le _) (o := o.toNatClampNeg) 1 h hG (faM M (faS M N).1) (faS M N).2 ho9.2)) rfl rfl (Nat.le_of_ble_eq_true rfl) ?_
      refine gf_lcmp dX12_fall_86 ?_
      refine gf_if_ge 94 dX12_fall_87 rfl (fun zc87 => ?_) (fun zc87 => ?_)
      · refine gf_lconst (0) dX12_fall_94 rfl ?_
        exact gf_lretE dX12_fall_95 rfl ((show mfaV (faS M N).2 o.toNatClampNeg u = _ from (if_neg zs35_0).trans ((if_neg zs35_1).trans ((if_pos zs35_2).trans (if_neg (nlt_of_lgg zc87))))).symm) (rfl)
      · refine gf_lconst (1) dX12_fall_90 rfl ?_
        refine gf_goto 95 dX12_fall_91 rfl ?_
        exact gf_lretE dX12_fall_95 rfl ((show mfaV (faS M N).2 o.toNatClampNeg u = _ from (if_neg zs35_0).trans ((if_neg zs35_1).trans ((if_pos zs35_2).trans (if_pos (lt_of_lgg zc87))))).symm) (rfl)
    refine gf_tableOut 96 dX12_fall_35 (by have y0 : ¬ (u).toInt = 0 := fun z => zs35_0 ((fa_eq _ _).mpr z); have y1 : ¬ (u).toInt = 1 := fun z => zs35_1 ((fa_eq _ _).mpr z); have y2 : ¬ (u).toInt = 2 := fun z => zs35_2 ((fa_eq _ _).mpr z); omega) rfl ?_
    refine gf_aload_n 0 dX12_fall_96 rfl rfl ?_
    refine gf_getR flX12_273 rfl dX12_fall_97 (gt_247 hG) (gp_247_109 hG) ?_
    refine gf_bipush (10) dX12_fall_100 rfl ?_
    refine gf_iload_n 1 dX12_fall_102 rfl rfl ?_
    refine gf_imul dX12_fall_103 ?_
    refine gf_bipush (9) dX12_fall_104 rfl ?_
    refine gf_iadd dX12_fall_106 ?_
    refine gf_lald 90 dX12_fall_107 (gt_330 hG) (gl_330 hG) (show (10 : Int32) * o + 9 = nI (10 * o.toNatClampNeg + 9) from by rw [ho9.1, nI_clamp (by omega), show (10 : Int32) * nI o.toNatClampNeg = nI (10 * o.toNatClampNeg) from pk_mul 10 _]; exact nI_add _ 9) (by omega) (by decide) ?_
    rw [hmL_83]
    exact gf_lretE dX12_fall_108 rfl ((show mfaV (faS M N).2 o.toNatClampNeg u = _ from (if_neg zs35_0).trans ((if_neg zs35_1).trans (if_neg zs35_2))).symm) (rfl)
  · rw [if_neg hP, if_neg hP]
    refine gf_aload_n 0 dX12_fall_0 rfl rfl ?_
    refine gf_getI flX12_430 rfl dX12_fall_1 (gt_247 hG) ?_
    refine gf_if_eq 26 dX12_fall_4 rfl (fun zc4 => ?_) (fun zc4 => ?_)
    · refine gf_ldc2 (-1) kcX12_487 dX12_fall_26 ?_
      exact gf_lretE dX12_fall_29 rfl (rfl) (rfl)
    · refine gf_iload_n 1 dX12_fall_7 rfl rfl ?_
      refine gf_callS cmX12_isOffice lkX12_451 stX12_isOffice dX12_fall_8 (d1 := d - 1) (by omega) (e_X12_isOffice E (by omega) o _) rfl rfl (Nat.le_of_ble_eq_true rfl) ?_
      refine gf_if_eq 26 dX12_fall_11 rfl (fun zc11 => ?_) (fun zc11 => ?_)
      · refine gf_ldc2 (-1) kcX12_487 dX12_fall_26 ?_
        exact gf_lretE dX12_fall_29 rfl (rfl) (rfl)
      · refine gf_iload_n 2 dX12_fall_14 rfl rfl ?_
        refine gf_i2l dX12_fall_15 ?_
        refine gf_lconst (0) dX12_fall_16 rfl ?_
        refine gf_ldc2 (3) kcX12_437 dX12_fall_17 ?_
        refine gf_callS cmX12_isIn lkX12_325 stX12_isIn dX12_fall_20 (d1 := d - 1) (by omega) (e_X12_isIn E (by omega) u.toInt64 0 3 _) rfl rfl (Nat.le_of_ble_eq_true rfl) ?_
        refine gf_if_ne 30 dX12_fall_23 rfl (fun zc23 => ?_) (fun zc23 => ?_)
        · exact absurd ⟨zc4, zb_1.mp zc11, (isIn_l z64_0 z64_3).mp (zb_1.mp zc23)⟩ hP
        · refine gf_ldc2 (-1) kcX12_487 dX12_fall_26 ?_
          exact gf_lretE dX12_fall_29 rfl (rfl) (rfl)
theorem e_X12_rounds (E : gE) {d : Nat} (hd : 3 ≤ d) (h : hp_T) (hG : gr h) (M : mM) (N : mN) (hI : faI M 100 (fa0 M N)) : ev E mX12_rounds d [.ref (E.1 + 247)] (hm h M N) (some (.int (if ¬ M 0 90 = 0 then nI (faS M N).1 else -1))) (if ¬ M 0 90 = 0 then hm h (faM M (faS M N).1) (faS M N).2 else hm h M N) := by
  refine ev_of rfl (fun q => absurd q (by decide)) (Nat.le_of_ble_eq_true rfl) ?_
  by_cases hP : ¬ M 0 90 = 0
  · rw [if_pos hP, if_pos hP]
    refine gf_aload_n 0 dX12_rounds_0 rfl rfl ?_
    refine gf_getI flX12_430 rfl dX12_rounds_1 (gt_247 hG) ?_
    refine gf_if_ne 9 dX12_rounds_4 rfl (fun _ => ?_) (fun q => absurd q (hP))
    refine gf_aload_n 0 dX12_rounds_9 rfl rfl ?_
    refine gf_callV cmX12_falls lkX12_644 imX12_falls seX12_falls ⟨rfl, by decide⟩ dX12_rounds_10 (d1 := d - 1) (by omega) (gt_247 hG) (e_X12_falls E (by omega) h hG M N hI) rfl rfl (Nat.le_of_ble_eq_true rfl) ?_
    refine gf_aload_n 0 dX12_rounds_13 rfl rfl ?_
    refine gf_getI flX12_634 rfl dX12_rounds_14 (gt_247 hG) ?_
    exact gf_iretE dX12_rounds_17 rfl (up2_s M 0 111 _) (rfl)
  · rw [if_neg hP, if_neg hP]
    refine gf_aload_n 0 dX12_rounds_0 rfl rfl ?_
    refine gf_getI flX12_430 rfl dX12_rounds_1 (gt_247 hG) ?_
    refine gf_if_ne 9 dX12_rounds_4 rfl (fun q => absurd (Decidable.of_not_not hP) q) (fun _ => ?_)
    refine gf_iconst (-1) dX12_rounds_7 rfl ?_
    exact gf_iretE dX12_rounds_8 rfl (rfl) (rfl)
