/-! ===== the reference's fire: spreading ===== -/
theorem cel_e {M : mM} {w g : Nat} (C : mcty M w g) : M 0 42 * M 0 43 = nI (w * g) := by rw [C.2.1, C.2.2, pk_mul]
theorem itN_inv {α : Type} {f : α → Nat → α} (p : α → Prop) (hf : ∀ z j, p z → p (f z j)) {z : α} (hz : p z) : ∀ n, p (itN f z n)
  | 0 => hz
  | n + 1 => hf _ n (itN_inv p hf hz n)
/-- the city of the reference: shape, walls, trades -/
def mfi (M : mM) (w g : Nat) : Prop := mcty M w g ∧ (∀ c, c < 120 → ∃ k, k < 4 ∧ M 31 c = nI k) ∧ (∀ c, c < 120 → ∃ k, k < 6 ∧ M 32 c = nI k)
theorem mfi_of {M Z : mM} {w g : Nat} (h0 : Z 0 = M 0) (h31 : Z 31 = M 31) (h32 : Z 32 = M 32) (I : mfi M w g) : mfi Z w g := by
  unfold mfi mcty
  rw [h0, h31, h32]
  exact I
theorem enc_ix {w g c y : Nat} (h2 : w * g ≤ 120) (h : ¬ enc (nbo w g c y) = -1) : enc (nbo w g c y) = nI (enc (nbo w g c y)).toNatClampNeg ∧ (enc (nbo w g c y)).toNatClampNeg < w * g := by
  cases e : nbo w g c y with
  | none => rw [e] at h; exact absurd rfl h
  | some j =>
    have hj := nbo_lt e
    show nI j = nI (nI j).toNatClampNeg ∧ (nI j).toNatClampNeg < w * g
    rw [nI_clamp (by omega)]
    exact ⟨rfl, hj⟩
def spwB (w g c wd : Nat) (z : mM) (jz : Nat) : mM := (if (enc (nbo w g c ((jz + 4) % 8))) = (-1) then z else (if (z 34 ((enc (nbo w g c ((jz + 4) % 8))).toNatClampNeg)) = 0 then z else (if (z 53 ((enc (nbo w g c ((jz + 4) % 8))).toNatClampNeg)) = 1 then (if (nI wd) ≤ 0 then (up2 z 54 c ((z 54 c) + (((z 55 ((enc (nbo w g c ((jz + 4) % 8))).toNatClampNeg)) + (z 36 (((z 32 ((enc (nbo w g c ((jz + 4) % 8))).toNatClampNeg))).toNatClampNeg))) + 0))) else (if (z 37 wd) = (nI jz) then (up2 z 54 c ((z 54 c) + (((z 55 ((enc (nbo w g c ((jz + 4) % 8))).toNatClampNeg)) + (z 36 (((z 32 ((enc (nbo w g c ((jz + 4) % 8))).toNatClampNeg))).toNatClampNeg))) + (z 38 wd)))) else (up2 z 54 c ((z 54 c) + (((z 55 ((enc (nbo w g c ((jz + 4) % 8))).toNatClampNeg)) + (z 36 (((z 32 ((enc (nbo w g c ((jz + 4) % 8))).toNatClampNeg))).toNatClampNeg))) + 0))))) else z)))
theorem spwB_row {w g c wd : Nat} (z : mM) (jz : Nat) {r : Nat} (h : r ≠ 54) : spwB w g c wd z jz r = z r := by
  unfold spwB
  repeat' split
  all_goals first | rfl | rw [up2_row h]
theorem l_spw (E : gE) {d : Nat} (hd : 2 ≤ d) {w g c wd : Nat} (t : Int32) (h : hp_T) (hG : gr h) (M : mM) (N : mN) (I : mfi M w g) (hc : c < w * g) (hw : wd ≤ 120) {v : Option Value} {hz : hp_T} (K : gf E mX12_spreads d 187 [(0, .ref (E.1 + 247)), (1, .int t), (2, .int (nI wd)), (3, .int (nI c)), (4, .int (nI (8 : Nat)))] [] (hm h (itN (spwB w g c wd) M (8 : Nat)) N) v hz) : ∀ (kz jz : Nat), jz + kz = (8 : Nat) → gf E mX12_spreads d 75 [(0, .ref (E.1 + 247)), (1, .int t), (2, .int (nI wd)), (3, .int (nI c)), (4, .int (nI jz))] [] (hm h (itN (spwB w g c wd) M jz) N) v hz := by
  obtain ⟨w1, w2, g1, g2⟩ := I.1.1
  have hn : w * g ≤ 120 := Nat.le_trans (Nat.mul_le_mul w2 g2) (by decide)
  intro kz
  induction kz with
  | zero =>
    intro jz hj
    have hj : (8 : Nat) = jz := by omega
    subst hj
    have Iz : mfi (itN (spwB w g c wd) M (8 : Nat)) w g := mfi_of (itN_row (fun z j => spwB_row z j (by decide)) M (8 : Nat)) (itN_row (fun z j => spwB_row z j (by decide)) M (8 : Nat)) (itN_row (fun z j => spwB_row z j (by decide)) M (8 : Nat)) I
    generalize ez : (itN (spwB w g c wd) M (8 : Nat)) = z at K Iz ⊢
    refine gf_iload dX12_spreads_75 rfl ?_
    refine gf_bipush (8) dX12_spreads_77 rfl ?_
    refine gf_icmp_ge 187 dX12_spreads_79 rfl (fun _ => ?_) (fun q => absurd (Int32.le_refl _) q)
    exact gf_lw K ⟨rfl, rfl, rfl, rfl, rfl, trivial⟩
  | succ kz ih =>
    intro jz hj
    have ih1 := ih (jz + 1) (by omega)
    have Iz : mfi (itN (spwB w g c wd) M jz) w g := mfi_of (itN_row (fun z j => spwB_row z j (by decide)) M jz) (itN_row (fun z j => spwB_row z j (by decide)) M jz) (itN_row (fun z j => spwB_row z j (by decide)) M jz) I
    rw [show (itN (spwB w g c wd) M (jz + 1)) = spwB w g c wd (itN (spwB w g c wd) M jz) jz from itN_s _ _ _] at ih1
    generalize (itN (spwB w g c wd) M jz) = z at ih1 Iz ⊢
    refine gf_iload dX12_spreads_75 rfl ?_
    refine gf_bipush (8) dX12_spreads_77 rfl ?_
    refine gf_icmp_ge 187 dX12_spreads_79 rfl (fun q => absurd q (nI_ge (b := 8) (by omega) (by omega))) (fun _ => ?_)
    refine gf_aload_n 0 dX12_spreads_82 rfl rfl ?_
    refine gf_iload_n 3 dX12_spreads_83 rfl rfl ?_
    refine gf_iload dX12_spreads_84 rfl ?_
    refine gf_iconst (4) dX12_spreads_86 rfl ?_
    refine gf_iadd dX12_spreads_87 ?_
    refine gf_bipush (8) dX12_spreads_88 rfl ?_
    refine gf_irem dX12_spreads_90 (by decide) ?_
    rw [show (nI jz + 4 - (nI jz + 4) / 8 * 8 : Int32) = nI ((jz + 4) % 8) from by rw [show nI jz + 4 = nI (jz + 4) from nI_add jz 4]; exact pk_rem (a := jz + 4) (d := 8) (by omega) (by omega) (by omega)]
    refine gf_callV cmX12_beside lkX12_520 imX12_beside seX12_beside ⟨rfl, by decide⟩ dX12_spreads_91 (d1 := d - 1) (by omega) (gt_247 hG) (e_X12_beside E (by omega) h hG z N Iz.1 hc (show (jz + 4) % 8 < 8 by omega)) rfl rfl (Nat.le_of_ble_eq_true rfl) ?_
    refine gf_istore dX12_spreads_94 (Nat.le_of_ble_eq_true rfl) ?_
    refine gf_iload dX12_spreads_96 rfl ?_
    refine gf_iconst (-1) dX12_spreads_98 rfl ?_
    refine gf_icmp_eq 181 dX12_spreads_99 rfl (fun zc99 => ?_) (fun zc99 => ?_)
    · refine gf_iinc (1) dX12_spreads_181 rfl rfl (Nat.le_of_ble_eq_true rfl) ?_
      refine gf_goto 75 dX12_spreads_184 rfl ?_
      rw [show spwB w g c wd z jz = z from if_pos zc99] at ih1
      exact gf_lw ih1 ⟨rfl, rfl, rfl, rfl, lvE (nI_1 jz), trivial⟩
    · obtain ⟨he1, he2⟩ := enc_ix hn zc99
      obtain ⟨kt, hkt, ekt⟩ := Iz.2.2 (enc (nbo w g c ((jz + 4) % 8))).toNatClampNeg (by omega)
      refine gf_aload_n 0 dX12_spreads_102 rfl rfl ?_
      refine gf_getR flX12_121 rfl dX12_spreads_103 (gt_247 hG) (gp_247_47 hG) ?_
      refine gf_iload dX12_spreads_106 rfl ?_
      refine gf_zald 120 dX12_spreads_108 (gt_281 hG) (gl_281 hG) he1 (by omega) (by decide) ?_
      refine gf_if_eq 181 dX12_spreads_109 rfl (fun zc109 => ?_) (fun zc109 => ?_)
      · refine gf_iinc (1) dX12_spreads_181 rfl rfl (Nat.le_of_ble_eq_true rfl) ?_
        refine gf_goto 75 dX12_spreads_184 rfl ?_
        rw [show spwB w g c wd z jz = z from (if_neg zc99).trans (if_pos zc109)] at ih1
        exact gf_lw ih1 ⟨rfl, rfl, rfl, rfl, lvE (nI_1 jz), trivial⟩
      · refine gf_aload_n 0 dX12_spreads_112 rfl rfl ?_
        refine gf_getR flX12_183 rfl dX12_spreads_113 (gt_247 hG) (gp_247_75 hG) ?_
        refine gf_iload dX12_spreads_116 rfl ?_
        refine gf_iald 120 dX12_spreads_118 (gt_300 hG) (gl_300 hG) he1 (by omega) (by decide) ?_
        refine gf_iconst (1) dX12_spreads_119 rfl ?_
        refine gf_icmp_eq 126 dX12_spreads_120 rfl (fun zc120 => ?_) (fun zc120 => ?_)
        · refine gf_aload_n 0 dX12_spreads_126 rfl rfl ?_
          refine gf_getR flX12_186 rfl dX12_spreads_127 (gt_247 hG) (gp_247_76 hG) ?_
          refine gf_iload_n 3 dX12_spreads_130 rfl rfl ?_
          refine gf_dup2 dX12_spreads_131 rfl rfl ?_
          refine gf_iald 120 dX12_spreads_132 (gt_301 hG) (gl_301 hG) rfl (by omega) (by decide) ?_
          refine gf_aload_n 0 dX12_spreads_133 rfl rfl ?_
          refine gf_getR flX12_189 rfl dX12_spreads_134 (gt_247 hG) (gp_247_77 hG) ?_
          refine gf_iload dX12_spreads_137 rfl ?_
          refine gf_iald 120 dX12_spreads_139 (gt_302 hG) (gl_302 hG) he1 (by omega) (by decide) ?_
          refine gf_aload_n 0 dX12_spreads_140 rfl rfl ?_
          refine gf_getR flX12_128 rfl dX12_spreads_141 (gt_247 hG) (gp_247_49 hG) ?_
          refine gf_aload_n 0 dX12_spreads_144 rfl rfl ?_
          refine gf_getR flX12_115 rfl dX12_spreads_145 (gt_247 hG) (gp_247_45 hG) ?_
          refine gf_iload dX12_spreads_148 rfl ?_
          refine gf_iald 120 dX12_spreads_150 (gt_279 hG) (gl_279 hG) he1 (by omega) (by decide) ?_
          refine gf_iald 6 dX12_spreads_151 (gt_283 hG) (gl_283 hG) (by show _ = nI (Int32.toNatClampNeg _); exact (show z 32 (enc (nbo w g c ((jz + 4) % 8))).toNatClampNeg = nI (z 32 (enc (nbo w g c ((jz + 4) % 8))).toNatClampNeg).toNatClampNeg by rw [ekt, nI_clamp (by omega)])) (show (z 32 (enc (nbo w g c ((jz + 4) % 8))).toNatClampNeg).toNatClampNeg < 6 by rw [ekt, nI_clamp (by omega)]; exact hkt) (by decide) ?_
          refine gf_iadd dX12_spreads_152 ?_
          refine gf_iload_n 2 dX12_spreads_153 rfl rfl ?_
          refine gf_if_le 177 dX12_spreads_154 rfl (fun zc154 => ?_) (fun zc154 => ?_)
          · refine gf_iconst (0) dX12_spreads_177 rfl ?_
            refine gf_iadd dX12_spreads_178 ?_
            refine gf_iadd dX12_spreads_179 ?_
            refine gf_iast 120 dX12_spreads_180 (gt_301 hG) (gl_301 hG) rfl (by omega) (by decide) ?_
            rw [mI_54]
            refine gf_iinc (1) dX12_spreads_181 rfl rfl (Nat.le_of_ble_eq_true rfl) ?_
            refine gf_goto 75 dX12_spreads_184 rfl ?_
            rw [show spwB w g c wd z jz = (up2 z 54 c ((z 54 c) + (((z 55 ((enc (nbo w g c ((jz + 4) % 8))).toNatClampNeg)) + (z 36 (((z 32 ((enc (nbo w g c ((jz + 4) % 8))).toNatClampNeg))).toNatClampNeg))) + 0))) from (if_neg zc99).trans ((if_neg zc109).trans ((if_pos zc120).trans (if_pos zc154)))] at ih1
            exact gf_lw ih1 ⟨rfl, rfl, rfl, rfl, lvE (nI_1 jz), trivial⟩
          · refine gf_aload_n 0 dX12_spreads_157 rfl rfl ?_
            refine gf_getR flX12_131 rfl dX12_spreads_158 (gt_247 hG) (gp_247_50 hG) ?_
            refine gf_iload_n 2 dX12_spreads_161 rfl rfl ?_
            refine gf_iald 121 dX12_spreads_162 (gt_284 hG) (gl_284 hG) rfl (by omega) (by decide) ?_
            refine gf_iload dX12_spreads_163 rfl ?_
            refine gf_icmp_ne 177 dX12_spreads_165 rfl (fun zc165 => ?_) (fun zc165 => ?_)
            · refine gf_iconst (0) dX12_spreads_177 rfl ?_
              refine gf_iadd dX12_spreads_178 ?_
              refine gf_iadd dX12_spreads_179 ?_
              refine gf_iast 120 dX12_spreads_180 (gt_301 hG) (gl_301 hG) rfl (by omega) (by decide) ?_
              rw [mI_54]
              refine gf_iinc (1) dX12_spreads_181 rfl rfl (Nat.le_of_ble_eq_true rfl) ?_
              refine gf_goto 75 dX12_spreads_184 rfl ?_
              rw [show spwB w g c wd z jz = (up2 z 54 c ((z 54 c) + (((z 55 ((enc (nbo w g c ((jz + 4) % 8))).toNatClampNeg)) + (z 36 (((z 32 ((enc (nbo w g c ((jz + 4) % 8))).toNatClampNeg))).toNatClampNeg))) + 0))) from (if_neg zc99).trans ((if_neg zc109).trans ((if_pos zc120).trans ((if_neg zc154).trans (if_neg zc165))))] at ih1
              exact gf_lw ih1 ⟨rfl, rfl, rfl, rfl, lvE (nI_1 jz), trivial⟩
            · refine gf_aload_n 0 dX12_spreads_168 rfl rfl ?_
              refine gf_getR flX12_134 rfl dX12_spreads_169 (gt_247 hG) (gp_247_51 hG) ?_
              refine gf_iload_n 2 dX12_spreads_172 rfl rfl ?_
              refine gf_iald 121 dX12_spreads_173 (gt_285 hG) (gl_285 hG) rfl (by omega) (by decide) ?_
              refine gf_goto 178 dX12_spreads_174 rfl ?_
              refine gf_iadd dX12_spreads_178 ?_
              refine gf_iadd dX12_spreads_179 ?_
              refine gf_iast 120 dX12_spreads_180 (gt_301 hG) (gl_301 hG) rfl (by omega) (by decide) ?_
              rw [mI_54]
              refine gf_iinc (1) dX12_spreads_181 rfl rfl (Nat.le_of_ble_eq_true rfl) ?_
              refine gf_goto 75 dX12_spreads_184 rfl ?_
              rw [show spwB w g c wd z jz = (up2 z 54 c ((z 54 c) + (((z 55 ((enc (nbo w g c ((jz + 4) % 8))).toNatClampNeg)) + (z 36 (((z 32 ((enc (nbo w g c ((jz + 4) % 8))).toNatClampNeg))).toNatClampNeg))) + (z 38 wd)))) from (if_neg zc99).trans ((if_neg zc109).trans ((if_pos zc120).trans ((if_neg zc154).trans (if_pos zc165))))] at ih1
              exact gf_lw ih1 ⟨rfl, rfl, rfl, rfl, lvE (nI_1 jz), trivial⟩
        · refine gf_goto 181 dX12_spreads_123 rfl ?_
          refine gf_iinc (1) dX12_spreads_181 rfl rfl (Nat.le_of_ble_eq_true rfl) ?_
          refine gf_goto 75 dX12_spreads_184 rfl ?_
          rw [show spwB w g c wd z jz = z from (if_neg zc99).trans ((if_neg zc109).trans (if_neg zc120))] at ih1
          exact gf_lw ih1 ⟨rfl, rfl, rfl, rfl, lvE (nI_1 jz), trivial⟩
theorem e_resW (E : gE) {d : Nat} {x : Int32} (hx : ∃ k, k < 4 ∧ x = nI k) (h : hp_T) : ev E mX12_resist d [.int x] h (some (.int ((gf_sc 2).getD x.toNatClampNeg 0))) h := by
  obtain ⟨k, hk, e⟩ := hx
  subst e
  rw [nI_clamp (by omega)]
  exact e_X12_resist E (Nat.zero_le _) hk h
theorem spw_row {w g c wd : Nat} (z : mM) (n : Nat) {r : Nat} (h : r ≠ 54) : itN (spwB w g c wd) z n r = z r := itN_row (fun z j => spwB_row z j h) z n
def spcB (w g wd : Nat) (z : mM) (jz : Nat) : mM := (if ((up2 z 58 jz 0) 34 jz) = 0 then (up2 z 58 jz 0) else (if ((up2 z 58 jz 0) 53 jz) = 0 then (if 2 ≤ ((up2 z 58 jz 0) 54 jz) then (if ((itN (spwB w g jz wd) (up2 (up2 z 58 jz 0) 54 jz (((up2 z 58 jz 0) 54 jz) - 2)) 8) 54 jz) < ((gf_sc 2).getD (((itN (spwB w g jz wd) (up2 (up2 z 58 jz 0) 54 jz (((up2 z 58 jz 0) 54 jz) - 2)) 8) 31 jz)).toNatClampNeg 0) then (up2 (itN (spwB w g jz wd) (up2 (up2 z 58 jz 0) 54 jz (((up2 z 58 jz 0) 54 jz) - 2)) 8) 58 jz 0) else (up2 (itN (spwB w g jz wd) (up2 (up2 z 58 jz 0) 54 jz (((up2 z 58 jz 0) 54 jz) - 2)) 8) 58 jz 1)) else (if ((itN (spwB w g jz wd) (up2 (up2 z 58 jz 0) 54 jz 0) 8) 54 jz) < ((gf_sc 2).getD (((itN (spwB w g jz wd) (up2 (up2 z 58 jz 0) 54 jz 0) 8) 31 jz)).toNatClampNeg 0) then (up2 (itN (spwB w g jz wd) (up2 (up2 z 58 jz 0) 54 jz 0) 8) 58 jz 0) else (up2 (itN (spwB w g jz wd) (up2 (up2 z 58 jz 0) 54 jz 0) 8) 58 jz 1))) else (up2 z 58 jz 0)))
theorem spcB_row {w g wd : Nat} (z : mM) (jz : Nat) {r : Nat} (h4 : r ≠ 54) (h8 : r ≠ 58) : spcB w g wd z jz r = z r := by
  unfold spcB
  repeat' split
  all_goals first | rfl | simp only [up2_row h8, up2_row h4, spw_row _ _ h4]
theorem l_spc (E : gE) {d : Nat} (hd : 3 ≤ d) {w g wd : Nat} (t : Int32) (h : hp_T) (hG : gr h) (M : mM) (N : mN) (I : mfi M w g) (hw : wd ≤ 120) {v : Option Value} {hz : hp_T} (K : gf E mX12_spreads d 222 [(0, .ref (E.1 + 247)), (1, .int t), (2, .int (nI wd)), (3, .int (nI (w * g)))] [] (hm h (itN (spcB w g wd) M (w * g)) N) v hz) : ∀ (kz jz : Nat), jz + kz = (w * g) → gf E mX12_spreads d 8 [(0, .ref (E.1 + 247)), (1, .int t), (2, .int (nI wd)), (3, .int (nI jz))] [] (hm h (itN (spcB w g wd) M jz) N) v hz := by
  obtain ⟨w1, w2, g1, g2⟩ := I.1.1
  have hn : w * g ≤ 120 := Nat.le_trans (Nat.mul_le_mul w2 g2) (by decide)
  intro kz
  induction kz with
  | zero =>
    intro jz hj
    have hj : (w * g) = jz := by omega
    subst hj
    have Iz : mfi (itN (spcB w g wd) M (w * g)) w g := mfi_of (itN_row (fun z j => spcB_row z j (by decide) (by decide)) M (w * g)) (itN_row (fun z j => spcB_row z j (by decide) (by decide)) M (w * g)) (itN_row (fun z j => spcB_row z j (by decide) (by decide)) M (w * g)) I
    generalize ez : (itN (spcB w g wd) M (w * g)) = z at K Iz ⊢
    refine gf_iload_n 3 dX12_spreads_8 rfl rfl ?_
    refine gf_aload_n 0 dX12_spreads_9 rfl rfl ?_
    refine gf_callV cmX12_cells lkX12_409 imX12_cells seX12_cells ⟨rfl, by decide⟩ dX12_spreads_10 (d1 := d - 1) (by omega) (gt_247 hG) (e_X12_cells E (by omega) (hm h z N) hG) rfl rfl (Nat.le_of_ble_eq_true rfl) ?_
    rw [show hp_i (hm h z N) 247 42 * hp_i (hm h z N) 247 43 = nI (w * g) from cel_e (M := z) Iz.1]
    refine gf_icmp_ge 222 dX12_spreads_13 rfl (fun _ => ?_) (fun q => absurd (nI_le (by omega) (by omega)) q)
    exact gf_lw K ⟨rfl, rfl, rfl, rfl, trivial⟩
  | succ kz ih =>
    intro jz hj
    have ih1 := ih (jz + 1) (by omega)
    have Iz : mfi (itN (spcB w g wd) M jz) w g := mfi_of (itN_row (fun z j => spcB_row z j (by decide) (by decide)) M jz) (itN_row (fun z j => spcB_row z j (by decide) (by decide)) M jz) (itN_row (fun z j => spcB_row z j (by decide) (by decide)) M jz) I
    rw [show (itN (spcB w g wd) M (jz + 1)) = spcB w g wd (itN (spcB w g wd) M jz) jz from itN_s _ _ _] at ih1
    generalize (itN (spcB w g wd) M jz) = z at ih1 Iz ⊢
    refine gf_iload_n 3 dX12_spreads_8 rfl rfl ?_
    refine gf_aload_n 0 dX12_spreads_9 rfl rfl ?_
    refine gf_callV cmX12_cells lkX12_409 imX12_cells seX12_cells ⟨rfl, by decide⟩ dX12_spreads_10 (d1 := d - 1) (by omega) (gt_247 hG) (e_X12_cells E (by omega) (hm h z N) hG) rfl rfl (Nat.le_of_ble_eq_true rfl) ?_
    rw [show hp_i (hm h z N) 247 42 * hp_i (hm h z N) 247 43 = nI (w * g) from cel_e (M := z) Iz.1]
    refine gf_icmp_ge 222 dX12_spreads_13 rfl (fun q => absurd q (nI_ge (by omega) (by omega))) (fun _ => ?_)
    refine gf_aload_n 0 dX12_spreads_16 rfl rfl ?_
    refine gf_getR flX12_198 rfl dX12_spreads_17 (gt_247 hG) (gp_247_80 hG) ?_
    refine gf_iload_n 3 dX12_spreads_20 rfl rfl ?_
    refine gf_iconst (0) dX12_spreads_21 rfl ?_
    refine gf_zast 120 dX12_spreads_22 (gt_305 hG) (gl_305 hG) rfl (by omega) (by decide) rfl ?_
    rw [mI_58]
    refine gf_aload_n 0 dX12_spreads_23 rfl rfl ?_
    refine gf_getR flX12_121 rfl dX12_spreads_24 (gt_247 hG) (gp_247_47 hG) ?_
    refine gf_iload_n 3 dX12_spreads_27 rfl rfl ?_
    refine gf_zald 120 dX12_spreads_28 (gt_281 hG) (gl_281 hG) rfl (by omega) (by decide) ?_
    refine gf_if_eq 216 dX12_spreads_29 rfl (fun zc29 => ?_) (fun zc29 => ?_)
    · refine gf_iinc (1) dX12_spreads_216 rfl rfl (Nat.le_of_ble_eq_true rfl) ?_
      refine gf_goto 8 dX12_spreads_219 rfl ?_
      rw [show spcB w g wd z jz = (up2 z 58 jz 0) from if_pos zc29] at ih1
      exact gf_lw ih1 ⟨rfl, rfl, rfl, lvE (nI_1 jz), trivial⟩
    · refine gf_aload_n 0 dX12_spreads_32 rfl rfl ?_
      refine gf_getR flX12_183 rfl dX12_spreads_33 (gt_247 hG) (gp_247_75 hG) ?_
      refine gf_iload_n 3 dX12_spreads_36 rfl rfl ?_
      refine gf_iald 120 dX12_spreads_37 (gt_300 hG) (gl_300 hG) rfl (by omega) (by decide) ?_
      refine gf_if_eq 44 dX12_spreads_38 rfl (fun zc38 => ?_) (fun zc38 => ?_)
      · refine gf_aload_n 0 dX12_spreads_44 rfl rfl ?_
        refine gf_getR flX12_186 rfl dX12_spreads_45 (gt_247 hG) (gp_247_76 hG) ?_
        refine gf_iload_n 3 dX12_spreads_48 rfl rfl ?_
        refine gf_aload_n 0 dX12_spreads_49 rfl rfl ?_
        refine gf_getR flX12_186 rfl dX12_spreads_50 (gt_247 hG) (gp_247_76 hG) ?_
        refine gf_iload_n 3 dX12_spreads_53 rfl rfl ?_
        refine gf_iald 120 dX12_spreads_54 (gt_301 hG) (gl_301 hG) rfl (by omega) (by decide) ?_
        refine gf_iconst (2) dX12_spreads_55 rfl ?_
        refine gf_icmp_ge 63 dX12_spreads_56 rfl (fun zc56 => ?_) (fun zc56 => ?_)
        · refine gf_aload_n 0 dX12_spreads_63 rfl rfl ?_
          refine gf_getR flX12_186 rfl dX12_spreads_64 (gt_247 hG) (gp_247_76 hG) ?_
          refine gf_iload_n 3 dX12_spreads_67 rfl rfl ?_
          refine gf_iald 120 dX12_spreads_68 (gt_301 hG) (gl_301 hG) rfl (by omega) (by decide) ?_
          refine gf_iconst (2) dX12_spreads_69 rfl ?_
          refine gf_isub dX12_spreads_70 ?_
          refine gf_iast 120 dX12_spreads_71 (gt_301 hG) (gl_301 hG) rfl (by omega) (by decide) ?_
          rw [mI_54]
          refine gf_iconst (0) dX12_spreads_72 rfl ?_
          refine gf_istore dX12_spreads_73 (Nat.le_of_ble_eq_true rfl) ?_
          refine gf_lw (l_spw E (by omega) t h hG (up2 (up2 z 58 jz 0) 54 jz (((up2 z 58 jz 0) 54 jz) - 2)) N (show mfi (up2 (up2 z 58 jz 0) 54 jz (((up2 z 58 jz 0) 54 jz) - 2)) w g from Iz) (show jz < w * g by omega) hw ?_ 8 0 (by omega)) ⟨rfl, rfl, rfl, rfl, rfl, trivial⟩
          have I2 : mfi (itN (spwB w g jz wd) (up2 (up2 z 58 jz 0) 54 jz (((up2 z 58 jz 0) 54 jz) - 2)) 8) w g := mfi_of (spw_row _ 8 (by decide)) (spw_row _ 8 (by decide)) (spw_row _ 8 (by decide)) (show mfi (up2 (up2 z 58 jz 0) 54 jz (((up2 z 58 jz 0) 54 jz) - 2)) w g from Iz)
          refine gf_aload_n 0 dX12_spreads_187 rfl rfl ?_
          refine gf_getR flX12_198 rfl dX12_spreads_188 (gt_247 hG) (gp_247_80 hG) ?_
          refine gf_iload_n 3 dX12_spreads_191 rfl rfl ?_
          refine gf_aload_n 0 dX12_spreads_192 rfl rfl ?_
          refine gf_getR flX12_186 rfl dX12_spreads_193 (gt_247 hG) (gp_247_76 hG) ?_
          refine gf_iload_n 3 dX12_spreads_196 rfl rfl ?_
          refine gf_iald 120 dX12_spreads_197 (gt_301 hG) (gl_301 hG) rfl (by omega) (by decide) ?_
          refine gf_aload_n 0 dX12_spreads_198 rfl rfl ?_
          refine gf_getR flX12_112 rfl dX12_spreads_199 (gt_247 hG) (gp_247_44 hG) ?_
          refine gf_iload_n 3 dX12_spreads_202 rfl rfl ?_
          refine gf_iald 120 dX12_spreads_203 (gt_278 hG) (gl_278 hG) rfl (by omega) (by decide) ?_
          refine gf_callS cmX12_resist lkX12_583 stX12_resist dX12_spreads_204 (d1 := d - 1) (by omega) (e_resW E (I2.2.1 jz (by omega)) _) rfl rfl (Nat.le_of_ble_eq_true rfl) ?_
          refine gf_icmp_lt 214 dX12_spreads_207 rfl (fun zc207 => ?_) (fun zc207 => ?_)
          · refine gf_iconst (0) dX12_spreads_214 rfl ?_
            refine gf_zast 120 dX12_spreads_215 (gt_305 hG) (gl_305 hG) rfl (by omega) (by decide) rfl ?_
            rw [mI_58]
            refine gf_iinc (1) dX12_spreads_216 rfl rfl (Nat.le_of_ble_eq_true rfl) ?_
            refine gf_goto 8 dX12_spreads_219 rfl ?_
            rw [show spcB w g wd z jz = (up2 (itN (spwB w g jz wd) (up2 (up2 z 58 jz 0) 54 jz (((up2 z 58 jz 0) 54 jz) - 2)) 8) 58 jz 0) from (if_neg zc29).trans ((if_pos zc38).trans ((if_pos zc56).trans (if_pos zc207)))] at ih1
            exact gf_lw ih1 ⟨rfl, rfl, rfl, lvE (nI_1 jz), trivial⟩
          · refine gf_iconst (1) dX12_spreads_210 rfl ?_
            refine gf_goto 215 dX12_spreads_211 rfl ?_
            refine gf_zast 120 dX12_spreads_215 (gt_305 hG) (gl_305 hG) rfl (by omega) (by decide) rfl ?_
            rw [mI_58]
            refine gf_iinc (1) dX12_spreads_216 rfl rfl (Nat.le_of_ble_eq_true rfl) ?_
            refine gf_goto 8 dX12_spreads_219 rfl ?_
            rw [show spcB w g wd z jz = (up2 (itN (spwB w g jz wd) (up2 (up2 z 58 jz 0) 54 jz (((up2 z 58 jz 0) 54 jz) - 2)) 8) 58 jz 1) from (if_neg zc29).trans ((if_pos zc38).trans ((if_pos zc56).trans (if_neg zc207)))] at ih1
            exact gf_lw ih1 ⟨rfl, rfl, rfl, lvE (nI_1 jz), trivial⟩
        · refine gf_iconst (0) dX12_spreads_59 rfl ?_
          refine gf_goto 71 dX12_spreads_60 rfl ?_
          refine gf_iast 120 dX12_spreads_71 (gt_301 hG) (gl_301 hG) rfl (by omega) (by decide) ?_
          rw [mI_54]
          refine gf_iconst (0) dX12_spreads_72 rfl ?_
          refine gf_istore dX12_spreads_73 (Nat.le_of_ble_eq_true rfl) ?_
          refine gf_lw (l_spw E (by omega) t h hG (up2 (up2 z 58 jz 0) 54 jz 0) N (show mfi (up2 (up2 z 58 jz 0) 54 jz 0) w g from Iz) (show jz < w * g by omega) hw ?_ 8 0 (by omega)) ⟨rfl, rfl, rfl, rfl, rfl, trivial⟩
          have I2 : mfi (itN (spwB w g jz wd) (up2 (up2 z 58 jz 0) 54 jz 0) 8) w g := mfi_of (spw_row _ 8 (by decide)) (spw_row _ 8 (by decide)) (spw_row _ 8 (by decide)) (show mfi (up2 (up2 z 58 jz 0) 54 jz 0) w g from Iz)
          refine gf_aload_n 0 dX12_spreads_187 rfl rfl ?_
          refine gf_getR flX12_198 rfl dX12_spreads_188 (gt_247 hG) (gp_247_80 hG) ?_
          refine gf_iload_n 3 dX12_spreads_191 rfl rfl ?_
          refine gf_aload_n 0 dX12_spreads_192 rfl rfl ?_
          refine gf_getR flX12_186 rfl dX12_spreads_193 (gt_247 hG) (gp_247_76 hG) ?_
          refine gf_iload_n 3 dX12_spreads_196 rfl rfl ?_
          refine gf_iald 120 dX12_spreads_197 (gt_301 hG) (gl_301 hG) rfl (by omega) (by decide) ?_
          refine gf_aload_n 0 dX12_spreads_198 rfl rfl ?_
          refine gf_getR flX12_112 rfl dX12_spreads_199 (gt_247 hG) (gp_247_44 hG) ?_
          refine gf_iload_n 3 dX12_spreads_202 rfl rfl ?_
          refine gf_iald 120 dX12_spreads_203 (gt_278 hG) (gl_278 hG) rfl (by omega) (by decide) ?_
          refine gf_callS cmX12_resist lkX12_583 stX12_resist dX12_spreads_204 (d1 := d - 1) (by omega) (e_resW E (I2.2.1 jz (by omega)) _) rfl rfl (Nat.le_of_ble_eq_true rfl) ?_
          refine gf_icmp_lt 214 dX12_spreads_207 rfl (fun zc207 => ?_) (fun zc207 => ?_)
          · refine gf_iconst (0) dX12_spreads_214 rfl ?_
            refine gf_zast 120 dX12_spreads_215 (gt_305 hG) (gl_305 hG) rfl (by omega) (by decide) rfl ?_
            rw [mI_58]
            refine gf_iinc (1) dX12_spreads_216 rfl rfl (Nat.le_of_ble_eq_true rfl) ?_
            refine gf_goto 8 dX12_spreads_219 rfl ?_
            rw [show spcB w g wd z jz = (up2 (itN (spwB w g jz wd) (up2 (up2 z 58 jz 0) 54 jz 0) 8) 58 jz 0) from (if_neg zc29).trans ((if_pos zc38).trans ((if_neg zc56).trans (if_pos zc207)))] at ih1
            exact gf_lw ih1 ⟨rfl, rfl, rfl, lvE (nI_1 jz), trivial⟩
          · refine gf_iconst (1) dX12_spreads_210 rfl ?_
            refine gf_goto 215 dX12_spreads_211 rfl ?_
            refine gf_zast 120 dX12_spreads_215 (gt_305 hG) (gl_305 hG) rfl (by omega) (by decide) rfl ?_
            rw [mI_58]
            refine gf_iinc (1) dX12_spreads_216 rfl rfl (Nat.le_of_ble_eq_true rfl) ?_
            refine gf_goto 8 dX12_spreads_219 rfl ?_
            rw [show spcB w g wd z jz = (up2 (itN (spwB w g jz wd) (up2 (up2 z 58 jz 0) 54 jz 0) 8) 58 jz 1) from (if_neg zc29).trans ((if_pos zc38).trans ((if_neg zc56).trans (if_neg zc207)))] at ih1
            exact gf_lw ih1 ⟨rfl, rfl, rfl, lvE (nI_1 jz), trivial⟩
      · refine gf_goto 216 dX12_spreads_41 rfl ?_
        refine gf_iinc (1) dX12_spreads_216 rfl rfl (Nat.le_of_ble_eq_true rfl) ?_
        refine gf_goto 8 dX12_spreads_219 rfl ?_
        rw [show spcB w g wd z jz = (up2 z 58 jz 0) from (if_neg zc29).trans (if_neg zc38)] at ih1
        exact gf_lw ih1 ⟨rfl, rfl, rfl, lvE (nI_1 jz), trivial⟩
def spkB (t : Int32) (z : mM) (jz : Nat) : mM := (if (z 58 jz) = 0 then z else (if ((up2 (up2 z 53 jz 1) 55 jz 1) 57 jz) = (-1) then (up2 (up2 (up2 z 53 jz 1) 55 jz 1) 57 jz t) else (up2 (up2 z 53 jz 1) 55 jz 1)))
theorem spkB_row {t : Int32} (z : mM) (jz : Nat) {r : Nat} (h3 : r ≠ 53) (h5 : r ≠ 55) (h7 : r ≠ 57) : spkB t z jz r = z r := by
  unfold spkB
  repeat' split
  all_goals first | rfl | simp only [up2_row h3, up2_row h5, up2_row h7]
theorem l_spk (E : gE) {d : Nat} (hd : 1 ≤ d) {w g wd : Nat} (t : Int32) (h : hp_T) (hG : gr h) (M : mM) (N : mN) (I : mfi M w g) {v : Option Value} {hz : hp_T} (K : gf E mX12_spreads d 281 [(0, .ref (E.1 + 247)), (1, .int t), (2, .int (nI wd)), (3, .int (nI (w * g)))] [] (hm h (itN (spkB t) M (w * g)) N) v hz) : ∀ (kz jz : Nat), jz + kz = (w * g) → gf E mX12_spreads d 224 [(0, .ref (E.1 + 247)), (1, .int t), (2, .int (nI wd)), (3, .int (nI jz))] [] (hm h (itN (spkB t) M jz) N) v hz := by
  obtain ⟨w1, w2, g1, g2⟩ := I.1.1
  have hn : w * g ≤ 120 := Nat.le_trans (Nat.mul_le_mul w2 g2) (by decide)
  intro kz
  induction kz with
  | zero =>
    intro jz hj
    have hj : (w * g) = jz := by omega
    subst hj
    have Iz : mfi (itN (spkB t) M (w * g)) w g := mfi_of (itN_row (fun z j => spkB_row z j (by decide) (by decide) (by decide)) M (w * g)) (itN_row (fun z j => spkB_row z j (by decide) (by decide) (by decide)) M (w * g)) (itN_row (fun z j => spkB_row z j (by decide) (by decide) (by decide)) M (w * g)) I
    generalize ez : (itN (spkB t) M (w * g)) = z at K Iz ⊢
    refine gf_iload_n 3 dX12_spreads_224 rfl rfl ?_
    refine gf_aload_n 0 dX12_spreads_225 rfl rfl ?_
    refine gf_callV cmX12_cells lkX12_409 imX12_cells seX12_cells ⟨rfl, by decide⟩ dX12_spreads_226 (d1 := d - 1) (by omega) (gt_247 hG) (e_X12_cells E (by omega) (hm h z N) hG) rfl rfl (Nat.le_of_ble_eq_true rfl) ?_
    rw [show hp_i (hm h z N) 247 42 * hp_i (hm h z N) 247 43 = nI (w * g) from cel_e (M := z) Iz.1]
    refine gf_icmp_ge 281 dX12_spreads_229 rfl (fun _ => ?_) (fun q => absurd (nI_le (by omega) (by omega)) q)
    exact gf_lw K ⟨rfl, rfl, rfl, rfl, trivial⟩
  | succ kz ih =>
    intro jz hj
    have ih1 := ih (jz + 1) (by omega)
    have Iz : mfi (itN (spkB t) M jz) w g := mfi_of (itN_row (fun z j => spkB_row z j (by decide) (by decide) (by decide)) M jz) (itN_row (fun z j => spkB_row z j (by decide) (by decide) (by decide)) M jz) (itN_row (fun z j => spkB_row z j (by decide) (by decide) (by decide)) M jz) I
    rw [show (itN (spkB t) M (jz + 1)) = spkB t (itN (spkB t) M jz) jz from itN_s _ _ _] at ih1
    generalize (itN (spkB t) M jz) = z at ih1 Iz ⊢
    refine gf_iload_n 3 dX12_spreads_224 rfl rfl ?_
    refine gf_aload_n 0 dX12_spreads_225 rfl rfl ?_
    refine gf_callV cmX12_cells lkX12_409 imX12_cells seX12_cells ⟨rfl, by decide⟩ dX12_spreads_226 (d1 := d - 1) (by omega) (gt_247 hG) (e_X12_cells E (by omega) (hm h z N) hG) rfl rfl (Nat.le_of_ble_eq_true rfl) ?_
    rw [show hp_i (hm h z N) 247 42 * hp_i (hm h z N) 247 43 = nI (w * g) from cel_e (M := z) Iz.1]
    refine gf_icmp_ge 281 dX12_spreads_229 rfl (fun q => absurd q (nI_ge (by omega) (by omega))) (fun _ => ?_)
    refine gf_aload_n 0 dX12_spreads_232 rfl rfl ?_
    refine gf_getR flX12_198 rfl dX12_spreads_233 (gt_247 hG) (gp_247_80 hG) ?_
    refine gf_iload_n 3 dX12_spreads_236 rfl rfl ?_
    refine gf_zald 120 dX12_spreads_237 (gt_305 hG) (gl_305 hG) rfl (by omega) (by decide) ?_
    refine gf_if_ne 244 dX12_spreads_238 rfl (fun zc238 => ?_) (fun zc238 => ?_)
    · refine gf_aload_n 0 dX12_spreads_244 rfl rfl ?_
      refine gf_getR flX12_183 rfl dX12_spreads_245 (gt_247 hG) (gp_247_75 hG) ?_
      refine gf_iload_n 3 dX12_spreads_248 rfl rfl ?_
      refine gf_iconst (1) dX12_spreads_249 rfl ?_
      refine gf_iast 120 dX12_spreads_250 (gt_300 hG) (gl_300 hG) rfl (by omega) (by decide) ?_
      rw [mI_53]
      refine gf_aload_n 0 dX12_spreads_251 rfl rfl ?_
      refine gf_getR flX12_189 rfl dX12_spreads_252 (gt_247 hG) (gp_247_77 hG) ?_
      refine gf_iload_n 3 dX12_spreads_255 rfl rfl ?_
      refine gf_iconst (1) dX12_spreads_256 rfl ?_
      refine gf_iast 120 dX12_spreads_257 (gt_302 hG) (gl_302 hG) rfl (by omega) (by decide) ?_
      rw [mI_55]
      refine gf_aload_n 0 dX12_spreads_258 rfl rfl ?_
      refine gf_getR flX12_195 rfl dX12_spreads_259 (gt_247 hG) (gp_247_79 hG) ?_
      refine gf_iload_n 3 dX12_spreads_262 rfl rfl ?_
      refine gf_iald 120 dX12_spreads_263 (gt_304 hG) (gl_304 hG) rfl (by omega) (by decide) ?_
      refine gf_iconst (-1) dX12_spreads_264 rfl ?_
      refine gf_icmp_ne 275 dX12_spreads_265 rfl (fun zc265 => ?_) (fun zc265 => ?_)
      · refine gf_iinc (1) dX12_spreads_275 rfl rfl (Nat.le_of_ble_eq_true rfl) ?_
        refine gf_goto 224 dX12_spreads_278 rfl ?_
        rw [show spkB t z jz = (up2 (up2 z 53 jz 1) 55 jz 1) from (if_neg zc238).trans (if_neg zc265)] at ih1
        exact gf_lw ih1 ⟨rfl, rfl, rfl, lvE (nI_1 jz), trivial⟩
      · refine gf_aload_n 0 dX12_spreads_268 rfl rfl ?_
        refine gf_getR flX12_195 rfl dX12_spreads_269 (gt_247 hG) (gp_247_79 hG) ?_
        refine gf_iload_n 3 dX12_spreads_272 rfl rfl ?_
        refine gf_iload_n 1 dX12_spreads_273 rfl rfl ?_
        refine gf_iast 120 dX12_spreads_274 (gt_304 hG) (gl_304 hG) rfl (by omega) (by decide) ?_
        rw [mI_57]
        refine gf_iinc (1) dX12_spreads_275 rfl rfl (Nat.le_of_ble_eq_true rfl) ?_
        refine gf_goto 224 dX12_spreads_278 rfl ?_
        rw [show spkB t z jz = (up2 (up2 (up2 z 53 jz 1) 55 jz 1) 57 jz t) from (if_neg zc238).trans (if_pos zc265)] at ih1
        exact gf_lw ih1 ⟨rfl, rfl, rfl, lvE (nI_1 jz), trivial⟩
    · refine gf_goto 275 dX12_spreads_241 rfl ?_
      refine gf_iinc (1) dX12_spreads_275 rfl rfl (Nat.le_of_ble_eq_true rfl) ?_
      refine gf_goto 224 dX12_spreads_278 rfl ?_
      rw [show spkB t z jz = z from if_pos zc238] at ih1
      exact gf_lw ih1 ⟨rfl, rfl, rfl, lvE (nI_1 jz), trivial⟩
def msprX (w g t : Nat) (M : mM) : mM := itN (spkB (nI t)) (itN (spcB w g (mwS M t)) M (w * g)) (w * g)
theorem mwS_le (M : mM) : ∀ k, mwS M k ≤ k
  | 0 => Nat.le_refl _
  | k + 1 => by
    unfold mwS
    split
    · exact Nat.le_succ_of_le (mwS_le M k)
    · exact Nat.le_refl _
theorem spc_mfi {w g wd : Nat} {M : mM} (I : mfi M w g) (n : Nat) : mfi (itN (spcB w g wd) M n) w g := mfi_of (itN_row (fun z j => spcB_row z j (by decide) (by decide)) M n) (itN_row (fun z j => spcB_row z j (by decide) (by decide)) M n) (itN_row (fun z j => spcB_row z j (by decide) (by decide)) M n) I
theorem mspr_row (w g t : Nat) (M : mM) {r : Nat} (h3 : r ≠ 53) (h4 : r ≠ 54) (h5 : r ≠ 55) (h7 : r ≠ 57) (h8 : r ≠ 58) : msprX w g t M r = M r := (itN_row (fun z j => spkB_row z j h3 h5 h7) _ _).trans (itN_row (fun z j => spcB_row z j h4 h8) _ _)
theorem e_X12_spreads (E : gE) {d : Nat} (hd : 4 ≤ d) {w g t : Nat} (h : hp_T) (hG : gr h) (M : mM) (N : mN) (I : mfi M w g) (ht : t ≤ 120) : ev E mX12_spreads d [.ref (E.1 + 247), .int (nI t)] (hm h M N) none (hm h (msprX w g t M) N) := by
  refine ev_of rfl (fun q => absurd q (by decide)) (Nat.le_of_ble_eq_true rfl) ?_
  have hw : mwS M t ≤ 120 := Nat.le_trans (mwS_le M t) ht
  refine gf_aload_n 0 dX12_spreads_0 rfl rfl ?_
  refine gf_iload_n 1 dX12_spreads_1 rfl rfl ?_
  refine gf_callV cmX12_windOf lkX12_580 imX12_windOf seX12_windOf ⟨rfl, by decide⟩ dX12_spreads_2 (d1 := d - 1) (by omega) (gt_247 hG) (e_X12_windOf E (by omega) h hG M N (show t ≤ 120 by omega)) rfl rfl (Nat.le_of_ble_eq_true rfl) ?_
  refine gf_istore_n 2 dX12_spreads_5 rfl (Nat.le_of_ble_eq_true rfl) ?_
  refine gf_iconst (0) dX12_spreads_6 rfl ?_
  refine gf_istore_n 3 dX12_spreads_7 rfl (Nat.le_of_ble_eq_true rfl) ?_
  refine gf_lw (l_spc E (by omega) (nI t) h hG M N I hw ?_ (w * g) 0 (by omega)) ⟨rfl, rfl, rfl, rfl, trivial⟩
  refine gf_iconst (0) dX12_spreads_222 rfl ?_
  refine gf_istore_n 3 dX12_spreads_223 rfl (Nat.le_of_ble_eq_true rfl) ?_
  refine gf_lw (l_spk E (by omega) (nI t) h hG (itN (spcB w g (mwS M t)) M (w * g)) N (spc_mfi I (w * g)) ?_ (w * g) 0 (by omega)) ⟨rfl, rfl, rfl, rfl, trivial⟩
  exact gf_vretE dX12_spreads_281 rfl (rfl)
