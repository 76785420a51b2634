/-! ===== the class: terms as an object; a statement worked out ===== -/
/-- the terms at b: n statements, L codes -/
def trm (h : hp_T) (b n L : Nat) (cd kd fr : Nat → Int32) : Prop := hp_tag h b = 10 ∧ hp_i h b 0 = nI n ∧ n ≤ 24 ∧ L ≤ 600 ∧ 333 ≤ b ∧ ∃ ca ka fa : Nat, (333 ≤ ca ∧ 333 ≤ ka ∧ 333 ≤ fa) ∧ (hp_r h b 1 = some ca ∧ hp_r h b 2 = some ka ∧ hp_r h b 3 = some fa) ∧ (hp_tag h ca = 14 ∧ hp_len h ca = L ∧ hp_i h ca = cd) ∧ (hp_tag h ka = 14 ∧ hp_len h ka = n ∧ hp_i h ka = kd) ∧ (hp_tag h fa = 14 ∧ hp_len h fa = n + 1 ∧ hp_i h fa = fr) ∧ (∀ j, j < n → ∃ x y, x ≤ y ∧ y ≤ L ∧ fr j = nI x ∧ fr (j + 1) = nI y) ∧ (∀ j, j < L → 0 ≤ cd j) ∧ (hp_i h b 4 = -1 ∨ ∃ j, j < n ∧ hp_i h b 4 = nI j) ∧ (hp_i h b 5 = -1 ∨ ∃ j, j < n ∧ hp_i h b 5 = nI j)
theorem hk_hi (h : hp_T) (S : kS) {a : Nat} (ha : 333 ≤ a) : hp_i (hk h S) a = hp_i h a := if_neg (by omega)
theorem hk_hr (h : hp_T) (S : kS) {a : Nat} (ha : 333 ≤ a) : hp_r (hk h S) a = hp_r h a := if_neg (by omega)
/-- one code -/
def vofB (F : Nat → Int32) (off : Int32) (cd : Nat → Int32) (W : Nat × (Nat → Int32)) (i : Nat) : Nat × (Nat → Int32) :=
  if cd i &&& 127 = 11 ∧ 1 ≤ W.1 then (W.1, va_up W.2 (W.1 - 1) (1 - W.2 (W.1 - 1)))
  else if (40 ≤ cd i &&& 127 ∨ cd i &&& 127 = 7 ∨ cd i &&& 127 = 8 ∨ cd i &&& 127 = 12 ∨ cd i &&& 127 = 13) ∧ 2 ≤ W.1 then (W.1 - 1, va_up W.2 (W.1 - 2) (clpV (jnV (cd i &&& 127) (W.2 (W.1 - 2)) (W.2 (W.1 - 1)))))
  else if W.1 < 64 then (W.1 + 1, va_up W.2 W.1 (sngV F off (cd i &&& 127) (cd i >>> (7 &&& 31)))) else W
def vofN (F : Nat → Int32) (off : Int32) (cd : Nat → Int32) (w0 : Nat → Int32) (a n : Nat) : Nat × (Nat → Int32) := itN (fun W k => vofB F off cd W (a + k)) (0, w0) n
def vofV (W : Nat × (Nat → Int32)) : Int32 := if 0 < W.1 then W.2 0 else 0
theorem vofB_le {F : Nat → Int32} {off : Int32} {cd : Nat → Int32} {W : Nat × (Nat → Int32)} {i : Nat} (h : W.1 ≤ 64) : (vofB F off cd W i).1 ≤ 64 := by
  unfold vofB
  split
  · exact h
  · split
    · show W.1 - 1 ≤ 64
      omega
    · split
      · show W.1 + 1 ≤ 64
        omega
      · exact h
theorem vofN_le (F : Nat → Int32) (off : Int32) (cd : Nat → Int32) (w0 : Nat → Int32) (a : Nat) : ∀ n, (vofN F off cd w0 a n).1 ≤ 64
  | 0 => Nat.zero_le _
  | n + 1 => vofB_le (vofN_le F off cd w0 a n)
/-- a statement of the terms -/
def vof (S : kS) (cd : Nat → Int32) (x y : Nat) : Nat × (Nat → Int32) := vofN (S.1 7) (S.1 6 4) cd (S.1 8) x (y - x)
theorem upr_up (X : Nat → Nat → Int32) (o : Nat) (f : Nat → Int32) (k : Nat) (v : Int32) : up2 (upr X o f) o k v = upr X o (va_up f k v) := by
  funext x i
  by_cases e : x = o
  · subst e
    simp [up2, upr, va_up]
  · simp [up2, upr, e]
theorem upr_id (X : Nat → Nat → Int32) (o : Nat) : upr X o (X o) = X := by
  funext x
  by_cases e : x = o
  · rw [e]; exact if_pos rfl
  · exact if_neg e
theorem pk_m1b {n : Nat} (h : 2 ≤ n) : nI n + (-1) = nI (n - 1) := by
  obtain ⟨q, rfl⟩ : ∃ q, n = q + 1 := ⟨n - 1, by omega⟩
  exact pk_m1 q
theorem l_X6_valueOf (E : gE) {d : Nat} (hd : 2 ≤ d) {b L i x m ca : Nat} {cd : Nat → Int32} (h : hp_T) (hG : gr h) (S : kS) (hTb : hp_tag h b = 10) (hR1 : ∀ Z : kS, hp_r (hk h Z) b 1 = some ca) (hca : hp_tag h ca = 14 ∧ hp_len h ca = L ∧ hp_i h ca = cd) (hcai : ∀ Z : kS, hp_i (hk h Z) ca = cd) (hxL : x + m ≤ L) (hL6 : L ≤ 600) (hcd : ∀ j, j < L → 0 ≤ cd j) {v : Option Value} {hz : hp_T} (K : gf E mX6_valueOf d 181 [(0, .ref (E.1 + 171)), (1, .ref (E.1 + b)), (2, .int (nI i)), (3, .int (nI (vofN (S.1 7) (S.1 6 4) cd (S.1 8) x (m)).1)), (4, .int (nI (x + m))), (5, .int (nI (x + (m))))] [] (hk h (upr S.1 8 ((vofN (S.1 7) (S.1 6 4) cd (S.1 8) x (m))).2, S.2)) v hz) : ∀ (kz jz : Nat), jz + kz = m → gf E mX6_valueOf d 44 [(0, .ref (E.1 + 171)), (1, .ref (E.1 + b)), (2, .int (nI i)), (3, .int (nI (vofN (S.1 7) (S.1 6 4) cd (S.1 8) x (jz)).1)), (4, .int (nI (x + m))), (5, .int (nI (x + (jz))))] [] (hk h (upr S.1 8 ((vofN (S.1 7) (S.1 6 4) cd (S.1 8) x (jz))).2, S.2)) v hz := by
  intro kz
  induction kz with
  | zero =>
    intro jz hj
    have hj : m = jz := by omega
    subst hj
    refine gf_iload dX6_valueOf_44 rfl ?_
    refine gf_iload dX6_valueOf_46 rfl ?_
    refine gf_icmp_ge 181 dX6_valueOf_48 rfl (fun _ => ?_) (fun q => absurd (nI_le (Nat.le_refl _) (by omega)) q)
    exact gf_lw K ⟨rfl, rfl, rfl, rfl, rfl, rfl, trivial⟩
  | succ kz ih =>
    intro jz hj
    have hW := vofN_le (S.1 7) (S.1 6 4) cd (S.1 8) x jz
    have ih := ih (jz + 1) (by omega)
    rw [show vofN (S.1 7) (S.1 6 4) cd (S.1 8) x (jz + 1) = vofB (S.1 7) (S.1 6 4) cd (vofN (S.1 7) (S.1 6 4) cd (S.1 8) x (jz)) (x + jz) from rfl] at ih
    generalize (vofN (S.1 7) (S.1 6 4) cd (S.1 8) x (jz)) = W at hW ih ⊢
    have hc0 : 0 ≤ cd (x + jz) := hcd _ (by omega)
    have htk : 0 ≤ cd (x + jz) &&& 127 := by
      obtain ⟨q, hq, e⟩ := pk_andE (cd (x + jz)) (m := 127) 7 (by decide)
      rw [e]; exact nI_pos' (by omega)
    refine gf_iload dX6_valueOf_44 rfl ?_
    refine gf_iload dX6_valueOf_46 rfl ?_
    refine gf_icmp_ge 181 dX6_valueOf_48 rfl (fun q => absurd q (nI_ge (by omega) (by omega))) (fun _ => ?_)
    refine gf_aload_n 1 dX6_valueOf_51 rfl rfl ?_
    refine gf_getR flX6_116 rfl dX6_valueOf_52 hTb (hR1 _) ?_
    refine gf_iload dX6_valueOf_55 rfl ?_
    refine gf_iald L dX6_valueOf_57 hca.1 hca.2.1 rfl (by omega) (by omega) ?_
    rw [hcai]
    refine gf_bipush (127) dX6_valueOf_58 rfl ?_
    refine gf_iand dX6_valueOf_60 ?_
    refine gf_istore dX6_valueOf_61 (Nat.le_of_ble_eq_true rfl) ?_
    refine gf_iload dX6_valueOf_63 rfl ?_
    refine gf_bipush (11) dX6_valueOf_65 rfl ?_
    refine gf_icmp_ne 96 dX6_valueOf_67 rfl (fun zc67 => ?_) (fun zc67 => ?_)
    · refine gf_iload dX6_valueOf_96 rfl ?_
      refine gf_callS cmX6_isJoin lkX6_119 stX6_isJoin dX6_valueOf_98 (d1 := d - 1) (by omega) (e_X6_isJoin E (by omega) (cd (x + jz) &&& 127) _) rfl rfl (Nat.le_of_ble_eq_true rfl) ?_
      refine gf_if_eq 144 dX6_valueOf_101 rfl (fun zc101 => ?_) (fun zc101 => ?_)
      · refine gf_iload_n 3 dX6_valueOf_144 rfl rfl ?_
        refine gf_bipush (64) dX6_valueOf_145 rfl ?_
        refine gf_icmp_ge 175 dX6_valueOf_147 rfl (fun zc147 => ?_) (fun zc147 => ?_)
        · have h64 : ¬ W.1 < 64 := fun q => absurd (nI_lt (b := 64) q (by omega)) (by have z := zc147; rw [fa_le] at z; rw [fa_lt]; exact Int.not_lt.mpr z)
          refine gf_iinc (1) dX6_valueOf_175 rfl rfl (Nat.le_of_ble_eq_true rfl) ?_
          refine gf_goto 44 dX6_valueOf_178 rfl ?_
          rw [show vofB (S.1 7) (S.1 6 4) cd W (x + jz) = W from ((if_neg (fun q => zc67 q.1)).trans ((if_neg (fun q => zb_0.mp zc101 q.1)).trans (if_neg h64)))] at ih
          exact gf_lw ih ⟨rfl, rfl, rfl, rfl, rfl, lvE (nI_1 (x + jz)), trivial⟩
        · have h64 : W.1 < 64 := by rcases Nat.lt_or_ge W.1 64 with q | q; exact q; exact absurd (nI_le (a := 64) q (by omega)) zc147
          refine gf_aload_n 0 dX6_valueOf_150 rfl rfl ?_
          refine gf_getR flX6_15 rfl dX6_valueOf_151 (gt_171 (gr_k _ hG)) (gp_171_3 (gr_k _ hG)) ?_
          refine gf_iload_n 3 dX6_valueOf_154 rfl rfl ?_
          refine gf_aload_n 0 dX6_valueOf_155 rfl rfl ?_
          refine gf_iload dX6_valueOf_156 rfl ?_
          refine gf_aload_n 1 dX6_valueOf_158 rfl rfl ?_
          refine gf_getR flX6_116 rfl dX6_valueOf_159 hTb (hR1 _) ?_
          refine gf_iload dX6_valueOf_162 rfl ?_
          refine gf_iald L dX6_valueOf_164 hca.1 hca.2.1 rfl (by omega) (by omega) ?_
          rw [hcai]
          refine gf_bipush (7) dX6_valueOf_165 rfl ?_
          refine gf_ishr dX6_valueOf_167 ?_
          refine gf_callV cmX6_single lkX6_127 imX6_single seX6_single ⟨rfl, by decide⟩ dX6_valueOf_168 (d1 := d - 1) (by omega) (gt_171 (gr_k _ hG)) (e_X6_single E (by omega) (cd (x + jz) &&& 127) (cd (x + jz) >>> (7 &&& 31)) (hk h (upr S.1 8 W.2, S.2)) (gr_k _ hG) htk) rfl rfl (Nat.le_of_ble_eq_true rfl) ?_
          refine gf_iast 64 dX6_valueOf_171 (gt_173 (gr_k _ hG)) (gl_173 (gr_k _ hG)) rfl h64 (by decide) ?_
          rw [hk_8]
          rw [show up2 (upr S.1 8 W.2) 8 W.1 (sngV (hp_i (hk h (upr S.1 8 W.2, S.2)) 172) (hp_i (hk h (upr S.1 8 W.2, S.2)) 171 4) (cd (x + jz) &&& 127) (cd (x + jz) >>> (7 &&& 31))) = upr S.1 8 (va_up W.2 W.1 (sngV (S.1 7) (S.1 6 4) (cd (x + jz) &&& 127) (cd (x + jz) >>> (7 &&& 31)))) from upr_up _ _ _ _ _]
          refine gf_iinc (1) dX6_valueOf_172 rfl rfl (Nat.le_of_ble_eq_true rfl) ?_
          refine gf_iinc (1) dX6_valueOf_175 rfl rfl (Nat.le_of_ble_eq_true rfl) ?_
          refine gf_goto 44 dX6_valueOf_178 rfl ?_
          rw [show vofB (S.1 7) (S.1 6 4) cd W (x + jz) = (W.1 + 1, va_up W.2 W.1 (sngV (S.1 7) (S.1 6 4) (cd (x + jz) &&& 127) (cd (x + jz) >>> (7 &&& 31)))) from ((if_neg (fun q => zc67 q.1)).trans ((if_neg (fun q => zb_0.mp zc101 q.1)).trans (if_pos h64)))] at ih
          exact gf_lw ih ⟨rfl, rfl, rfl, lvE (nI_1 _), rfl, lvE (nI_1 (x + jz)), trivial⟩
      · refine gf_iload_n 3 dX6_valueOf_104 rfl rfl ?_
        refine gf_iconst (2) dX6_valueOf_105 rfl ?_
        refine gf_icmp_lt 144 dX6_valueOf_106 rfl (fun zc106 => ?_) (fun zc106 => ?_)
        · have h2W : ¬ 2 ≤ W.1 := fun q => absurd zc106 (nI_nlt (b := 2) q (by omega))
          refine gf_iload_n 3 dX6_valueOf_144 rfl rfl ?_
          refine gf_bipush (64) dX6_valueOf_145 rfl ?_
          refine gf_icmp_ge 175 dX6_valueOf_147 rfl (fun zc147 => ?_) (fun zc147 => ?_)
          · have h64 : ¬ W.1 < 64 := fun q => absurd (nI_lt (b := 64) q (by omega)) (by have z := zc147; rw [fa_le] at z; rw [fa_lt]; exact Int.not_lt.mpr z)
            refine gf_iinc (1) dX6_valueOf_175 rfl rfl (Nat.le_of_ble_eq_true rfl) ?_
            refine gf_goto 44 dX6_valueOf_178 rfl ?_
            rw [show vofB (S.1 7) (S.1 6 4) cd W (x + jz) = W from ((if_neg (fun q => zc67 q.1)).trans ((if_neg (fun q => h2W q.2)).trans (if_neg h64)))] at ih
            exact gf_lw ih ⟨rfl, rfl, rfl, rfl, rfl, lvE (nI_1 (x + jz)), trivial⟩
          · have h64 : W.1 < 64 := by rcases Nat.lt_or_ge W.1 64 with q | q; exact q; exact absurd (nI_le (a := 64) q (by omega)) zc147
            refine gf_aload_n 0 dX6_valueOf_150 rfl rfl ?_
            refine gf_getR flX6_15 rfl dX6_valueOf_151 (gt_171 (gr_k _ hG)) (gp_171_3 (gr_k _ hG)) ?_
            refine gf_iload_n 3 dX6_valueOf_154 rfl rfl ?_
            refine gf_aload_n 0 dX6_valueOf_155 rfl rfl ?_
            refine gf_iload dX6_valueOf_156 rfl ?_
            refine gf_aload_n 1 dX6_valueOf_158 rfl rfl ?_
            refine gf_getR flX6_116 rfl dX6_valueOf_159 hTb (hR1 _) ?_
            refine gf_iload dX6_valueOf_162 rfl ?_
            refine gf_iald L dX6_valueOf_164 hca.1 hca.2.1 rfl (by omega) (by omega) ?_
            rw [hcai]
            refine gf_bipush (7) dX6_valueOf_165 rfl ?_
            refine gf_ishr dX6_valueOf_167 ?_
            refine gf_callV cmX6_single lkX6_127 imX6_single seX6_single ⟨rfl, by decide⟩ dX6_valueOf_168 (d1 := d - 1) (by omega) (gt_171 (gr_k _ hG)) (e_X6_single E (by omega) (cd (x + jz) &&& 127) (cd (x + jz) >>> (7 &&& 31)) (hk h (upr S.1 8 W.2, S.2)) (gr_k _ hG) htk) rfl rfl (Nat.le_of_ble_eq_true rfl) ?_
            refine gf_iast 64 dX6_valueOf_171 (gt_173 (gr_k _ hG)) (gl_173 (gr_k _ hG)) rfl h64 (by decide) ?_
            rw [hk_8]
            rw [show up2 (upr S.1 8 W.2) 8 W.1 (sngV (hp_i (hk h (upr S.1 8 W.2, S.2)) 172) (hp_i (hk h (upr S.1 8 W.2, S.2)) 171 4) (cd (x + jz) &&& 127) (cd (x + jz) >>> (7 &&& 31))) = upr S.1 8 (va_up W.2 W.1 (sngV (S.1 7) (S.1 6 4) (cd (x + jz) &&& 127) (cd (x + jz) >>> (7 &&& 31)))) from upr_up _ _ _ _ _]
            refine gf_iinc (1) dX6_valueOf_172 rfl rfl (Nat.le_of_ble_eq_true rfl) ?_
            refine gf_iinc (1) dX6_valueOf_175 rfl rfl (Nat.le_of_ble_eq_true rfl) ?_
            refine gf_goto 44 dX6_valueOf_178 rfl ?_
            rw [show vofB (S.1 7) (S.1 6 4) cd W (x + jz) = (W.1 + 1, va_up W.2 W.1 (sngV (S.1 7) (S.1 6 4) (cd (x + jz) &&& 127) (cd (x + jz) >>> (7 &&& 31)))) from ((if_neg (fun q => zc67 q.1)).trans ((if_neg (fun q => h2W q.2)).trans (if_pos h64)))] at ih
            exact gf_lw ih ⟨rfl, rfl, rfl, lvE (nI_1 _), rfl, lvE (nI_1 (x + jz)), trivial⟩
        · have h2W : 2 ≤ W.1 := by rcases Nat.lt_or_ge W.1 2 with q | q; exact absurd (nI_lt (b := 2) q (by omega)) zc106; exact q
          refine gf_aload_n 0 dX6_valueOf_109 rfl rfl ?_
          refine gf_getR flX6_15 rfl dX6_valueOf_110 (gt_171 (gr_k _ hG)) (gp_171_3 (gr_k _ hG)) ?_
          refine gf_iload_n 3 dX6_valueOf_113 rfl rfl ?_
          refine gf_iconst (2) dX6_valueOf_114 rfl ?_
          refine gf_isub dX6_valueOf_115 ?_
          refine gf_iload dX6_valueOf_116 rfl ?_
          refine gf_aload_n 0 dX6_valueOf_118 rfl rfl ?_
          refine gf_getR flX6_15 rfl dX6_valueOf_119 (gt_171 (gr_k _ hG)) (gp_171_3 (gr_k _ hG)) ?_
          refine gf_iload_n 3 dX6_valueOf_122 rfl rfl ?_
          refine gf_iconst (2) dX6_valueOf_123 rfl ?_
          refine gf_isub dX6_valueOf_124 ?_
          refine gf_iald 64 dX6_valueOf_125 (gt_173 (gr_k _ hG)) (gl_173 (gr_k _ hG)) (pk_sub (b := 2) h2W) (by omega) (by decide) ?_
          refine gf_aload_n 0 dX6_valueOf_126 rfl rfl ?_
          refine gf_getR flX6_15 rfl dX6_valueOf_127 (gt_171 (gr_k _ hG)) (gp_171_3 (gr_k _ hG)) ?_
          refine gf_iload_n 3 dX6_valueOf_130 rfl rfl ?_
          refine gf_iconst (1) dX6_valueOf_131 rfl ?_
          refine gf_isub dX6_valueOf_132 ?_
          refine gf_iald 64 dX6_valueOf_133 (gt_173 (gr_k _ hG)) (gl_173 (gr_k _ hG)) (pk_sub (b := 1) (by omega)) (by omega) (by decide) ?_
          refine gf_callS cmX6_joined lkX6_123 stX6_joined dX6_valueOf_134 (d1 := d - 1) (by omega) (e_X6_joined E (by omega) _ _ _ _) rfl rfl (Nat.le_of_ble_eq_true rfl) ?_
          refine gf_iast 64 dX6_valueOf_137 (gt_173 (gr_k _ hG)) (gl_173 (gr_k _ hG)) (pk_sub (b := 2) h2W) (by omega) (by decide) ?_
          rw [hk_8]
          rw [show up2 (upr S.1 8 W.2) 8 (W.1 - 2) (clpV (jnV (cd (x + jz) &&& 127) (hp_i (hk h (upr S.1 8 W.2, S.2)) 173 (W.1 - 2)) (hp_i (hk h (upr S.1 8 W.2, S.2)) 173 (W.1 - 1)))) = upr S.1 8 (va_up W.2 (W.1 - 2) (clpV (jnV (cd (x + jz) &&& 127) (W.2 (W.1 - 2)) (W.2 (W.1 - 1))))) from upr_up _ _ _ _ _]
          refine gf_iinc (-1) dX6_valueOf_138 rfl rfl (Nat.le_of_ble_eq_true rfl) ?_
          refine gf_goto 175 dX6_valueOf_141 rfl ?_
          refine gf_iinc (1) dX6_valueOf_175 rfl rfl (Nat.le_of_ble_eq_true rfl) ?_
          refine gf_goto 44 dX6_valueOf_178 rfl ?_
          rw [show vofB (S.1 7) (S.1 6 4) cd W (x + jz) = (W.1 - 1, va_up W.2 (W.1 - 2) (clpV (jnV (cd (x + jz) &&& 127) (W.2 (W.1 - 2)) (W.2 (W.1 - 1))))) from ((if_neg (fun q => zc67 q.1)).trans (if_pos ⟨zb_1.mp zc101, h2W⟩))] at ih
          exact gf_lw ih ⟨rfl, rfl, rfl, lvE (pk_m1b h2W), rfl, lvE (nI_1 (x + jz)), trivial⟩
    · refine gf_iload_n 3 dX6_valueOf_70 rfl rfl ?_
      refine gf_iconst (1) dX6_valueOf_71 rfl ?_
      refine gf_icmp_lt 96 dX6_valueOf_72 rfl (fun zc72 => ?_) (fun zc72 => ?_)
      · have h1W : ¬ 1 ≤ W.1 := fun q => absurd zc72 (nI_nlt (b := 1) q (by omega))
        refine gf_iload dX6_valueOf_96 rfl ?_
        refine gf_callS cmX6_isJoin lkX6_119 stX6_isJoin dX6_valueOf_98 (d1 := d - 1) (by omega) (e_X6_isJoin E (by omega) (cd (x + jz) &&& 127) _) rfl rfl (Nat.le_of_ble_eq_true rfl) ?_
        refine gf_if_eq 144 dX6_valueOf_101 rfl (fun zc101 => ?_) (fun zc101 => ?_)
        · refine gf_iload_n 3 dX6_valueOf_144 rfl rfl ?_
          refine gf_bipush (64) dX6_valueOf_145 rfl ?_
          refine gf_icmp_ge 175 dX6_valueOf_147 rfl (fun zc147 => ?_) (fun zc147 => ?_)
          · have h64 : ¬ W.1 < 64 := fun q => absurd (nI_lt (b := 64) q (by omega)) (by have z := zc147; rw [fa_le] at z; rw [fa_lt]; exact Int.not_lt.mpr z)
            refine gf_iinc (1) dX6_valueOf_175 rfl rfl (Nat.le_of_ble_eq_true rfl) ?_
            refine gf_goto 44 dX6_valueOf_178 rfl ?_
            rw [show vofB (S.1 7) (S.1 6 4) cd W (x + jz) = W from ((if_neg (fun q => h1W q.2)).trans ((if_neg (fun q => zb_0.mp zc101 q.1)).trans (if_neg h64)))] at ih
            exact gf_lw ih ⟨rfl, rfl, rfl, rfl, rfl, lvE (nI_1 (x + jz)), trivial⟩
          · have h64 : W.1 < 64 := by rcases Nat.lt_or_ge W.1 64 with q | q; exact q; exact absurd (nI_le (a := 64) q (by omega)) zc147
            refine gf_aload_n 0 dX6_valueOf_150 rfl rfl ?_
            refine gf_getR flX6_15 rfl dX6_valueOf_151 (gt_171 (gr_k _ hG)) (gp_171_3 (gr_k _ hG)) ?_
            refine gf_iload_n 3 dX6_valueOf_154 rfl rfl ?_
            refine gf_aload_n 0 dX6_valueOf_155 rfl rfl ?_
            refine gf_iload dX6_valueOf_156 rfl ?_
            refine gf_aload_n 1 dX6_valueOf_158 rfl rfl ?_
            refine gf_getR flX6_116 rfl dX6_valueOf_159 hTb (hR1 _) ?_
            refine gf_iload dX6_valueOf_162 rfl ?_
            refine gf_iald L dX6_valueOf_164 hca.1 hca.2.1 rfl (by omega) (by omega) ?_
            rw [hcai]
            refine gf_bipush (7) dX6_valueOf_165 rfl ?_
            refine gf_ishr dX6_valueOf_167 ?_
            refine gf_callV cmX6_single lkX6_127 imX6_single seX6_single ⟨rfl, by decide⟩ dX6_valueOf_168 (d1 := d - 1) (by omega) (gt_171 (gr_k _ hG)) (e_X6_single E (by omega) (cd (x + jz) &&& 127) (cd (x + jz) >>> (7 &&& 31)) (hk h (upr S.1 8 W.2, S.2)) (gr_k _ hG) htk) rfl rfl (Nat.le_of_ble_eq_true rfl) ?_
            refine gf_iast 64 dX6_valueOf_171 (gt_173 (gr_k _ hG)) (gl_173 (gr_k _ hG)) rfl h64 (by decide) ?_
            rw [hk_8]
            rw [show up2 (upr S.1 8 W.2) 8 W.1 (sngV (hp_i (hk h (upr S.1 8 W.2, S.2)) 172) (hp_i (hk h (upr S.1 8 W.2, S.2)) 171 4) (cd (x + jz) &&& 127) (cd (x + jz) >>> (7 &&& 31))) = upr S.1 8 (va_up W.2 W.1 (sngV (S.1 7) (S.1 6 4) (cd (x + jz) &&& 127) (cd (x + jz) >>> (7 &&& 31)))) from upr_up _ _ _ _ _]
            refine gf_iinc (1) dX6_valueOf_172 rfl rfl (Nat.le_of_ble_eq_true rfl) ?_
            refine gf_iinc (1) dX6_valueOf_175 rfl rfl (Nat.le_of_ble_eq_true rfl) ?_
            refine gf_goto 44 dX6_valueOf_178 rfl ?_
            rw [show vofB (S.1 7) (S.1 6 4) cd W (x + jz) = (W.1 + 1, va_up W.2 W.1 (sngV (S.1 7) (S.1 6 4) (cd (x + jz) &&& 127) (cd (x + jz) >>> (7 &&& 31)))) from ((if_neg (fun q => h1W q.2)).trans ((if_neg (fun q => zb_0.mp zc101 q.1)).trans (if_pos h64)))] at ih
            exact gf_lw ih ⟨rfl, rfl, rfl, lvE (nI_1 _), rfl, lvE (nI_1 (x + jz)), trivial⟩
        · refine gf_iload_n 3 dX6_valueOf_104 rfl rfl ?_
          refine gf_iconst (2) dX6_valueOf_105 rfl ?_
          refine gf_icmp_lt 144 dX6_valueOf_106 rfl (fun zc106 => ?_) (fun zc106 => ?_)
          · have h2W : ¬ 2 ≤ W.1 := fun q => absurd zc106 (nI_nlt (b := 2) q (by omega))
            refine gf_iload_n 3 dX6_valueOf_144 rfl rfl ?_
            refine gf_bipush (64) dX6_valueOf_145 rfl ?_
            refine gf_icmp_ge 175 dX6_valueOf_147 rfl (fun zc147 => ?_) (fun zc147 => ?_)
            · have h64 : ¬ W.1 < 64 := fun q => absurd (nI_lt (b := 64) q (by omega)) (by have z := zc147; rw [fa_le] at z; rw [fa_lt]; exact Int.not_lt.mpr z)
              refine gf_iinc (1) dX6_valueOf_175 rfl rfl (Nat.le_of_ble_eq_true rfl) ?_
              refine gf_goto 44 dX6_valueOf_178 rfl ?_
              rw [show vofB (S.1 7) (S.1 6 4) cd W (x + jz) = W from ((if_neg (fun q => h1W q.2)).trans ((if_neg (fun q => h2W q.2)).trans (if_neg h64)))] at ih
              exact gf_lw ih ⟨rfl, rfl, rfl, rfl, rfl, lvE (nI_1 (x + jz)), trivial⟩
            · have h64 : W.1 < 64 := by rcases Nat.lt_or_ge W.1 64 with q | q; exact q; exact absurd (nI_le (a := 64) q (by omega)) zc147
              refine gf_aload_n 0 dX6_valueOf_150 rfl rfl ?_
              refine gf_getR flX6_15 rfl dX6_valueOf_151 (gt_171 (gr_k _ hG)) (gp_171_3 (gr_k _ hG)) ?_
              refine gf_iload_n 3 dX6_valueOf_154 rfl rfl ?_
              refine gf_aload_n 0 dX6_valueOf_155 rfl rfl ?_
              refine gf_iload dX6_valueOf_156 rfl ?_
              refine gf_aload_n 1 dX6_valueOf_158 rfl rfl ?_
              refine gf_getR flX6_116 rfl dX6_valueOf_159 hTb (hR1 _) ?_
              refine gf_iload dX6_valueOf_162 rfl ?_
              refine gf_iald L dX6_valueOf_164 hca.1 hca.2.1 rfl (by omega) (by omega) ?_
              rw [hcai]
              refine gf_bipush (7) dX6_valueOf_165 rfl ?_
              refine gf_ishr dX6_valueOf_167 ?_
              refine gf_callV cmX6_single lkX6_127 imX6_single seX6_single ⟨rfl, by decide⟩ dX6_valueOf_168 (d1 := d - 1) (by omega) (gt_171 (gr_k _ hG)) (e_X6_single E (by omega) (cd (x + jz) &&& 127) (cd (x + jz) >>> (7 &&& 31)) (hk h (upr S.1 8 W.2, S.2)) (gr_k _ hG) htk) rfl rfl (Nat.le_of_ble_eq_true rfl) ?_
              refine gf_iast 64 dX6_valueOf_171 (gt_173 (gr_k _ hG)) (gl_173 (gr_k _ hG)) rfl h64 (by decide) ?_
              rw [hk_8]
              rw [show up2 (upr S.1 8 W.2) 8 W.1 (sngV (hp_i (hk h (upr S.1 8 W.2, S.2)) 172) (hp_i (hk h (upr S.1 8 W.2, S.2)) 171 4) (cd (x + jz) &&& 127) (cd (x + jz) >>> (7 &&& 31))) = upr S.1 8 (va_up W.2 W.1 (sngV (S.1 7) (S.1 6 4) (cd (x + jz) &&& 127) (cd (x + jz) >>> (7 &&& 31)))) from upr_up _ _ _ _ _]
              refine gf_iinc (1) dX6_valueOf_172 rfl rfl (Nat.le_of_ble_eq_true rfl) ?_
              refine gf_iinc (1) dX6_valueOf_175 rfl rfl (Nat.le_of_ble_eq_true rfl) ?_
              refine gf_goto 44 dX6_valueOf_178 rfl ?_
              rw [show vofB (S.1 7) (S.1 6 4) cd W (x + jz) = (W.1 + 1, va_up W.2 W.1 (sngV (S.1 7) (S.1 6 4) (cd (x + jz) &&& 127) (cd (x + jz) >>> (7 &&& 31)))) from ((if_neg (fun q => h1W q.2)).trans ((if_neg (fun q => h2W q.2)).trans (if_pos h64)))] at ih
              exact gf_lw ih ⟨rfl, rfl, rfl, lvE (nI_1 _), rfl, lvE (nI_1 (x + jz)), trivial⟩
          · have h2W : 2 ≤ W.1 := by rcases Nat.lt_or_ge W.1 2 with q | q; exact absurd (nI_lt (b := 2) q (by omega)) zc106; exact q
            refine gf_aload_n 0 dX6_valueOf_109 rfl rfl ?_
            refine gf_getR flX6_15 rfl dX6_valueOf_110 (gt_171 (gr_k _ hG)) (gp_171_3 (gr_k _ hG)) ?_
            refine gf_iload_n 3 dX6_valueOf_113 rfl rfl ?_
            refine gf_iconst (2) dX6_valueOf_114 rfl ?_
            refine gf_isub dX6_valueOf_115 ?_
            refine gf_iload dX6_valueOf_116 rfl ?_
            refine gf_aload_n 0 dX6_valueOf_118 rfl rfl ?_
            refine gf_getR flX6_15 rfl dX6_valueOf_119 (gt_171 (gr_k _ hG)) (gp_171_3 (gr_k _ hG)) ?_
            refine gf_iload_n 3 dX6_valueOf_122 rfl rfl ?_
            refine gf_iconst (2) dX6_valueOf_123 rfl ?_
            refine gf_isub dX6_valueOf_124 ?_
            refine gf_iald 64 dX6_valueOf_125 (gt_173 (gr_k _ hG)) (gl_173 (gr_k _ hG)) (pk_sub (b := 2) h2W) (by omega) (by decide) ?_
            refine gf_aload_n 0 dX6_valueOf_126 rfl rfl ?_
            refine gf_getR flX6_15 rfl dX6_valueOf_127 (gt_171 (gr_k _ hG)) (gp_171_3 (gr_k _ hG)) ?_
            refine gf_iload_n 3 dX6_valueOf_130 rfl rfl ?_
            refine gf_iconst (1) dX6_valueOf_131 rfl ?_
            refine gf_isub dX6_valueOf_132 ?_
            refine gf_iald 64 dX6_valueOf_133 (gt_173 (gr_k _ hG)) (gl_173 (gr_k _ hG)) (pk_sub (b := 1) (by omega)) (by omega) (by decide) ?_
            refine gf_callS cmX6_joined lkX6_123 stX6_joined dX6_valueOf_134 (d1 := d - 1) (by omega) (e_X6_joined E (by omega) _ _ _ _) rfl rfl (Nat.le_of_ble_eq_true rfl) ?_
            refine gf_iast 64 dX6_valueOf_137 (gt_173 (gr_k _ hG)) (gl_173 (gr_k _ hG)) (pk_sub (b := 2) h2W) (by omega) (by decide) ?_
            rw [hk_8]
            rw [show up2 (upr S.1 8 W.2) 8 (W.1 - 2) (clpV (jnV (cd (x + jz) &&& 127) (hp_i (hk h (upr S.1 8 W.2, S.2)) 173 (W.1 - 2)) (hp_i (hk h (upr S.1 8 W.2, S.2)) 173 (W.1 - 1)))) = upr S.1 8 (va_up W.2 (W.1 - 2) (clpV (jnV (cd (x + jz) &&& 127) (W.2 (W.1 - 2)) (W.2 (W.1 - 1))))) from upr_up _ _ _ _ _]
            refine gf_iinc (-1) dX6_valueOf_138 rfl rfl (Nat.le_of_ble_eq_true rfl) ?_
            refine gf_goto 175 dX6_valueOf_141 rfl ?_
            refine gf_iinc (1) dX6_valueOf_175 rfl rfl (Nat.le_of_ble_eq_true rfl) ?_
            refine gf_goto 44 dX6_valueOf_178 rfl ?_
            rw [show vofB (S.1 7) (S.1 6 4) cd W (x + jz) = (W.1 - 1, va_up W.2 (W.1 - 2) (clpV (jnV (cd (x + jz) &&& 127) (W.2 (W.1 - 2)) (W.2 (W.1 - 1))))) from ((if_neg (fun q => h1W q.2)).trans (if_pos ⟨zb_1.mp zc101, h2W⟩))] at ih
            exact gf_lw ih ⟨rfl, rfl, rfl, lvE (pk_m1b h2W), rfl, lvE (nI_1 (x + jz)), trivial⟩
      · have h1W : 1 ≤ W.1 := by rcases Nat.lt_or_ge W.1 1 with q | q; exact absurd (nI_lt (b := 1) q (by omega)) zc72; exact q
        refine gf_aload_n 0 dX6_valueOf_75 rfl rfl ?_
        refine gf_getR flX6_15 rfl dX6_valueOf_76 (gt_171 (gr_k _ hG)) (gp_171_3 (gr_k _ hG)) ?_
        refine gf_iload_n 3 dX6_valueOf_79 rfl rfl ?_
        refine gf_iconst (1) dX6_valueOf_80 rfl ?_
        refine gf_isub dX6_valueOf_81 ?_
        refine gf_iconst (1) dX6_valueOf_82 rfl ?_
        refine gf_aload_n 0 dX6_valueOf_83 rfl rfl ?_
        refine gf_getR flX6_15 rfl dX6_valueOf_84 (gt_171 (gr_k _ hG)) (gp_171_3 (gr_k _ hG)) ?_
        refine gf_iload_n 3 dX6_valueOf_87 rfl rfl ?_
        refine gf_iconst (1) dX6_valueOf_88 rfl ?_
        refine gf_isub dX6_valueOf_89 ?_
        refine gf_iald 64 dX6_valueOf_90 (gt_173 (gr_k _ hG)) (gl_173 (gr_k _ hG)) (pk_sub (b := 1) h1W) (by omega) (by decide) ?_
        refine gf_isub dX6_valueOf_91 ?_
        refine gf_iast 64 dX6_valueOf_92 (gt_173 (gr_k _ hG)) (gl_173 (gr_k _ hG)) (pk_sub (b := 1) h1W) (by omega) (by decide) ?_
        rw [hk_8]
        rw [show up2 (upr S.1 8 W.2) 8 (W.1 - 1) (1 - hp_i (hk h (upr S.1 8 W.2, S.2)) 173 (W.1 - 1)) = upr S.1 8 (va_up W.2 (W.1 - 1) (1 - W.2 (W.1 - 1))) from upr_up _ _ _ _ _]
        refine gf_goto 175 dX6_valueOf_93 rfl ?_
        refine gf_iinc (1) dX6_valueOf_175 rfl rfl (Nat.le_of_ble_eq_true rfl) ?_
        refine gf_goto 44 dX6_valueOf_178 rfl ?_
        rw [show vofB (S.1 7) (S.1 6 4) cd W (x + jz) = (W.1, va_up W.2 (W.1 - 1) (1 - W.2 (W.1 - 1))) from (if_pos ⟨zc67, h1W⟩)] at ih
        exact gf_lw ih ⟨rfl, rfl, rfl, rfl, rfl, lvE (nI_1 (x + jz)), trivial⟩
def stm (S : kS) (cd fr : Nat → Int32) (i : Nat) : Nat × (Nat → Int32) := vof S cd (fr i).toNatClampNeg (fr (i + 1)).toNatClampNeg
def kW (S : kS) (W : Nat × (Nat → Int32)) : kS := (upr S.1 8 W.2, S.2)
theorem e_X6_valueOf (E : gE) {d : Nat} (hd : 2 ≤ d) {b n L i : Nat} {cd kd fr : Nat → Int32} (h : hp_T) (hG : gr h) (S : kS) (T : trm h b n L cd kd fr) (hi : i < n) : ev E mX6_valueOf d [.ref (E.1 + 171), .ref (E.1 + b), .int (nI i)] (hk h S) (some (.int (vofV (stm S cd fr i)))) (hk h (kW S (stm S cd fr i))) := by
  refine ev_of rfl (fun q => absurd q (by decide)) (Nat.le_of_ble_eq_true rfl) ?_
  obtain ⟨hTb, hn0, hn24, hL6, hb3, ca, ka, fa, hge, hr, hca, hka, hfa, hfr, hcd, -⟩ := T
  obtain ⟨x, y, hxy, hyL, ex, ey⟩ := hfr i hi
  have hR1 : ∀ Z : kS, hp_r (hk h Z) b 1 = some ca := fun Z => by rw [hk_hr h Z hb3]; exact hr.1
  have hR3 : ∀ Z : kS, hp_r (hk h Z) b 3 = some fa := fun Z => by rw [hk_hr h Z hb3]; exact hr.2.2
  have hcai : ∀ Z : kS, hp_i (hk h Z) ca = cd := fun Z => by rw [hk_hi h Z hge.1]; exact hca.2.2
  have hfai : ∀ Z : kS, hp_i (hk h Z) fa = fr := fun Z => by rw [hk_hi h Z hge.2.2]; exact hfa.2.2
  have hbi : hp_i (hk h S) b 0 = nI n := by rw [hk_hi h S hb3]; exact hn0
  have hS : stm S cd fr i = vofN (S.1 7) (S.1 6 4) cd (S.1 8) x (y - x) := by unfold stm vof; rw [ex, ey, nI_clamp (by omega), nI_clamp (by omega)]
  have h0 : hk h S = hk h (upr S.1 8 (vofN (S.1 7) (S.1 6 4) cd (S.1 8) x 0).2, S.2) := congrArg (hk h) (by show S = (upr S.1 8 (S.1 8), S.2); rw [upr_id])
  rw [hS]
  have hW := vofN_le (S.1 7) (S.1 6 4) cd (S.1 8) x (y - x)
  refine gf_iload_n 2 dX6_valueOf_0 rfl rfl ?_
  refine gf_iconst (0) dX6_valueOf_1 rfl ?_
  refine gf_aload_n 1 dX6_valueOf_2 rfl rfl ?_
  refine gf_getI flX6_103 rfl dX6_valueOf_3 hTb ?_
  refine gf_iconst (1) dX6_valueOf_6 rfl ?_
  refine gf_isub dX6_valueOf_7 ?_
  refine gf_callSN cmX11_within lkX6_109 stX11_within dX6_valueOf_8 (d1 := d - 1) (by omega) (e_X11_within E (by omega) _ _ _ _) rfl rfl (Nat.le_of_ble_eq_true rfl) ?_
  refine gf_if_ne 16 dX6_valueOf_11 rfl (fun _ => ?_) (fun q => absurd q (zb_1.mpr ⟨nI_pos' (by omega), by rw [hbi, show nI n - 1 = nI (n - 1) from pk_sub (b := 1) (by omega)]; exact nI_le (by omega) (by omega)⟩))
  refine gf_iconst (0) dX6_valueOf_16 rfl ?_
  refine gf_istore_n 3 dX6_valueOf_17 rfl (Nat.le_of_ble_eq_true rfl) ?_
  refine gf_aload_n 1 dX6_valueOf_18 rfl rfl ?_
  refine gf_getR flX6_113 rfl dX6_valueOf_19 hTb (hR3 _) ?_
  refine gf_iload_n 2 dX6_valueOf_22 rfl rfl ?_
  refine gf_iconst (1) dX6_valueOf_23 rfl ?_
  refine gf_iadd dX6_valueOf_24 ?_
  refine gf_iald (n + 1) dX6_valueOf_25 hfa.1 hfa.2.1 (nI_1 i) (by omega) (by omega) ?_
  rw [hfai, ey]
  refine gf_aload_n 1 dX6_valueOf_26 rfl rfl ?_
  refine gf_getR flX6_116 rfl dX6_valueOf_27 hTb (hR1 _) ?_
  refine gf_alen L dX6_valueOf_30 hca.1 (by decide) (by decide) hca.2.1 ?_
  refine gf_min lkX6_100 kMmin.1 kMmin.2.1 kMmin.2.2 dX6_valueOf_31 (by omega) (Nat.le_of_ble_eq_true rfl) ?_
  rw [if_neg (nI_nlt (show y ≤ L by omega) (by omega))]
  refine gf_istore dX6_valueOf_34 (Nat.le_of_ble_eq_true rfl) ?_
  refine gf_aload_n 1 dX6_valueOf_36 rfl rfl ?_
  refine gf_getR flX6_113 rfl dX6_valueOf_37 hTb (hR3 _) ?_
  refine gf_iload_n 2 dX6_valueOf_40 rfl rfl ?_
  refine gf_iald (n + 1) dX6_valueOf_41 hfa.1 hfa.2.1 rfl (by omega) (by omega) ?_
  rw [hfai, ex]
  refine gf_istore dX6_valueOf_42 (Nat.le_of_ble_eq_true rfl) ?_
  rw [h0]
  refine gf_lw (l_X6_valueOf E hd (i := i) (m := y - x) h hG S hTb hR1 hca hcai (by omega) hL6 hcd ?_ (y - x) 0 (by omega)) ⟨rfl, rfl, rfl, rfl, lvE (by rw [show x + (y - x) = y from by omega]), rfl, trivial⟩
  generalize vofN (S.1 7) (S.1 6 4) cd (S.1 8) x (y - x) = W at hW ⊢
  refine gf_iload_n 3 dX6_valueOf_181 rfl rfl ?_
  refine gf_if_le 194 dX6_valueOf_182 rfl (fun zc182 => ?_) (fun zc182 => ?_)
  · refine gf_iconst (0) dX6_valueOf_194 rfl ?_
    exact gf_iretE dX6_valueOf_195 rfl ((if_neg (fun q => absurd zc182 (nI_nle q (by omega))) : vofV W = _).symm) (rfl)
  · refine gf_aload_n 0 dX6_valueOf_185 rfl rfl ?_
    refine gf_getR flX6_15 rfl dX6_valueOf_186 (gt_171 (gr_k _ hG)) (gp_171_3 (gr_k _ hG)) ?_
    refine gf_iconst (0) dX6_valueOf_189 rfl ?_
    refine gf_iald 64 dX6_valueOf_190 (gt_173 (gr_k _ hG)) (gl_173 (gr_k _ hG)) (rfl : (0 : Int32) = nI 0) (by decide) (by decide) ?_
    refine gf_goto 195 dX6_valueOf_191 rfl ?_
    exact gf_iretE dX6_valueOf_195 rfl ((if_pos (by rcases Nat.eq_zero_or_pos W.1 with q | q; exact absurd (by rw [q]; exact Int32.le_refl _) zc182; exact q) : vofV W = _).symm) (rfl)
