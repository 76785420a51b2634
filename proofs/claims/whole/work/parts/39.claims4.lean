/-! ===== the class: all claims ===== -/
theorem shS_row (h : hp_T) (w g c : Nat) (loss : Int32) (Z : cS) (p : Nat) {r : Nat} (h6 : r ≠ 6) (h7 : r ≠ 7) (h8 : r ≠ 8) : (shS h w g c loss Z p).2.1 r = Z.2.1 r :=
  (sh_row h c loss _ h7 h8 p).trans ((up2_row h6).trans ((up2_row h7).trans ((up2_row h7).trans ((up2_row h7).trans (up2_row h7)))))
theorem shS_2 (h : hp_T) (w g c : Nat) (loss : Int32) (Z : cS) (p : Nat) : (shS h w g c loss Z p).2.2 = Z.2.2 := sh_2 h c loss _ p
/-- one cell's house -/
def saB (h : hp_T) (w g p : Nat) (L : Nat → Int32) (Z : cS) (c : Nat) : cS := if 0 < Z.2.1 4 c ∧ 0 < L c then stlS h w g c (L c) Z p else Z
theorem saB_row (h : hp_T) (w g p : Nat) (L : Nat → Int32) (Z : cS) (c : Nat) {r : Nat} (h6 : r ≠ 6) (h7 : r ≠ 7) (h8 : r ≠ 8) : (saB h w g p L Z c).2.1 r = Z.2.1 r := by
  unfold saB
  split
  · exact shS_row h w g c _ Z p h6 h7 h8
  · rfl
theorem saB_2 (h : hp_T) (w g p : Nat) (L : Nat → Int32) (Z : cS) (c : Nat) : (saB h w g p L Z c).2.2 = Z.2.2 := by
  unfold saB
  split
  · exact shS_2 h w g c _ Z p
  · rfl
theorem sa_row (h : hp_T) (w g p : Nat) (L : Nat → Int32) (Z : cS) {r : Nat} (h6 : r ≠ 6) (h7 : r ≠ 7) (h8 : r ≠ 8) : ∀ n, (itN (saB h w g p L) Z n).2.1 r = Z.2.1 r
  | 0 => rfl
  | n + 1 => (saB_row h w g p L _ n h6 h7 h8).trans (sa_row h w g p L Z h6 h7 h8 n)
theorem sa_2 (h : hp_T) (w g p : Nat) (L : Nat → Int32) (Z : cS) : ∀ n, (itN (saB h w g p L) Z n).2.2 = Z.2.2
  | 0 => rfl
  | n + 1 => (saB_2 h w g p L _ n).trans (sa_2 h w g p L Z n)
def zrB (X : Nat → Nat → Int32) (k : Nat) : Nat → Nat → Int32 := up2 (up2 (up2 X 1 k 0) 2 k 0) 3 k 0
def wsB (S : kS) (X : Nat → Nat → Int32) (i : Nat) : Nat → Nat → Int32 := up2 X 1 (S.1 2 i).toNatClampNeg 1
def boB (h : hp_T) (S : kS) (X : Nat → Nat → Int32) (i : Nat) : Nat → Nat → Int32 := up2 X 4 (hp_i h 159 (S.1 2 i).toNatClampNeg).toNatClampNeg (X 4 (hp_i h 159 (S.1 2 i).toNatClampNeg).toNatClampNeg + X 3 (S.1 2 i).toNatClampNeg)
def saX (S : kS) (p : Nat) (X : Nat → Nat → Int32) : Nat → Nat → Int32 := itN (wsB S) (itN zrB (upr X 4 (fa_fill (fun _ => 0) (X 4) 9)) 201) p
def saZ (h : hp_T) (w g p : Nat) (L : Nat → Int32) (Z : cS) : cS := itN (saB h w g p L) ((saX Z.2 p Z.1.1, Z.1.2), Z.2) 120
theorem saZ_row (h : hp_T) (w g p : Nat) (L : Nat → Int32) (Z : cS) {r : Nat} (h6 : r ≠ 6) (h7 : r ≠ 7) (h8 : r ≠ 8) : (saZ h w g p L Z).2.1 r = Z.2.1 r := by
  unfold saZ
  exact sa_row h w g p L _ h6 h7 h8 _
theorem saZ_2 (h : hp_T) (w g p : Nat) (L : Nat → Int32) (Z : cS) : (saZ h w g p L Z).2.2 = Z.2.2 := by
  unfold saZ
  exact sa_2 h w g p L _ _
theorem saZ_kn {h : hp_T} (w g : Nat) {p : Nat} (L : Nat → Int32) {Z : cS} (K : knI h p Z.2) : knI h p (saZ h w g p L Z).2 := knI_row K (saZ_row h w g p L Z (by decide) (by decide) (by decide)) (saZ_row h w g p L Z (by decide) (by decide) (by decide))
def saS (h : hp_T) (w g p : Nat) (L : Nat → Int32) (Z : cS) : cS := ((itN (boB h (saZ h w g p L Z).2) (saZ h w g p L Z).1.1 p, (saZ h w g p L Z).1.2), (saZ h w g p L Z).2)
theorem hdw186_4 (h : hp_T) (X : Nat → Nat → Int32) (R : Nat → Int64) (S : kS) (q : Nat → Int32) : rw1 (hk (hcl h 186 X R) S) 190 q = hk (hcl h 186 (upr X 4 q) R) S := by
  rw [← hclk_186]
  show hrl (rw1 (hb (hk h S) 186 6 X) (186 + 4) q) (186 + 6) R = _
  rw [hb_rw (hk h S) X (by decide) q]
  exact hclk_186 _ _ _ _
theorem l_X2_sa1_186 (E : gE) {d : Nat} (h : hp_T) (hG : gr h) (X : Nat → Nat → Int32) (R : Nat → Int64) (S : kS) {v : Option Value} {hz : hp_T} (K : gf E mX2_settleAll d 44 [(0, .ref (E.1 + 186)), (1, .ref (E.1 + 174)), (2, .int (nI ((201 : Nat))))] [] (hk (hcl h 186 ((itN zrB X ((201 : Nat)))) (R)) (S)) v hz) : ∀ (kz jz : Nat), jz + kz = (201 : Nat) → gf E mX2_settleAll d 10 [(0, .ref (E.1 + 186)), (1, .ref (E.1 + 174)), (2, .int (nI (jz)))] [] (hk (hcl h 186 ((itN zrB X (jz))) (R)) (S)) v hz := by
  intro kz
  induction kz with
  | zero =>
    intro jz hj
    have hj : (201 : Nat) = jz := by omega
    subst hj
    refine gf_iload_n 2 dX2_settleAll_10 rfl rfl ?_
    refine gf_sipush (200) dX2_settleAll_11 rfl ?_
    refine gf_icmp_gt 44 dX2_settleAll_14 rfl (fun _ => ?_) (fun q => absurd (nI_lt (a := 200) (by omega) (by omega)) q)
    exact gf_lw K ⟨rfl, rfl, rfl, trivial⟩
  | succ kz ih =>
    intro jz hj
    refine gf_iload_n 2 dX2_settleAll_10 rfl rfl ?_
    refine gf_sipush (200) dX2_settleAll_11 rfl ?_
    refine gf_icmp_gt 44 dX2_settleAll_14 rfl (fun q => absurd q (fun q => nI_nlt (b := jz) (a := 200) (by omega) (by omega) q)) (fun _ => ?_)
    refine gf_aload_n 0 dX2_settleAll_17 rfl rfl ?_
    refine gf_getR flX2_9 rfl dX2_settleAll_18 (gt_186 (gr_k _ hG)) (gp_186_0 (gr_k _ hG)) ?_
    refine gf_iload_n 2 dX2_settleAll_21 rfl rfl ?_
    refine gf_iconst (0) dX2_settleAll_22 rfl ?_
    refine gf_zast 201 dX2_settleAll_23 (gt_187 (gr_k _ hG)) (gl_187 (gr_k _ hG)) rfl (by omega) (by decide) rfl ?_
    rw [hd186_1]
    refine gf_aload_n 0 dX2_settleAll_24 rfl rfl ?_
    refine gf_getR flX2_15 rfl dX2_settleAll_25 (gt_186 (gr_k _ hG)) (gp_186_1 (gr_k _ hG)) ?_
    refine gf_iload_n 2 dX2_settleAll_28 rfl rfl ?_
    refine gf_iconst (0) dX2_settleAll_29 rfl ?_
    refine gf_iast 201 dX2_settleAll_30 (gt_188 (gr_k _ hG)) (gl_188 (gr_k _ hG)) rfl (by omega) (by decide) ?_
    rw [hd186_2]
    refine gf_aload_n 0 dX2_settleAll_31 rfl rfl ?_
    refine gf_getR flX2_19 rfl dX2_settleAll_32 (gt_186 (gr_k _ hG)) (gp_186_2 (gr_k _ hG)) ?_
    refine gf_iload_n 2 dX2_settleAll_35 rfl rfl ?_
    refine gf_iconst (0) dX2_settleAll_36 rfl ?_
    refine gf_iast 201 dX2_settleAll_37 (gt_189 (gr_k _ hG)) (gl_189 (gr_k _ hG)) rfl (by omega) (by decide) ?_
    rw [hd186_3]
    refine gf_iinc (1) dX2_settleAll_38 rfl rfl (Nat.le_of_ble_eq_true rfl) ?_
    refine gf_goto 10 dX2_settleAll_41 rfl ?_
    exact gf_hE (rfl) (gf_lw (ih (jz + 1) (by omega)) ⟨rfl, rfl, lvE (nI_1 jz), trivial⟩)
theorem l_X2_sa2_186 (E : gE) {d : Nat} {p : Nat} (h : hp_T) (hG : gr h) (X : Nat → Nat → Int32) (R : Nat → Int64) (S : kS) (Kn : knI h p S) {v : Option Value} {hz : hp_T} (K : gf E mX2_settleAll d 78 [(0, .ref (E.1 + 186)), (1, .ref (E.1 + 174)), (2, .int (nI (p)))] [] (hk (hcl h 186 ((itN (wsB S) X (p))) (R)) (S)) v hz) : ∀ (kz jz : Nat), jz + kz = p → gf E mX2_settleAll d 46 [(0, .ref (E.1 + 186)), (1, .ref (E.1 + 174)), (2, .int (nI (jz)))] [] (hk (hcl h 186 ((itN (wsB S) X (jz))) (R)) (S)) v hz := by
  intro kz
  induction kz with
  | zero =>
    intro jz hj
    have hj : p = jz := by omega
    subst hj
    refine gf_iload_n 2 dX2_settleAll_46 rfl rfl ?_
    refine gf_aload_n 0 dX2_settleAll_47 rfl rfl ?_
    refine gf_getR flX2_36 rfl dX2_settleAll_48 (gt_186 (gr_k _ hG)) (gp_186_5 (gr_k _ hG)) ?_
    refine gf_getI flX2_50 rfl dX2_settleAll_51 (gt_165 (gr_k _ hG)) ?_
    refine gf_icmp_ge 78 dX2_settleAll_54 rfl (fun _ => ?_) (fun q => absurd (by rw [show hp_i (hk (hcl h 186 ((itN (wsB S) X (p))) (R)) (S)) 165 0 = nI p from Kn.1]; exact Int32.le_refl _) q)
    exact gf_lw K ⟨rfl, rfl, rfl, trivial⟩
  | succ kz ih =>
    intro jz hj
    obtain ⟨a, c2, x, ha, ea, ⟨hc2, hac⟩, hx9, hx⟩ := Kn.2.2 jz (by omega)
    have hp2 := Kn.2.1
    refine gf_iload_n 2 dX2_settleAll_46 rfl rfl ?_
    refine gf_aload_n 0 dX2_settleAll_47 rfl rfl ?_
    refine gf_getR flX2_36 rfl dX2_settleAll_48 (gt_186 (gr_k _ hG)) (gp_186_5 (gr_k _ hG)) ?_
    refine gf_getI flX2_50 rfl dX2_settleAll_51 (gt_165 (gr_k _ hG)) ?_
    refine gf_icmp_ge 78 dX2_settleAll_54 rfl (fun q => absurd q (by rw [show hp_i (hk (hcl h 186 ((itN (wsB S) X (jz))) (R)) (S)) 165 0 = nI p from Kn.1]; exact nI_ge (by omega) (by have := Kn.2.1; omega))) (fun _ => ?_)
    refine gf_aload_n 0 dX2_settleAll_57 rfl rfl ?_
    refine gf_getR flX2_9 rfl dX2_settleAll_58 (gt_186 (gr_k _ hG)) (gp_186_0 (gr_k _ hG)) ?_
    refine gf_aload_n 0 dX2_settleAll_61 rfl rfl ?_
    refine gf_getR flX2_36 rfl dX2_settleAll_62 (gt_186 (gr_k _ hG)) (gp_186_5 (gr_k _ hG)) ?_
    refine gf_getR flX2_56 rfl dX2_settleAll_65 (gt_165 (gr_k _ hG)) (gp_165_2 (gr_k _ hG)) ?_
    refine gf_iload_n 2 dX2_settleAll_68 rfl rfl ?_
    refine gf_iald 200 dX2_settleAll_69 (gt_167 (gr_k _ hG)) (gl_167 (gr_k _ hG)) rfl (by omega) (by decide) ?_
    refine gf_iconst (1) dX2_settleAll_70 rfl ?_
    refine gf_zast 201 dX2_settleAll_71 (gt_187 (gr_k _ hG)) (gl_187 (gr_k _ hG)) ea (by omega) (by decide) rfl ?_
    refine gf_iinc (1) dX2_settleAll_72 rfl rfl (Nat.le_of_ble_eq_true rfl) ?_
    refine gf_goto 46 dX2_settleAll_75 rfl ?_
    exact gf_hE (by rw [hd186_1, show (itN (wsB S) X (jz + 1)) = up2 (itN (wsB S) X (jz)) 1 a 1 from by show wsB S _ jz = _; unfold wsB; rw [ea, nI_clamp (by omega)]]) (gf_lw (ih (jz + 1) (by omega)) ⟨rfl, rfl, lvE (nI_1 jz), trivial⟩)
theorem l_X2_sa3_186 (E : gE) {d : Nat} (hd : 7 ≤ d) {w g p : Nat} (h : hp_T) (hG : gr h) (C : cty (hp_i h) w g) (Z : cS) (hT : ∀ o, o < 9 → ∀ b, Z.2.2 o = some b → tOK h b) (Kn : knI h p Z.2) (hM : ∀ c, c < 120 → 0 < Z.2.1 4 c → c < w * g) {v : Option Value} {hz : hp_T} (K : gf E mX2_settleAll d 124 [(0, .ref (E.1 + 186)), (1, .ref (E.1 + 174)), (2, .int (nI ((120 : Nat))))] [] (hk (hcl h 186 (itN (saB h w g p (hp_i h 176)) Z ((120 : Nat))).1.1 (itN (saB h w g p (hp_i h 176)) Z ((120 : Nat))).1.2) (itN (saB h w g p (hp_i h 176)) Z ((120 : Nat))).2) v hz) : ∀ (kz jz : Nat), jz + kz = (120 : Nat) → gf E mX2_settleAll d 80 [(0, .ref (E.1 + 186)), (1, .ref (E.1 + 174)), (2, .int (nI (jz)))] [] (hk (hcl h 186 (itN (saB h w g p (hp_i h 176)) Z (jz)).1.1 (itN (saB h w g p (hp_i h 176)) Z (jz)).1.2) (itN (saB h w g p (hp_i h 176)) Z (jz)).2) v hz := by
  intro kz
  induction kz with
  | zero =>
    intro jz hj
    have hj : (120 : Nat) = jz := by omega
    subst hj
    refine gf_iload_n 2 dX2_settleAll_80 rfl rfl ?_
    refine gf_bipush (120) dX2_settleAll_81 rfl ?_
    refine gf_icmp_ge 124 dX2_settleAll_83 rfl (fun _ => ?_) (fun q => absurd (Int32.le_refl _) q)
    exact gf_lw K ⟨rfl, rfl, rfl, trivial⟩
  | succ kz ih =>
    intro jz hj
    refine gf_iload_n 2 dX2_settleAll_80 rfl rfl ?_
    refine gf_bipush (120) dX2_settleAll_81 rfl ?_
    refine gf_icmp_ge 124 dX2_settleAll_83 rfl (fun q => absurd q (nI_ge (b := 120) (by omega) (by omega))) (fun _ => ?_)
    refine gf_aload_n 0 dX2_settleAll_86 rfl rfl ?_
    refine gf_getR flX2_36 rfl dX2_settleAll_87 (gt_186 (gr_k _ hG)) (gp_186_5 (gr_k _ hG)) ?_
    refine gf_getR flX2_59 rfl dX2_settleAll_90 (gt_165 (gr_k _ hG)) (gp_165_4 (gr_k _ hG)) ?_
    refine gf_iload_n 2 dX2_settleAll_93 rfl rfl ?_
    refine gf_iald 120 dX2_settleAll_94 (gt_169 (gr_k _ hG)) (gl_169 (gr_k _ hG)) rfl (by omega) (by decide) ?_
    refine gf_if_le 118 dX2_settleAll_95 rfl (fun zc95 => ?_) (fun zc95 => ?_)
    · refine gf_iinc (1) dX2_settleAll_118 rfl rfl (Nat.le_of_ble_eq_true rfl) ?_
      refine gf_goto 80 dX2_settleAll_121 rfl ?_
      exact gf_hE (by rw [show (itN (saB h w g p (hp_i h 176)) Z (jz + 1)) = (itN (saB h w g p (hp_i h 176)) Z (jz)) from if_neg (fun q => by have q1 := q.1; rw [fa_lt, ti_0] at q1; have q2 : (itN (saB h w g p (hp_i h 176)) Z (jz)).2.1 4 jz ≤ 0 := zc95; rw [fa_le, ti_0] at q2; omega)]) (gf_lw (ih (jz + 1) (by omega)) ⟨rfl, rfl, lvE (nI_1 jz), trivial⟩)
    · have hm0 : 0 < (itN (saB h w g p (hp_i h 176)) Z (jz)).2.1 4 jz := by have q2 : ¬ (itN (saB h w g p (hp_i h 176)) Z (jz)).2.1 4 jz ≤ 0 := zc95; rw [fa_le, ti_0] at q2; rw [fa_lt, ti_0]; omega
      have hcw : jz < w * g := hM jz (by omega) (by have q := hm0; rw [(congrFun (sa_row h w g p (hp_i h 176) Z (r := 4) (by decide) (by decide) (by decide) jz) jz)] at q; exact q)
      refine gf_aload_n 1 dX2_settleAll_98 rfl rfl ?_
      refine gf_getR flX2_62 rfl dX2_settleAll_99 (gt_174 (gr_k _ hG)) (gp_174_4 (gr_k _ hG)) ?_
      refine gf_iload_n 2 dX2_settleAll_102 rfl rfl ?_
      refine gf_iald 120 dX2_settleAll_103 (gt_176 (gr_k _ hG)) (gl_176 (gr_k _ hG)) rfl (by omega) (by decide) ?_
      refine gf_if_le 118 dX2_settleAll_104 rfl (fun zc104 => ?_) (fun zc104 => ?_)
      · refine gf_iinc (1) dX2_settleAll_118 rfl rfl (Nat.le_of_ble_eq_true rfl) ?_
        refine gf_goto 80 dX2_settleAll_121 rfl ?_
        exact gf_hE (by rw [show (itN (saB h w g p (hp_i h 176)) Z (jz + 1)) = (itN (saB h w g p (hp_i h 176)) Z (jz)) from if_neg (fun q => by have q1 := q.2; rw [fa_lt, ti_0] at q1; have q2 : (hp_i h 176) jz ≤ 0 := zc104; rw [fa_le, ti_0] at q2; omega)]) (gf_lw (ih (jz + 1) (by omega)) ⟨rfl, rfl, lvE (nI_1 jz), trivial⟩)
      · refine gf_aload_n 0 dX2_settleAll_107 rfl rfl ?_
        refine gf_iload_n 2 dX2_settleAll_108 rfl rfl ?_
        refine gf_aload_n 1 dX2_settleAll_109 rfl rfl ?_
        refine gf_getR flX2_62 rfl dX2_settleAll_110 (gt_174 (gr_k _ hG)) (gp_174_4 (gr_k _ hG)) ?_
        refine gf_iload_n 2 dX2_settleAll_113 rfl rfl ?_
        refine gf_iald 120 dX2_settleAll_114 (gt_176 (gr_k _ hG)) (gl_176 (gr_k _ hG)) rfl (by omega) (by decide) ?_
        refine gf_callV cmX2_settleHouse lkX2_67 imX2_settleHouse seX2_settleHouse ⟨rfl, by decide⟩ dX2_settleAll_115 (d1 := d - 1) (by omega) (gt_186 (gr_k _ hG)) (e_X2_settleHouse_186 E (by omega) (hp_i h 176 jz) h hG C (itN (saB h w g p (hp_i h 176)) Z (jz)).1.1 (itN (saB h w g p (hp_i h 176)) Z (jz)).1.2 (itN (saB h w g p (hp_i h 176)) Z (jz)).2 (fun o ho b hb => hT o ho b (by rw [← sa_2 h w g p (hp_i h 176) Z jz]; exact hb)) (knI_row Kn (sa_row _ _ _ _ _ _ (by decide) (by decide) (by decide) _) (sa_row _ _ _ _ _ _ (by decide) (by decide) (by decide) _)) hcw) rfl rfl (Nat.le_of_ble_eq_true rfl) ?_
        refine gf_iinc (1) dX2_settleAll_118 rfl rfl (Nat.le_of_ble_eq_true rfl) ?_
        refine gf_goto 80 dX2_settleAll_121 rfl ?_
        exact gf_hE (by rw [show (itN (saB h w g p (hp_i h 176)) Z (jz + 1)) = stlS h w g jz ((hp_i h 176) jz) (itN (saB h w g p (hp_i h 176)) Z (jz)) p from if_pos ⟨hm0, by have q2 : ¬ (hp_i h 176) jz ≤ 0 := zc104; rw [fa_le, ti_0] at q2; rw [fa_lt, ti_0]; omega⟩]) (gf_lw (ih (jz + 1) (by omega)) ⟨rfl, rfl, lvE (nI_1 jz), trivial⟩)
theorem l_X2_sa4_186 (E : gE) {d : Nat} {p : Nat} (h : hp_T) (hG : gr h) (X : Nat → Nat → Int32) (R : Nat → Int64) (S : kS) (Kn : knI h p S) {v : Option Value} {hz : hp_T} (K : gf E mX2_settleAll d 176 [(0, .ref (E.1 + 186)), (1, .ref (E.1 + 174)), (2, .int (nI (p)))] [] (hk (hcl h 186 ((itN (boB h S) X (p))) (R)) (S)) v hz) : ∀ (kz jz : Nat), jz + kz = p → gf E mX2_settleAll d 126 [(0, .ref (E.1 + 186)), (1, .ref (E.1 + 174)), (2, .int (nI (jz)))] [] (hk (hcl h 186 ((itN (boB h S) X (jz))) (R)) (S)) v hz := by
  intro kz
  induction kz with
  | zero =>
    intro jz hj
    have hj : p = jz := by omega
    subst hj
    refine gf_iload_n 2 dX2_settleAll_126 rfl rfl ?_
    refine gf_aload_n 0 dX2_settleAll_127 rfl rfl ?_
    refine gf_getR flX2_36 rfl dX2_settleAll_128 (gt_186 (gr_k _ hG)) (gp_186_5 (gr_k _ hG)) ?_
    refine gf_getI flX2_50 rfl dX2_settleAll_131 (gt_165 (gr_k _ hG)) ?_
    refine gf_icmp_ge 176 dX2_settleAll_134 rfl (fun _ => ?_) (fun q => absurd (by rw [show hp_i (hk (hcl h 186 ((itN (boB h S) X (p))) (R)) (S)) 165 0 = nI p from Kn.1]; exact Int32.le_refl _) q)
    exact gf_lw K ⟨rfl, rfl, rfl, trivial⟩
  | succ kz ih =>
    intro jz hj
    obtain ⟨a, c2, x, ha, ea, ⟨hc2, hac⟩, hx9, hx⟩ := Kn.2.2 jz (by omega)
    have hp2 := Kn.2.1
    refine gf_iload_n 2 dX2_settleAll_126 rfl rfl ?_
    refine gf_aload_n 0 dX2_settleAll_127 rfl rfl ?_
    refine gf_getR flX2_36 rfl dX2_settleAll_128 (gt_186 (gr_k _ hG)) (gp_186_5 (gr_k _ hG)) ?_
    refine gf_getI flX2_50 rfl dX2_settleAll_131 (gt_165 (gr_k _ hG)) ?_
    refine gf_icmp_ge 176 dX2_settleAll_134 rfl (fun q => absurd q (by rw [show hp_i (hk (hcl h 186 ((itN (boB h S) X (jz))) (R)) (S)) 165 0 = nI p from Kn.1]; exact nI_ge (by omega) (by have := Kn.2.1; omega))) (fun _ => ?_)
    refine gf_aload_n 0 dX2_settleAll_137 rfl rfl ?_
    refine gf_getR flX2_36 rfl dX2_settleAll_138 (gt_186 (gr_k _ hG)) (gp_186_5 (gr_k _ hG)) ?_
    refine gf_getR flX2_56 rfl dX2_settleAll_141 (gt_165 (gr_k _ hG)) (gp_165_2 (gr_k _ hG)) ?_
    refine gf_iload_n 2 dX2_settleAll_144 rfl rfl ?_
    refine gf_iald 200 dX2_settleAll_145 (gt_167 (gr_k _ hG)) (gl_167 (gr_k _ hG)) rfl (by omega) (by decide) ?_
    refine gf_istore_n 3 dX2_settleAll_146 rfl (Nat.le_of_ble_eq_true rfl) ?_
    refine gf_aload_n 0 dX2_settleAll_147 rfl rfl ?_
    refine gf_getR flX2_22 rfl dX2_settleAll_148 (gt_186 (gr_k _ hG)) (gp_186_3 (gr_k _ hG)) ?_
    refine gf_aload_n 0 dX2_settleAll_151 rfl rfl ?_
    refine gf_getR flX2_32 rfl dX2_settleAll_152 (gt_186 (gr_k _ hG)) (gp_186_4 (gr_k _ hG)) ?_
    refine gf_getR flX2_71 rfl dX2_settleAll_155 (gt_158 (gr_k _ hG)) (gp_158_2 (gr_k _ hG)) ?_
    refine gf_iload_n 3 dX2_settleAll_158 rfl rfl ?_
    refine gf_iald 201 dX2_settleAll_159 (gt_159 (gr_k _ hG)) (gl_159 (gr_k _ hG)) ea (by omega) (by decide) ?_
    refine gf_dup2 dX2_settleAll_160 rfl rfl ?_
    refine gf_iald 9 dX2_settleAll_161 (gt_190 (gr_k _ hG)) (gl_190 (gr_k _ hG)) hx hx9 (by decide) ?_
    refine gf_aload_n 0 dX2_settleAll_162 rfl rfl ?_
    refine gf_getR flX2_19 rfl dX2_settleAll_163 (gt_186 (gr_k _ hG)) (gp_186_2 (gr_k _ hG)) ?_
    refine gf_iload_n 3 dX2_settleAll_166 rfl rfl ?_
    refine gf_iald 201 dX2_settleAll_167 (gt_189 (gr_k _ hG)) (gl_189 (gr_k _ hG)) ea (by omega) (by decide) ?_
    refine gf_iadd dX2_settleAll_168 ?_
    refine gf_iast 9 dX2_settleAll_169 (gt_190 (gr_k _ hG)) (gl_190 (gr_k _ hG)) hx hx9 (by decide) ?_
    refine gf_iinc (1) dX2_settleAll_170 rfl rfl (Nat.le_of_ble_eq_true rfl) ?_
    refine gf_goto 126 dX2_settleAll_173 rfl ?_
    exact gf_hE (by rw [hd186_4, show (itN (boB h S) X (jz + 1)) = up2 (itN (boB h S) X (jz)) 4 x ((itN (boB h S) X (jz)) 4 x + (itN (boB h S) X (jz)) 3 a) from by show boB h S _ jz = _; unfold boB; rw [ea, nI_clamp (by omega), hx, nI_clamp (by omega)]]; rfl) (gf_lw (ih (jz + 1) (by omega)) ⟨rfl, rfl, lvE (nI_1 jz), trivial⟩)
theorem e_X2_settleAll_186 (E : gE) {d : Nat} (hd : 7 ≤ d) {w g p : Nat} (h : hp_T) (hG : gr h) (C : cty (hp_i h) w g) (X : Nat → Nat → Int32) (R : Nat → Int64) (S : kS) (hT : ∀ o, o < 9 → ∀ b, S.2 o = some b → tOK h b) (Kn : knI h p S) (hM : ∀ c, c < 120 → 0 < S.1 4 c → c < w * g) : ev E mX2_settleAll d [.ref (E.1 + 186), .ref (E.1 + 174)] (hk (hcl h 186 X R) S) (none) (hk (hcl h 186 (saS h w g p (hp_i h 176) ((X, R), S)).1.1 (saS h w g p (hp_i h 176) ((X, R), S)).1.2) (saS h w g p (hp_i h 176) ((X, R), S)).2) := by
  refine ev_of rfl (fun q => absurd q (by decide)) (Nat.le_of_ble_eq_true rfl) ?_
  refine gf_aload_n 0 dX2_settleAll_0 rfl rfl ?_
  refine gf_getR flX2_22 rfl dX2_settleAll_1 (gt_186 (gr_k _ hG)) (gp_186_3 (gr_k _ hG)) ?_
  refine gf_iconst (0) dX2_settleAll_4 rfl ?_
  refine gf_callS cmJ7_fill_53178 lkX2_44 stJ7_fill_53178 dX2_settleAll_5 (d1 := d - 1) (by omega) ((e_fill E (by omega) (m := 190) (N := 9) 0 (hk (hcl h 186 X R) S) ⟨gt_190 (gr_k _ hG), gl_190 (gr_k _ hG)⟩ (by omega))) rfl rfl (Nat.le_of_ble_eq_true rfl) ?_
  rw [hdw186_4]
  refine gf_iconst (0) dX2_settleAll_8 rfl ?_
  refine gf_istore_n 2 dX2_settleAll_9 rfl (Nat.le_of_ble_eq_true rfl) ?_
  refine l_X2_sa1_186 E h hG (upr X 4 (fa_fill (fun _ => 0) (X 4) 9)) R S ?_ 201 0 (by omega)
  refine gf_iconst (0) dX2_settleAll_44 rfl ?_
  refine gf_istore_n 2 dX2_settleAll_45 rfl (Nat.le_of_ble_eq_true rfl) ?_
  refine l_X2_sa2_186 E h hG (itN zrB (upr X 4 (fa_fill (fun _ => 0) (X 4) 9)) 201) R S Kn ?_ p 0 (by omega)
  refine gf_iconst (0) dX2_settleAll_78 rfl ?_
  refine gf_istore_n 2 dX2_settleAll_79 rfl (Nat.le_of_ble_eq_true rfl) ?_
  refine l_X2_sa3_186 E (by omega) (w := w) (g := g) (p := p) h hG C ((saX S p X, R), S) hT Kn hM ?_ 120 0 (by omega)
  rw [show itN (saB h w g p (hp_i h 176)) ((saX S p X, R), S) 120 = (saZ h w g p (hp_i h 176) ((X, R), S)) from by unfold saZ; rfl]
  generalize hZ3 : (saZ h w g p (hp_i h 176) ((X, R), S)) = z3
  have Kn3 : knI h p z3.2 := hZ3 ▸ saZ_kn w g (hp_i h 176) (Z := ((X, R), S)) Kn
  rw [show (saS h w g p (hp_i h 176) ((X, R), S)) = ((itN (boB h z3.2) z3.1.1 p, z3.1.2), z3.2) from by unfold saS; rw [hZ3]]
  refine gf_iconst (0) dX2_settleAll_124 rfl ?_
  refine gf_istore_n 2 dX2_settleAll_125 rfl (Nat.le_of_ble_eq_true rfl) ?_
  refine l_X2_sa4_186 E (p := p) h hG z3.1.1 z3.1.2 z3.2 Kn3 ?_ p 0 (by omega)
  exact gf_vretE dX2_settleAll_176 rfl (rfl)
theorem hdw205_4 (h : hp_T) (X : Nat → Nat → Int32) (R : Nat → Int64) (S : kS) (q : Nat → Int32) : rw1 (hk (hcl h 205 X R) S) 209 q = hk (hcl h 205 (upr X 4 q) R) S := by
  rw [← hclk_205]
  show hrl (rw1 (hb (hk h S) 205 6 X) (205 + 4) q) (205 + 6) R = _
  rw [hb_rw (hk h S) X (by decide) q]
  exact hclk_205 _ _ _ _
theorem l_X2_sa1_205 (E : gE) {d : Nat} (h : hp_T) (hG : gr h) (X : Nat → Nat → Int32) (R : Nat → Int64) (S : kS) {v : Option Value} {hz : hp_T} (K : gf E mX2_settleAll d 44 [(0, .ref (E.1 + 205)), (1, .ref (E.1 + 193)), (2, .int (nI ((201 : Nat))))] [] (hk (hcl h 205 ((itN zrB X ((201 : Nat)))) (R)) (S)) v hz) : ∀ (kz jz : Nat), jz + kz = (201 : Nat) → gf E mX2_settleAll d 10 [(0, .ref (E.1 + 205)), (1, .ref (E.1 + 193)), (2, .int (nI (jz)))] [] (hk (hcl h 205 ((itN zrB X (jz))) (R)) (S)) v hz := by
  intro kz
  induction kz with
  | zero =>
    intro jz hj
    have hj : (201 : Nat) = jz := by omega
    subst hj
    refine gf_iload_n 2 dX2_settleAll_10 rfl rfl ?_
    refine gf_sipush (200) dX2_settleAll_11 rfl ?_
    refine gf_icmp_gt 44 dX2_settleAll_14 rfl (fun _ => ?_) (fun q => absurd (nI_lt (a := 200) (by omega) (by omega)) q)
    exact gf_lw K ⟨rfl, rfl, rfl, trivial⟩
  | succ kz ih =>
    intro jz hj
    refine gf_iload_n 2 dX2_settleAll_10 rfl rfl ?_
    refine gf_sipush (200) dX2_settleAll_11 rfl ?_
    refine gf_icmp_gt 44 dX2_settleAll_14 rfl (fun q => absurd q (fun q => nI_nlt (b := jz) (a := 200) (by omega) (by omega) q)) (fun _ => ?_)
    refine gf_aload_n 0 dX2_settleAll_17 rfl rfl ?_
    refine gf_getR flX2_9 rfl dX2_settleAll_18 (gt_205 (gr_k _ hG)) (gp_205_0 (gr_k _ hG)) ?_
    refine gf_iload_n 2 dX2_settleAll_21 rfl rfl ?_
    refine gf_iconst (0) dX2_settleAll_22 rfl ?_
    refine gf_zast 201 dX2_settleAll_23 (gt_206 (gr_k _ hG)) (gl_206 (gr_k _ hG)) rfl (by omega) (by decide) rfl ?_
    rw [hd205_1]
    refine gf_aload_n 0 dX2_settleAll_24 rfl rfl ?_
    refine gf_getR flX2_15 rfl dX2_settleAll_25 (gt_205 (gr_k _ hG)) (gp_205_1 (gr_k _ hG)) ?_
    refine gf_iload_n 2 dX2_settleAll_28 rfl rfl ?_
    refine gf_iconst (0) dX2_settleAll_29 rfl ?_
    refine gf_iast 201 dX2_settleAll_30 (gt_207 (gr_k _ hG)) (gl_207 (gr_k _ hG)) rfl (by omega) (by decide) ?_
    rw [hd205_2]
    refine gf_aload_n 0 dX2_settleAll_31 rfl rfl ?_
    refine gf_getR flX2_19 rfl dX2_settleAll_32 (gt_205 (gr_k _ hG)) (gp_205_2 (gr_k _ hG)) ?_
    refine gf_iload_n 2 dX2_settleAll_35 rfl rfl ?_
    refine gf_iconst (0) dX2_settleAll_36 rfl ?_
    refine gf_iast 201 dX2_settleAll_37 (gt_208 (gr_k _ hG)) (gl_208 (gr_k _ hG)) rfl (by omega) (by decide) ?_
    rw [hd205_3]
    refine gf_iinc (1) dX2_settleAll_38 rfl rfl (Nat.le_of_ble_eq_true rfl) ?_
    refine gf_goto 10 dX2_settleAll_41 rfl ?_
    exact gf_hE (rfl) (gf_lw (ih (jz + 1) (by omega)) ⟨rfl, rfl, lvE (nI_1 jz), trivial⟩)
theorem l_X2_sa2_205 (E : gE) {d : Nat} {p : Nat} (h : hp_T) (hG : gr h) (X : Nat → Nat → Int32) (R : Nat → Int64) (S : kS) (Kn : knI h p S) {v : Option Value} {hz : hp_T} (K : gf E mX2_settleAll d 78 [(0, .ref (E.1 + 205)), (1, .ref (E.1 + 193)), (2, .int (nI (p)))] [] (hk (hcl h 205 ((itN (wsB S) X (p))) (R)) (S)) v hz) : ∀ (kz jz : Nat), jz + kz = p → gf E mX2_settleAll d 46 [(0, .ref (E.1 + 205)), (1, .ref (E.1 + 193)), (2, .int (nI (jz)))] [] (hk (hcl h 205 ((itN (wsB S) X (jz))) (R)) (S)) v hz := by
  intro kz
  induction kz with
  | zero =>
    intro jz hj
    have hj : p = jz := by omega
    subst hj
    refine gf_iload_n 2 dX2_settleAll_46 rfl rfl ?_
    refine gf_aload_n 0 dX2_settleAll_47 rfl rfl ?_
    refine gf_getR flX2_36 rfl dX2_settleAll_48 (gt_205 (gr_k _ hG)) (gp_205_5 (gr_k _ hG)) ?_
    refine gf_getI flX2_50 rfl dX2_settleAll_51 (gt_165 (gr_k _ hG)) ?_
    refine gf_icmp_ge 78 dX2_settleAll_54 rfl (fun _ => ?_) (fun q => absurd (by rw [show hp_i (hk (hcl h 205 ((itN (wsB S) X (p))) (R)) (S)) 165 0 = nI p from Kn.1]; exact Int32.le_refl _) q)
    exact gf_lw K ⟨rfl, rfl, rfl, trivial⟩
  | succ kz ih =>
    intro jz hj
    obtain ⟨a, c2, x, ha, ea, ⟨hc2, hac⟩, hx9, hx⟩ := Kn.2.2 jz (by omega)
    have hp2 := Kn.2.1
    refine gf_iload_n 2 dX2_settleAll_46 rfl rfl ?_
    refine gf_aload_n 0 dX2_settleAll_47 rfl rfl ?_
    refine gf_getR flX2_36 rfl dX2_settleAll_48 (gt_205 (gr_k _ hG)) (gp_205_5 (gr_k _ hG)) ?_
    refine gf_getI flX2_50 rfl dX2_settleAll_51 (gt_165 (gr_k _ hG)) ?_
    refine gf_icmp_ge 78 dX2_settleAll_54 rfl (fun q => absurd q (by rw [show hp_i (hk (hcl h 205 ((itN (wsB S) X (jz))) (R)) (S)) 165 0 = nI p from Kn.1]; exact nI_ge (by omega) (by have := Kn.2.1; omega))) (fun _ => ?_)
    refine gf_aload_n 0 dX2_settleAll_57 rfl rfl ?_
    refine gf_getR flX2_9 rfl dX2_settleAll_58 (gt_205 (gr_k _ hG)) (gp_205_0 (gr_k _ hG)) ?_
    refine gf_aload_n 0 dX2_settleAll_61 rfl rfl ?_
    refine gf_getR flX2_36 rfl dX2_settleAll_62 (gt_205 (gr_k _ hG)) (gp_205_5 (gr_k _ hG)) ?_
    refine gf_getR flX2_56 rfl dX2_settleAll_65 (gt_165 (gr_k _ hG)) (gp_165_2 (gr_k _ hG)) ?_
    refine gf_iload_n 2 dX2_settleAll_68 rfl rfl ?_
    refine gf_iald 200 dX2_settleAll_69 (gt_167 (gr_k _ hG)) (gl_167 (gr_k _ hG)) rfl (by omega) (by decide) ?_
    refine gf_iconst (1) dX2_settleAll_70 rfl ?_
    refine gf_zast 201 dX2_settleAll_71 (gt_206 (gr_k _ hG)) (gl_206 (gr_k _ hG)) ea (by omega) (by decide) rfl ?_
    refine gf_iinc (1) dX2_settleAll_72 rfl rfl (Nat.le_of_ble_eq_true rfl) ?_
    refine gf_goto 46 dX2_settleAll_75 rfl ?_
    exact gf_hE (by rw [hd205_1, show (itN (wsB S) X (jz + 1)) = up2 (itN (wsB S) X (jz)) 1 a 1 from by show wsB S _ jz = _; unfold wsB; rw [ea, nI_clamp (by omega)]]) (gf_lw (ih (jz + 1) (by omega)) ⟨rfl, rfl, lvE (nI_1 jz), trivial⟩)
theorem l_X2_sa3_205 (E : gE) {d : Nat} (hd : 7 ≤ d) {w g p : Nat} (h : hp_T) (hG : gr h) (C : cty (hp_i h) w g) (Z : cS) (hT : ∀ o, o < 9 → ∀ b, Z.2.2 o = some b → tOK h b) (Kn : knI h p Z.2) (hM : ∀ c, c < 120 → 0 < Z.2.1 4 c → c < w * g) {v : Option Value} {hz : hp_T} (K : gf E mX2_settleAll d 124 [(0, .ref (E.1 + 205)), (1, .ref (E.1 + 193)), (2, .int (nI ((120 : Nat))))] [] (hk (hcl h 205 (itN (saB h w g p (hp_i h 195)) Z ((120 : Nat))).1.1 (itN (saB h w g p (hp_i h 195)) Z ((120 : Nat))).1.2) (itN (saB h w g p (hp_i h 195)) Z ((120 : Nat))).2) v hz) : ∀ (kz jz : Nat), jz + kz = (120 : Nat) → gf E mX2_settleAll d 80 [(0, .ref (E.1 + 205)), (1, .ref (E.1 + 193)), (2, .int (nI (jz)))] [] (hk (hcl h 205 (itN (saB h w g p (hp_i h 195)) Z (jz)).1.1 (itN (saB h w g p (hp_i h 195)) Z (jz)).1.2) (itN (saB h w g p (hp_i h 195)) Z (jz)).2) v hz := by
  intro kz
  induction kz with
  | zero =>
    intro jz hj
    have hj : (120 : Nat) = jz := by omega
    subst hj
    refine gf_iload_n 2 dX2_settleAll_80 rfl rfl ?_
    refine gf_bipush (120) dX2_settleAll_81 rfl ?_
    refine gf_icmp_ge 124 dX2_settleAll_83 rfl (fun _ => ?_) (fun q => absurd (Int32.le_refl _) q)
    exact gf_lw K ⟨rfl, rfl, rfl, trivial⟩
  | succ kz ih =>
    intro jz hj
    refine gf_iload_n 2 dX2_settleAll_80 rfl rfl ?_
    refine gf_bipush (120) dX2_settleAll_81 rfl ?_
    refine gf_icmp_ge 124 dX2_settleAll_83 rfl (fun q => absurd q (nI_ge (b := 120) (by omega) (by omega))) (fun _ => ?_)
    refine gf_aload_n 0 dX2_settleAll_86 rfl rfl ?_
    refine gf_getR flX2_36 rfl dX2_settleAll_87 (gt_205 (gr_k _ hG)) (gp_205_5 (gr_k _ hG)) ?_
    refine gf_getR flX2_59 rfl dX2_settleAll_90 (gt_165 (gr_k _ hG)) (gp_165_4 (gr_k _ hG)) ?_
    refine gf_iload_n 2 dX2_settleAll_93 rfl rfl ?_
    refine gf_iald 120 dX2_settleAll_94 (gt_169 (gr_k _ hG)) (gl_169 (gr_k _ hG)) rfl (by omega) (by decide) ?_
    refine gf_if_le 118 dX2_settleAll_95 rfl (fun zc95 => ?_) (fun zc95 => ?_)
    · refine gf_iinc (1) dX2_settleAll_118 rfl rfl (Nat.le_of_ble_eq_true rfl) ?_
      refine gf_goto 80 dX2_settleAll_121 rfl ?_
      exact gf_hE (by rw [show (itN (saB h w g p (hp_i h 195)) Z (jz + 1)) = (itN (saB h w g p (hp_i h 195)) Z (jz)) from if_neg (fun q => by have q1 := q.1; rw [fa_lt, ti_0] at q1; have q2 : (itN (saB h w g p (hp_i h 195)) Z (jz)).2.1 4 jz ≤ 0 := zc95; rw [fa_le, ti_0] at q2; omega)]) (gf_lw (ih (jz + 1) (by omega)) ⟨rfl, rfl, lvE (nI_1 jz), trivial⟩)
    · have hm0 : 0 < (itN (saB h w g p (hp_i h 195)) Z (jz)).2.1 4 jz := by have q2 : ¬ (itN (saB h w g p (hp_i h 195)) Z (jz)).2.1 4 jz ≤ 0 := zc95; rw [fa_le, ti_0] at q2; rw [fa_lt, ti_0]; omega
      have hcw : jz < w * g := hM jz (by omega) (by have q := hm0; rw [(congrFun (sa_row h w g p (hp_i h 195) Z (r := 4) (by decide) (by decide) (by decide) jz) jz)] at q; exact q)
      refine gf_aload_n 1 dX2_settleAll_98 rfl rfl ?_
      refine gf_getR flX2_62 rfl dX2_settleAll_99 (gt_193 (gr_k _ hG)) (gp_193_4 (gr_k _ hG)) ?_
      refine gf_iload_n 2 dX2_settleAll_102 rfl rfl ?_
      refine gf_iald 120 dX2_settleAll_103 (gt_195 (gr_k _ hG)) (gl_195 (gr_k _ hG)) rfl (by omega) (by decide) ?_
      refine gf_if_le 118 dX2_settleAll_104 rfl (fun zc104 => ?_) (fun zc104 => ?_)
      · refine gf_iinc (1) dX2_settleAll_118 rfl rfl (Nat.le_of_ble_eq_true rfl) ?_
        refine gf_goto 80 dX2_settleAll_121 rfl ?_
        exact gf_hE (by rw [show (itN (saB h w g p (hp_i h 195)) Z (jz + 1)) = (itN (saB h w g p (hp_i h 195)) Z (jz)) from if_neg (fun q => by have q1 := q.2; rw [fa_lt, ti_0] at q1; have q2 : (hp_i h 195) jz ≤ 0 := zc104; rw [fa_le, ti_0] at q2; omega)]) (gf_lw (ih (jz + 1) (by omega)) ⟨rfl, rfl, lvE (nI_1 jz), trivial⟩)
      · refine gf_aload_n 0 dX2_settleAll_107 rfl rfl ?_
        refine gf_iload_n 2 dX2_settleAll_108 rfl rfl ?_
        refine gf_aload_n 1 dX2_settleAll_109 rfl rfl ?_
        refine gf_getR flX2_62 rfl dX2_settleAll_110 (gt_193 (gr_k _ hG)) (gp_193_4 (gr_k _ hG)) ?_
        refine gf_iload_n 2 dX2_settleAll_113 rfl rfl ?_
        refine gf_iald 120 dX2_settleAll_114 (gt_195 (gr_k _ hG)) (gl_195 (gr_k _ hG)) rfl (by omega) (by decide) ?_
        refine gf_callV cmX2_settleHouse lkX2_67 imX2_settleHouse seX2_settleHouse ⟨rfl, by decide⟩ dX2_settleAll_115 (d1 := d - 1) (by omega) (gt_205 (gr_k _ hG)) (e_X2_settleHouse_205 E (by omega) (hp_i h 195 jz) h hG C (itN (saB h w g p (hp_i h 195)) Z (jz)).1.1 (itN (saB h w g p (hp_i h 195)) Z (jz)).1.2 (itN (saB h w g p (hp_i h 195)) Z (jz)).2 (fun o ho b hb => hT o ho b (by rw [← sa_2 h w g p (hp_i h 195) Z jz]; exact hb)) (knI_row Kn (sa_row _ _ _ _ _ _ (by decide) (by decide) (by decide) _) (sa_row _ _ _ _ _ _ (by decide) (by decide) (by decide) _)) hcw) rfl rfl (Nat.le_of_ble_eq_true rfl) ?_
        refine gf_iinc (1) dX2_settleAll_118 rfl rfl (Nat.le_of_ble_eq_true rfl) ?_
        refine gf_goto 80 dX2_settleAll_121 rfl ?_
        exact gf_hE (by rw [show (itN (saB h w g p (hp_i h 195)) Z (jz + 1)) = stlS h w g jz ((hp_i h 195) jz) (itN (saB h w g p (hp_i h 195)) Z (jz)) p from if_pos ⟨hm0, by have q2 : ¬ (hp_i h 195) jz ≤ 0 := zc104; rw [fa_le, ti_0] at q2; rw [fa_lt, ti_0]; omega⟩]) (gf_lw (ih (jz + 1) (by omega)) ⟨rfl, rfl, lvE (nI_1 jz), trivial⟩)
theorem l_X2_sa4_205 (E : gE) {d : Nat} {p : Nat} (h : hp_T) (hG : gr h) (X : Nat → Nat → Int32) (R : Nat → Int64) (S : kS) (Kn : knI h p S) {v : Option Value} {hz : hp_T} (K : gf E mX2_settleAll d 176 [(0, .ref (E.1 + 205)), (1, .ref (E.1 + 193)), (2, .int (nI (p)))] [] (hk (hcl h 205 ((itN (boB h S) X (p))) (R)) (S)) v hz) : ∀ (kz jz : Nat), jz + kz = p → gf E mX2_settleAll d 126 [(0, .ref (E.1 + 205)), (1, .ref (E.1 + 193)), (2, .int (nI (jz)))] [] (hk (hcl h 205 ((itN (boB h S) X (jz))) (R)) (S)) v hz := by
  intro kz
  induction kz with
  | zero =>
    intro jz hj
    have hj : p = jz := by omega
    subst hj
    refine gf_iload_n 2 dX2_settleAll_126 rfl rfl ?_
    refine gf_aload_n 0 dX2_settleAll_127 rfl rfl ?_
    refine gf_getR flX2_36 rfl dX2_settleAll_128 (gt_205 (gr_k _ hG)) (gp_205_5 (gr_k _ hG)) ?_
    refine gf_getI flX2_50 rfl dX2_settleAll_131 (gt_165 (gr_k _ hG)) ?_
    refine gf_icmp_ge 176 dX2_settleAll_134 rfl (fun _ => ?_) (fun q => absurd (by rw [show hp_i (hk (hcl h 205 ((itN (boB h S) X (p))) (R)) (S)) 165 0 = nI p from Kn.1]; exact Int32.le_refl _) q)
    exact gf_lw K ⟨rfl, rfl, rfl, trivial⟩
  | succ kz ih =>
    intro jz hj
    obtain ⟨a, c2, x, ha, ea, ⟨hc2, hac⟩, hx9, hx⟩ := Kn.2.2 jz (by omega)
    have hp2 := Kn.2.1
    refine gf_iload_n 2 dX2_settleAll_126 rfl rfl ?_
    refine gf_aload_n 0 dX2_settleAll_127 rfl rfl ?_
    refine gf_getR flX2_36 rfl dX2_settleAll_128 (gt_205 (gr_k _ hG)) (gp_205_5 (gr_k _ hG)) ?_
    refine gf_getI flX2_50 rfl dX2_settleAll_131 (gt_165 (gr_k _ hG)) ?_
    refine gf_icmp_ge 176 dX2_settleAll_134 rfl (fun q => absurd q (by rw [show hp_i (hk (hcl h 205 ((itN (boB h S) X (jz))) (R)) (S)) 165 0 = nI p from Kn.1]; exact nI_ge (by omega) (by have := Kn.2.1; omega))) (fun _ => ?_)
    refine gf_aload_n 0 dX2_settleAll_137 rfl rfl ?_
    refine gf_getR flX2_36 rfl dX2_settleAll_138 (gt_205 (gr_k _ hG)) (gp_205_5 (gr_k _ hG)) ?_
    refine gf_getR flX2_56 rfl dX2_settleAll_141 (gt_165 (gr_k _ hG)) (gp_165_2 (gr_k _ hG)) ?_
    refine gf_iload_n 2 dX2_settleAll_144 rfl rfl ?_
    refine gf_iald 200 dX2_settleAll_145 (gt_167 (gr_k _ hG)) (gl_167 (gr_k _ hG)) rfl (by omega) (by decide) ?_
    refine gf_istore_n 3 dX2_settleAll_146 rfl (Nat.le_of_ble_eq_true rfl) ?_
    refine gf_aload_n 0 dX2_settleAll_147 rfl rfl ?_
    refine gf_getR flX2_22 rfl dX2_settleAll_148 (gt_205 (gr_k _ hG)) (gp_205_3 (gr_k _ hG)) ?_
    refine gf_aload_n 0 dX2_settleAll_151 rfl rfl ?_
    refine gf_getR flX2_32 rfl dX2_settleAll_152 (gt_205 (gr_k _ hG)) (gp_205_4 (gr_k _ hG)) ?_
    refine gf_getR flX2_71 rfl dX2_settleAll_155 (gt_158 (gr_k _ hG)) (gp_158_2 (gr_k _ hG)) ?_
    refine gf_iload_n 3 dX2_settleAll_158 rfl rfl ?_
    refine gf_iald 201 dX2_settleAll_159 (gt_159 (gr_k _ hG)) (gl_159 (gr_k _ hG)) ea (by omega) (by decide) ?_
    refine gf_dup2 dX2_settleAll_160 rfl rfl ?_
    refine gf_iald 9 dX2_settleAll_161 (gt_209 (gr_k _ hG)) (gl_209 (gr_k _ hG)) hx hx9 (by decide) ?_
    refine gf_aload_n 0 dX2_settleAll_162 rfl rfl ?_
    refine gf_getR flX2_19 rfl dX2_settleAll_163 (gt_205 (gr_k _ hG)) (gp_205_2 (gr_k _ hG)) ?_
    refine gf_iload_n 3 dX2_settleAll_166 rfl rfl ?_
    refine gf_iald 201 dX2_settleAll_167 (gt_208 (gr_k _ hG)) (gl_208 (gr_k _ hG)) ea (by omega) (by decide) ?_
    refine gf_iadd dX2_settleAll_168 ?_
    refine gf_iast 9 dX2_settleAll_169 (gt_209 (gr_k _ hG)) (gl_209 (gr_k _ hG)) hx hx9 (by decide) ?_
    refine gf_iinc (1) dX2_settleAll_170 rfl rfl (Nat.le_of_ble_eq_true rfl) ?_
    refine gf_goto 126 dX2_settleAll_173 rfl ?_
    exact gf_hE (by rw [hd205_4, show (itN (boB h S) X (jz + 1)) = up2 (itN (boB h S) X (jz)) 4 x ((itN (boB h S) X (jz)) 4 x + (itN (boB h S) X (jz)) 3 a) from by show boB h S _ jz = _; unfold boB; rw [ea, nI_clamp (by omega), hx, nI_clamp (by omega)]]; rfl) (gf_lw (ih (jz + 1) (by omega)) ⟨rfl, rfl, lvE (nI_1 jz), trivial⟩)
theorem e_X2_settleAll_205 (E : gE) {d : Nat} (hd : 7 ≤ d) {w g p : Nat} (h : hp_T) (hG : gr h) (C : cty (hp_i h) w g) (X : Nat → Nat → Int32) (R : Nat → Int64) (S : kS) (hT : ∀ o, o < 9 → ∀ b, S.2 o = some b → tOK h b) (Kn : knI h p S) (hM : ∀ c, c < 120 → 0 < S.1 4 c → c < w * g) : ev E mX2_settleAll d [.ref (E.1 + 205), .ref (E.1 + 193)] (hk (hcl h 205 X R) S) (none) (hk (hcl h 205 (saS h w g p (hp_i h 195) ((X, R), S)).1.1 (saS h w g p (hp_i h 195) ((X, R), S)).1.2) (saS h w g p (hp_i h 195) ((X, R), S)).2) := by
  refine ev_of rfl (fun q => absurd q (by decide)) (Nat.le_of_ble_eq_true rfl) ?_
  refine gf_aload_n 0 dX2_settleAll_0 rfl rfl ?_
  refine gf_getR flX2_22 rfl dX2_settleAll_1 (gt_205 (gr_k _ hG)) (gp_205_3 (gr_k _ hG)) ?_
  refine gf_iconst (0) dX2_settleAll_4 rfl ?_
  refine gf_callS cmJ7_fill_53178 lkX2_44 stJ7_fill_53178 dX2_settleAll_5 (d1 := d - 1) (by omega) ((e_fill E (by omega) (m := 209) (N := 9) 0 (hk (hcl h 205 X R) S) ⟨gt_209 (gr_k _ hG), gl_209 (gr_k _ hG)⟩ (by omega))) rfl rfl (Nat.le_of_ble_eq_true rfl) ?_
  rw [hdw205_4]
  refine gf_iconst (0) dX2_settleAll_8 rfl ?_
  refine gf_istore_n 2 dX2_settleAll_9 rfl (Nat.le_of_ble_eq_true rfl) ?_
  refine l_X2_sa1_205 E h hG (upr X 4 (fa_fill (fun _ => 0) (X 4) 9)) R S ?_ 201 0 (by omega)
  refine gf_iconst (0) dX2_settleAll_44 rfl ?_
  refine gf_istore_n 2 dX2_settleAll_45 rfl (Nat.le_of_ble_eq_true rfl) ?_
  refine l_X2_sa2_205 E h hG (itN zrB (upr X 4 (fa_fill (fun _ => 0) (X 4) 9)) 201) R S Kn ?_ p 0 (by omega)
  refine gf_iconst (0) dX2_settleAll_78 rfl ?_
  refine gf_istore_n 2 dX2_settleAll_79 rfl (Nat.le_of_ble_eq_true rfl) ?_
  refine l_X2_sa3_205 E (by omega) (w := w) (g := g) (p := p) h hG C ((saX S p X, R), S) hT Kn hM ?_ 120 0 (by omega)
  rw [show itN (saB h w g p (hp_i h 195)) ((saX S p X, R), S) 120 = (saZ h w g p (hp_i h 195) ((X, R), S)) from by unfold saZ; rfl]
  generalize hZ3 : (saZ h w g p (hp_i h 195) ((X, R), S)) = z3
  have Kn3 : knI h p z3.2 := hZ3 ▸ saZ_kn w g (hp_i h 195) (Z := ((X, R), S)) Kn
  rw [show (saS h w g p (hp_i h 195) ((X, R), S)) = ((itN (boB h z3.2) z3.1.1 p, z3.1.2), z3.2) from by unfold saS; rw [hZ3]]
  refine gf_iconst (0) dX2_settleAll_124 rfl ?_
  refine gf_istore_n 2 dX2_settleAll_125 rfl (Nat.le_of_ble_eq_true rfl) ?_
  refine l_X2_sa4_205 E (p := p) h hG z3.1.1 z3.1.2 z3.2 Kn3 ?_ p 0 (by omega)
  exact gf_vretE dX2_settleAll_176 rfl (rfl)
