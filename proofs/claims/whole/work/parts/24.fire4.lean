/-! ===== the class's Fire: made ready, counted ===== -/
theorem zb_vp {p : Prop} [Decidable p] : vp_nar .boolean (zb p) = zb p := by
  by_cases h : p
  · rw [zb_t h]; rfl
  · rw [zb_f h]; rfl
theorem vp_01 {x : Int32} (h : x = 0 ∨ x = 1) : vp_nar .boolean x = x := by
  rcases h with h | h <;> (rw [h]; rfl)
theorem fu_pos {k : Nat} (hk : k < 4) : ¬ (gf_sc 3).getD k 0 ≤ 0 ∧ ¬ (gf_sc 3).getD k 0 = 0 := by
  rcases (show k = 0 ∨ k = 1 ∨ k = 2 ∨ k = 3 by omega) with h | h | h | h <;> (rw [h]; decide)
def tlyV (F : Nat → Nat → Int32) (X : Nat → Nat → Int32) (c : Nat) : Int32 := if X 1 c = 0 then 0 else F 5 c * X 6 c / fuW (F 3) c
def tlyB (F : Nat → Nat → Int32) (X : Nat → Nat → Int32) (c : Nat) : Nat → Nat → Int32 := up2 (up2 X 2 c (tlyV F X c)) 0 2 (X 0 2 + tlyV F X c)
theorem tlyB_e (F : Nat → Nat → Int32) (X : Nat → Nat → Int32) (c : Nat) : tlyB F X c = up2 (up2 X 2 c (tlyV F X c)) 0 2 (X 0 2 + tlyV F X c) := rfl
def rdyB (F : Nat → Nat → Int32) (w g : Nat) (X : Nat → Nat → Int32) (c : Nat) : Nat → Nat → Int32 := up2 (up2 (up2 (up2 (up2 (up2 (up2 X 1 c (F 2 c)) 3 c 0) 4 c 0) 5 c 0) 6 c 0) 7 c (-1)) 8 c (zb (anyb (plN (F 6) w c) (w * g) = true))
def rdyE (F : Nat → Nat → Int32) (X : Nat → Nat → Int32) (e : Nat) : Nat → Nat → Int32 := up2 (up2 (up2 X 9 e (F 147 e)) 10 e (-1)) 11 e (-1)
def rdyX (F : Nat → Nat → Int32) (w g m : Nat) (X : Nat → Nat → Int32) : Nat → Nat → Int32 := itN (rdyE F) (up2 (itN (rdyB F w g) (up2 X 0 0 1) (w * g)) 0 1 (F 145 0)) m
theorem l_X5_tally_174 (E : gE) {d : Nat} (hd : 1 ≤ d) (h : hp_T) (hG : gr h) (X : Nat → Nat → Int32) {w g : Nat} (C : cty (hp_i h) w g) (hwl : ∀ c, c < 120 → ∃ k, k < 4 ∧ hp_i h 3 c = nI k) {v : Option Value} {hz : hp_T} (K : gf E mX5_tally d 89 [(0, .ref (E.1 + 174)), (1, .int (nI (w * g)))] [] (hb h 174 12 (itN (tlyB (hp_i h)) X (w * g))) v hz) : ∀ (kz jz : Nat), jz + kz = w * g → gf E mX5_tally d 7 [(0, .ref (E.1 + 174)), (1, .int (nI (jz)))] [] (hb h 174 12 (itN (tlyB (hp_i h)) X (jz))) v hz := by
  have hn := cty_n C
  intro kz
  induction kz with
  | zero =>
    intro jz hj
    have hj : w * g = jz := by omega
    subst hj
    refine gf_iload_n 1 dX5_tally_7 rfl rfl ?_
    refine gf_aload_n 0 dX5_tally_8 rfl rfl ?_
    refine gf_getR flX5_46 rfl dX5_tally_9 (gt_174 hG) (gp_174_5 hG) ?_
    refine gf_getI flX5_79 rfl dX5_tally_12 (gt_1 hG) ?_
    refine gf_icmp_ge 89 dX5_tally_15 rfl (fun _ => ?_) (fun q => absurd (by rw [show hp_i (hb h 174 12 ((itN (tlyB (hp_i h)) X (w * g)))) 1 2 = nI (w * g) from C.2.2.2.1]; exact nI_le (Nat.le_refl _) (by omega)) q)
    exact gf_lw K ⟨rfl, rfl, trivial⟩
  | succ kz ih =>
    intro jz hj
    obtain ⟨kw, hk4, hkw⟩ := hwl jz (by omega)
    refine gf_iload_n 1 dX5_tally_7 rfl rfl ?_
    refine gf_aload_n 0 dX5_tally_8 rfl rfl ?_
    refine gf_getR flX5_46 rfl dX5_tally_9 (gt_174 hG) (gp_174_5 hG) ?_
    refine gf_getI flX5_79 rfl dX5_tally_12 (gt_1 hG) ?_
    refine gf_icmp_ge 89 dX5_tally_15 rfl (fun q => absurd q (by rw [show hp_i (hb h 174 12 ((itN (tlyB (hp_i h)) X (jz)))) 1 2 = nI (w * g) from C.2.2.2.1]; exact nI_ge (by omega) (by omega))) (fun _ => ?_)
    refine gf_aload_n 0 dX5_tally_18 rfl rfl ?_
    refine gf_getR flX5_46 rfl dX5_tally_19 (gt_174 hG) (gp_174_5 hG) ?_
    refine gf_iload_n 1 dX5_tally_22 rfl rfl ?_
    refine gf_callV cmX1_fuelOf lkX5_109 imX1_fuelOf seX1_fuelOf ⟨rfl, by decide⟩ dX5_tally_23 (d1 := d - 1) (by omega) (gt_1 hG) (e_X1_fuelOf E (by omega) (c := jz) (k := kw) (by omega) _ hG hkw hk4) rfl rfl (Nat.le_of_ble_eq_true rfl) ?_
    refine gf_istore_n 2 dX5_tally_26 rfl (Nat.le_of_ble_eq_true rfl) ?_
    refine gf_aload_n 0 dX5_tally_27 rfl rfl ?_
    refine gf_getR flX5_15 rfl dX5_tally_28 (gt_174 hG) (gp_174_4 hG) ?_
    refine gf_iload_n 1 dX5_tally_31 rfl rfl ?_
    refine gf_aload_n 0 dX5_tally_32 rfl rfl ?_
    refine gf_getR flX5_9 rfl dX5_tally_33 (gt_174 hG) (gp_174_3 hG) ?_
    refine gf_iload_n 1 dX5_tally_36 rfl rfl ?_
    refine gf_zald 120 dX5_tally_37 (gt_175 hG) (gl_175 hG) rfl (by omega) (by decide) ?_
    refine gf_if_eq 66 dX5_tally_38 rfl (fun zc38 => ?_) (fun zc38 => ?_)
    · refine gf_iconst (0) dX5_tally_66 rfl ?_
      refine gf_iast 120 dX5_tally_67 (gt_176 hG) (gl_176 hG) rfl (by omega) (by decide) ?_
      refine gf_aload_n 0 dX5_tally_68 rfl rfl ?_
      refine gf_dup dX5_tally_69 rfl ?_
      refine gf_getI flX5_180 rfl dX5_tally_70 (gt_174 hG) ?_
      refine gf_aload_n 0 dX5_tally_73 rfl rfl ?_
      refine gf_getR flX5_15 rfl dX5_tally_74 (gt_174 hG) (gp_174_4 hG) ?_
      refine gf_iload_n 1 dX5_tally_77 rfl rfl ?_
      refine gf_iald 120 dX5_tally_78 (gt_176 hG) (gl_176 hG) rfl (by omega) (by decide) ?_
      refine gf_iadd dX5_tally_79 ?_
      refine gf_putI flX5_180 rfl rfl dX5_tally_80 (gt_174 hG) ⟨rfl, rfl⟩ ?_
      refine gf_iinc (1) dX5_tally_83 rfl rfl (Nat.le_of_ble_eq_true rfl) ?_
      refine gf_goto 7 dX5_tally_86 rfl ?_
      exact gf_hE (by have ev : tlyV (hp_i h) (itN (tlyB (hp_i h)) X (jz)) jz = 0 := if_pos zc38; rw [hs174_2]; refine (hs174_0 h _ 2 _).trans (congrArg (hb h 174 12) ?_); show _ = tlyB (hp_i h) (itN (tlyB (hp_i h)) X (jz)) jz; rw [tlyB_e (hp_i h) (itN (tlyB (hp_i h)) X (jz)) jz, ev]; exact congrArg (up2 _ 0 2) (congrArg ((itN (tlyB (hp_i h)) X (jz)) 0 2 + ·) (up2_s _ _ _ _))) (gf_lw (ih (jz + 1) (by omega)) ⟨rfl, lvE (nI_1 jz), trivial⟩)
    · refine gf_iload_n 2 dX5_tally_41 rfl rfl ?_
      refine gf_if_le 66 dX5_tally_42 rfl (fun q => absurd q ((fu_pos hk4).1)) (fun _ => ?_)
      refine gf_aload_n 0 dX5_tally_45 rfl rfl ?_
      refine gf_getR flX5_46 rfl dX5_tally_46 (gt_174 hG) (gp_174_5 hG) ?_
      refine gf_getR flX5_183 rfl dX5_tally_49 (gt_1 hG) (gp_1_6 hG) ?_
      refine gf_iload_n 1 dX5_tally_52 rfl rfl ?_
      refine gf_iald 120 dX5_tally_53 (gt_5 hG) (gl_5 hG) rfl (by omega) (by decide) ?_
      refine gf_aload_n 0 dX5_tally_54 rfl rfl ?_
      refine gf_getR flX5_28 rfl dX5_tally_55 (gt_174 hG) (gp_174_10 hG) ?_
      refine gf_iload_n 1 dX5_tally_58 rfl rfl ?_
      refine gf_iald 120 dX5_tally_59 (gt_180 hG) (gl_180 hG) rfl (by omega) (by decide) ?_
      refine gf_imul dX5_tally_60 ?_
      refine gf_iload_n 2 dX5_tally_61 rfl rfl ?_
      refine gf_idiv dX5_tally_62 (fu_pos hk4).2 ?_
      refine gf_goto 67 dX5_tally_63 rfl ?_
      refine gf_iast 120 dX5_tally_67 (gt_176 hG) (gl_176 hG) rfl (by omega) (by decide) ?_
      refine gf_aload_n 0 dX5_tally_68 rfl rfl ?_
      refine gf_dup dX5_tally_69 rfl ?_
      refine gf_getI flX5_180 rfl dX5_tally_70 (gt_174 hG) ?_
      refine gf_aload_n 0 dX5_tally_73 rfl rfl ?_
      refine gf_getR flX5_15 rfl dX5_tally_74 (gt_174 hG) (gp_174_4 hG) ?_
      refine gf_iload_n 1 dX5_tally_77 rfl rfl ?_
      refine gf_iald 120 dX5_tally_78 (gt_176 hG) (gl_176 hG) rfl (by omega) (by decide) ?_
      refine gf_iadd dX5_tally_79 ?_
      refine gf_putI flX5_180 rfl rfl dX5_tally_80 (gt_174 hG) ⟨rfl, rfl⟩ ?_
      refine gf_iinc (1) dX5_tally_83 rfl rfl (Nat.le_of_ble_eq_true rfl) ?_
      refine gf_goto 7 dX5_tally_86 rfl ?_
      exact gf_hE (by have ev : tlyV (hp_i h) (itN (tlyB (hp_i h)) X (jz)) jz = hp_i h 5 jz * (itN (tlyB (hp_i h)) X (jz)) 6 jz / (gf_sc 3).getD kw 0 := (if_neg zc38).trans (by unfold fuW; rw [hkw, nI_clamp (by omega)]); rw [hs174_2]; refine (hs174_0 h _ 2 _).trans (congrArg (hb h 174 12) ?_); show _ = tlyB (hp_i h) (itN (tlyB (hp_i h)) X (jz)) jz; rw [tlyB_e (hp_i h) (itN (tlyB (hp_i h)) X (jz)) jz, ev]; exact congrArg (up2 _ 0 2) (congrArg ((itN (tlyB (hp_i h)) X (jz)) 0 2 + ·) (up2_s _ _ _ _))) (gf_lw (ih (jz + 1) (by omega)) ⟨rfl, lvE (nI_1 jz), trivial⟩)
theorem e_X5_tally_174 (E : gE) {d : Nat} (hd : 1 ≤ d) (h : hp_T) (hG : gr h) (X : Nat → Nat → Int32) {w g : Nat} (C : cty (hp_i h) w g) (hwl : ∀ c, c < 120 → ∃ k, k < 4 ∧ hp_i h 3 c = nI k) : ev E mX5_tally d [.ref (E.1 + 174)] (hb h 174 12 X) (none) (hb h 174 12 (itN (tlyB (hp_i h)) (up2 X 0 2 0) (w * g))) := by
  refine ev_of rfl (fun q => absurd q (by decide)) (Nat.le_of_ble_eq_true rfl) ?_
  refine gf_aload_n 0 dX5_tally_0 rfl rfl ?_
  refine gf_iconst (0) dX5_tally_1 rfl ?_
  refine gf_putI flX5_180 rfl rfl dX5_tally_2 (gt_174 hG) ⟨rfl, rfl⟩ ?_
  refine gf_iconst (0) dX5_tally_5 rfl ?_
  refine gf_istore_n 1 dX5_tally_6 rfl (Nat.le_of_ble_eq_true rfl) ?_
  rw [hs174_0]
  refine l_X5_tally_174 E hd h hG (up2 X 0 2 0) C hwl ?_ (w * g) 0 (by omega)
  exact gf_vretE dX5_tally_89 rfl (rfl)
theorem l_X5_rdy_174 (E : gE) {d : Nat} (hd : 3 ≤ d) (h : hp_T) (hG : gr h) (X : Nat → Nat → Int32) {w g : Nat} (C : cty (hp_i h) w g) (hst : ∀ c, c < 120 → hp_i h 2 c = 0 ∨ hp_i h 2 c = 1) {v : Option Value} {hz : hp_T} (K : gf E mX5_makeReady d 88 [(0, .ref (E.1 + 174)), (1, .int (nI (w * g)))] [] (hb h 174 12 (itN (rdyB (hp_i h) w g) X (w * g))) v hz) : ∀ (kz jz : Nat), jz + kz = w * g → gf E mX5_makeReady d 7 [(0, .ref (E.1 + 174)), (1, .int (nI (jz)))] [] (hb h 174 12 (itN (rdyB (hp_i h) w g) X (jz))) v hz := by
  have hn := cty_n C
  intro kz
  induction kz with
  | zero =>
    intro jz hj
    have hj : w * g = jz := by omega
    subst hj
    refine gf_iload_n 1 dX5_makeReady_7 rfl rfl ?_
    refine gf_aload_n 0 dX5_makeReady_8 rfl rfl ?_
    refine gf_getR flX5_46 rfl dX5_makeReady_9 (gt_174 hG) (gp_174_5 hG) ?_
    refine gf_getI flX5_79 rfl dX5_makeReady_12 (gt_1 hG) ?_
    refine gf_icmp_ge 88 dX5_makeReady_15 rfl (fun _ => ?_) (fun q => absurd (by rw [show hp_i (hb h 174 12 ((itN (rdyB (hp_i h) w g) X (w * g)))) 1 2 = nI (w * g) from C.2.2.2.1]; exact nI_le (Nat.le_refl _) (by omega)) q)
    exact gf_lw K ⟨rfl, rfl, trivial⟩
  | succ kz ih =>
    intro jz hj
    refine gf_iload_n 1 dX5_makeReady_7 rfl rfl ?_
    refine gf_aload_n 0 dX5_makeReady_8 rfl rfl ?_
    refine gf_getR flX5_46 rfl dX5_makeReady_9 (gt_174 hG) (gp_174_5 hG) ?_
    refine gf_getI flX5_79 rfl dX5_makeReady_12 (gt_1 hG) ?_
    refine gf_icmp_ge 88 dX5_makeReady_15 rfl (fun q => absurd q (by rw [show hp_i (hb h 174 12 ((itN (rdyB (hp_i h) w g) X (jz)))) 1 2 = nI (w * g) from C.2.2.2.1]; exact nI_ge (by omega) (by omega))) (fun _ => ?_)
    refine gf_aload_n 0 dX5_makeReady_18 rfl rfl ?_
    refine gf_getR flX5_9 rfl dX5_makeReady_19 (gt_174 hG) (gp_174_3 hG) ?_
    refine gf_iload_n 1 dX5_makeReady_22 rfl rfl ?_
    refine gf_aload_n 0 dX5_makeReady_23 rfl rfl ?_
    refine gf_getR flX5_46 rfl dX5_makeReady_24 (gt_174 hG) (gp_174_5 hG) ?_
    refine gf_getR flX5_85 rfl dX5_makeReady_27 (gt_1 hG) (gp_1_3 hG) ?_
    refine gf_iload_n 1 dX5_makeReady_30 rfl rfl ?_
    refine gf_zald 120 dX5_makeReady_31 (gt_2 hG) (gl_2 hG) rfl (by omega) (by decide) ?_
    refine gf_zast 120 dX5_makeReady_32 (gt_175 hG) (gl_175 hG) rfl (by omega) (by decide) (vp_01 (hst jz (by omega))) ?_
    refine gf_aload_n 0 dX5_makeReady_33 rfl rfl ?_
    refine gf_getR flX5_19 rfl dX5_makeReady_34 (gt_174 hG) (gp_174_7 hG) ?_
    refine gf_iload_n 1 dX5_makeReady_37 rfl rfl ?_
    refine gf_iconst (0) dX5_makeReady_38 rfl ?_
    refine gf_iast 120 dX5_makeReady_39 (gt_177 hG) (gl_177 hG) rfl (by omega) (by decide) ?_
    refine gf_aload_n 0 dX5_makeReady_40 rfl rfl ?_
    refine gf_getR flX5_22 rfl dX5_makeReady_41 (gt_174 hG) (gp_174_8 hG) ?_
    refine gf_iload_n 1 dX5_makeReady_44 rfl rfl ?_
    refine gf_iconst (0) dX5_makeReady_45 rfl ?_
    refine gf_iast 120 dX5_makeReady_46 (gt_178 hG) (gl_178 hG) rfl (by omega) (by decide) ?_
    refine gf_aload_n 0 dX5_makeReady_47 rfl rfl ?_
    refine gf_getR flX5_25 rfl dX5_makeReady_48 (gt_174 hG) (gp_174_9 hG) ?_
    refine gf_iload_n 1 dX5_makeReady_51 rfl rfl ?_
    refine gf_iconst (0) dX5_makeReady_52 rfl ?_
    refine gf_iast 120 dX5_makeReady_53 (gt_179 hG) (gl_179 hG) rfl (by omega) (by decide) ?_
    refine gf_aload_n 0 dX5_makeReady_54 rfl rfl ?_
    refine gf_getR flX5_28 rfl dX5_makeReady_55 (gt_174 hG) (gp_174_10 hG) ?_
    refine gf_iload_n 1 dX5_makeReady_58 rfl rfl ?_
    refine gf_iconst (0) dX5_makeReady_59 rfl ?_
    refine gf_iast 120 dX5_makeReady_60 (gt_180 hG) (gl_180 hG) rfl (by omega) (by decide) ?_
    refine gf_aload_n 0 dX5_makeReady_61 rfl rfl ?_
    refine gf_getR flX5_31 rfl dX5_makeReady_62 (gt_174 hG) (gp_174_11 hG) ?_
    refine gf_iload_n 1 dX5_makeReady_65 rfl rfl ?_
    refine gf_iconst (-1) dX5_makeReady_66 rfl ?_
    refine gf_iast 120 dX5_makeReady_67 (gt_181 hG) (gl_181 hG) rfl (by omega) (by decide) ?_
    rw [hs174_1, hs174_3, hs174_4, hs174_5, hs174_6, hs174_7]
    refine gf_aload_n 0 dX5_makeReady_68 rfl rfl ?_
    refine gf_getR flX5_34 rfl dX5_makeReady_69 (gt_174 hG) (gp_174_12 hG) ?_
    refine gf_iload_n 1 dX5_makeReady_72 rfl rfl ?_
    refine gf_aload_n 0 dX5_makeReady_73 rfl rfl ?_
    refine gf_getR flX5_46 rfl dX5_makeReady_74 (gt_174 hG) (gp_174_5 hG) ?_
    refine gf_iload_n 1 dX5_makeReady_77 rfl rfl ?_
    refine gf_callV cmX1_plugNear lkX5_88 imX1_plugNear seX1_plugNear ⟨rfl, by decide⟩ dX5_makeReady_78 (d1 := d - 1) (by omega) (gt_1 hG) (e_X1_plugNear E (by omega) (a := jz) (hb h 174 12 _) (by exact hG) (w := w) (g := g) (cty_hb _ (by decide) C) (by omega)) rfl rfl (Nat.le_of_ble_eq_true rfl) ?_
    refine gf_zast 120 dX5_makeReady_81 (gt_182 hG) (gl_182 hG) rfl (by omega) (by decide) zb_vp ?_
    refine gf_iinc (1) dX5_makeReady_82 rfl rfl (Nat.le_of_ble_eq_true rfl) ?_
    refine gf_goto 7 dX5_makeReady_85 rfl ?_
    exact gf_hE (by rw [hs174_8]; rfl) (gf_lw (ih (jz + 1) (by omega)) ⟨rfl, lvE (nI_1 jz), trivial⟩)
theorem l_X5_rde_174 (E : gE) {d : Nat} {m : Nat} (h : hp_T) (hG : gr h) (X : Nat → Nat → Int32) (hm : hp_i h 145 0 = nI m) (hm12 : m ≤ 12) (hX : ∀ kz, (itN (rdyE (hp_i h)) X (kz)) 0 1 = nI m) {v : Option Value} {hz : hp_T} (K : gf E mX5_makeReady d 144 [(0, .ref (E.1 + 174)), (1, .int (nI (m)))] [] (hb h 174 12 (itN (rdyE (hp_i h)) X (m))) v hz) : ∀ (kz jz : Nat), jz + kz = m → gf E mX5_makeReady d 101 [(0, .ref (E.1 + 174)), (1, .int (nI (jz)))] [] (hb h 174 12 (itN (rdyE (hp_i h)) X (jz))) v hz := by
  intro kz
  induction kz with
  | zero =>
    intro jz hj
    have hj : m = jz := by omega
    subst hj
    refine gf_iload_n 1 dX5_makeReady_101 rfl rfl ?_
    refine gf_aload_n 0 dX5_makeReady_102 rfl rfl ?_
    refine gf_getI flX5_97 rfl dX5_makeReady_103 (gt_174 hG) ?_
    refine gf_icmp_ge 144 dX5_makeReady_106 rfl (fun _ => ?_) (fun q => absurd (by rw [show hp_i (hb h 174 12 (itN (rdyE (hp_i h)) X (m))) 174 1 = nI m from hX m]; exact nI_le (Nat.le_refl _) (by omega)) q)
    exact gf_lw K ⟨rfl, rfl, trivial⟩
  | succ kz ih =>
    intro jz hj
    refine gf_iload_n 1 dX5_makeReady_101 rfl rfl ?_
    refine gf_aload_n 0 dX5_makeReady_102 rfl rfl ?_
    refine gf_getI flX5_97 rfl dX5_makeReady_103 (gt_174 hG) ?_
    refine gf_icmp_ge 144 dX5_makeReady_106 rfl (fun q => absurd q (by rw [show hp_i (hb h 174 12 (itN (rdyE (hp_i h)) X (jz))) 174 1 = nI m from hX jz]; exact nI_ge (by omega) (by omega))) (fun _ => ?_)
    refine gf_aload_n 0 dX5_makeReady_109 rfl rfl ?_
    refine gf_getR flX5_37 rfl dX5_makeReady_110 (gt_174 hG) (gp_174_13 hG) ?_
    refine gf_iload_n 1 dX5_makeReady_113 rfl rfl ?_
    refine gf_aload_n 0 dX5_makeReady_114 rfl rfl ?_
    refine gf_getR flX5_50 rfl dX5_makeReady_115 (gt_174 hG) (gp_174_6 hG) ?_
    refine gf_getR flX5_100 rfl dX5_makeReady_118 (gt_145 hG) (gp_145_2 hG) ?_
    refine gf_iload_n 1 dX5_makeReady_121 rfl rfl ?_
    refine gf_iald 12 dX5_makeReady_122 (gt_147 hG) (gl_147 hG) rfl (by omega) (by decide) ?_
    refine gf_iast 12 dX5_makeReady_123 (gt_183 hG) (gl_183 hG) rfl (by omega) (by decide) ?_
    refine gf_aload_n 0 dX5_makeReady_124 rfl rfl ?_
    refine gf_getR flX5_40 rfl dX5_makeReady_125 (gt_174 hG) (gp_174_14 hG) ?_
    refine gf_iload_n 1 dX5_makeReady_128 rfl rfl ?_
    refine gf_iconst (-1) dX5_makeReady_129 rfl ?_
    refine gf_iast 12 dX5_makeReady_130 (gt_184 hG) (gl_184 hG) rfl (by omega) (by decide) ?_
    refine gf_aload_n 0 dX5_makeReady_131 rfl rfl ?_
    refine gf_getR flX5_43 rfl dX5_makeReady_132 (gt_174 hG) (gp_174_15 hG) ?_
    refine gf_iload_n 1 dX5_makeReady_135 rfl rfl ?_
    refine gf_iconst (-1) dX5_makeReady_136 rfl ?_
    refine gf_iast 12 dX5_makeReady_137 (gt_185 hG) (gl_185 hG) rfl (by omega) (by decide) ?_
    refine gf_iinc (1) dX5_makeReady_138 rfl rfl (Nat.le_of_ble_eq_true rfl) ?_
    refine gf_goto 101 dX5_makeReady_141 rfl ?_
    exact gf_hE (by rw [hs174_9, hs174_10, hs174_11]; rfl) (gf_lw (ih (jz + 1) (by omega)) ⟨rfl, lvE (nI_1 jz), trivial⟩)
theorem e_X5_makeReady_174 (E : gE) {d : Nat} (hd : 3 ≤ d) {m : Nat} (h : hp_T) (hG : gr h) (X : Nat → Nat → Int32) {w g : Nat} (C : cty (hp_i h) w g) (hst : ∀ c, c < 120 → hp_i h 2 c = 0 ∨ hp_i h 2 c = 1) (hm : hp_i h 145 0 = nI m) (hm12 : m ≤ 12) : ev E mX5_makeReady d [.ref (E.1 + 174)] (hb h 174 12 X) (none) (hb h 174 12 (rdyX (hp_i h) w g m X)) := by
  refine ev_of rfl (fun q => absurd q (by decide)) (Nat.le_of_ble_eq_true rfl) ?_
  refine gf_aload_n 0 dX5_makeReady_0 rfl rfl ?_
  refine gf_iconst (1) dX5_makeReady_1 rfl ?_
  refine gf_putI flX5_75 rfl rfl dX5_makeReady_2 (gt_174 hG) ⟨rfl, rfl⟩ ?_
  refine gf_iconst (0) dX5_makeReady_5 rfl ?_
  refine gf_istore_n 1 dX5_makeReady_6 rfl (Nat.le_of_ble_eq_true rfl) ?_
  rw [hs174_0]
  refine l_X5_rdy_174 E hd h hG (up2 X 0 0 1) C hst ?_ (w * g) 0 (by omega)
  refine gf_aload_n 0 dX5_makeReady_88 rfl rfl ?_
  refine gf_aload_n 0 dX5_makeReady_89 rfl rfl ?_
  refine gf_getR flX5_50 rfl dX5_makeReady_90 (gt_174 hG) (gp_174_6 hG) ?_
  refine gf_getI flX5_92 rfl dX5_makeReady_93 (gt_145 hG) ?_
  refine gf_putI flX5_97 rfl rfl dX5_makeReady_96 (gt_174 hG) ⟨rfl, rfl⟩ ?_
  refine gf_iconst (0) dX5_makeReady_99 rfl ?_
  refine gf_istore_n 1 dX5_makeReady_100 rfl (Nat.le_of_ble_eq_true rfl) ?_
  rw [hs174_0]
  refine l_X5_rde_174 E (d := d) h hG (up2 (itN (rdyB (hp_i h) w g) (up2 X 0 0 1) (w * g)) 0 1 (hp_i h 145 0)) hm hm12 (fun kz => ?_) ?_ m 0 (by omega)
  · induction kz with
    | zero => exact (up2_s _ _ _ _).trans hm
    | succ kz ih => exact ih
  · exact gf_vretE dX5_makeReady_144 rfl (rfl)
theorem l_X5_tally_193 (E : gE) {d : Nat} (hd : 1 ≤ d) (h : hp_T) (hG : gr h) (X : Nat → Nat → Int32) {w g : Nat} (C : cty (hp_i h) w g) (hwl : ∀ c, c < 120 → ∃ k, k < 4 ∧ hp_i h 3 c = nI k) {v : Option Value} {hz : hp_T} (K : gf E mX5_tally d 89 [(0, .ref (E.1 + 193)), (1, .int (nI (w * g)))] [] (hb h 193 12 (itN (tlyB (hp_i h)) X (w * g))) v hz) : ∀ (kz jz : Nat), jz + kz = w * g → gf E mX5_tally d 7 [(0, .ref (E.1 + 193)), (1, .int (nI (jz)))] [] (hb h 193 12 (itN (tlyB (hp_i h)) X (jz))) v hz := by
  have hn := cty_n C
  intro kz
  induction kz with
  | zero =>
    intro jz hj
    have hj : w * g = jz := by omega
    subst hj
    refine gf_iload_n 1 dX5_tally_7 rfl rfl ?_
    refine gf_aload_n 0 dX5_tally_8 rfl rfl ?_
    refine gf_getR flX5_46 rfl dX5_tally_9 (gt_193 hG) (gp_193_5 hG) ?_
    refine gf_getI flX5_79 rfl dX5_tally_12 (gt_1 hG) ?_
    refine gf_icmp_ge 89 dX5_tally_15 rfl (fun _ => ?_) (fun q => absurd (by rw [show hp_i (hb h 193 12 ((itN (tlyB (hp_i h)) X (w * g)))) 1 2 = nI (w * g) from C.2.2.2.1]; exact nI_le (Nat.le_refl _) (by omega)) q)
    exact gf_lw K ⟨rfl, rfl, trivial⟩
  | succ kz ih =>
    intro jz hj
    obtain ⟨kw, hk4, hkw⟩ := hwl jz (by omega)
    refine gf_iload_n 1 dX5_tally_7 rfl rfl ?_
    refine gf_aload_n 0 dX5_tally_8 rfl rfl ?_
    refine gf_getR flX5_46 rfl dX5_tally_9 (gt_193 hG) (gp_193_5 hG) ?_
    refine gf_getI flX5_79 rfl dX5_tally_12 (gt_1 hG) ?_
    refine gf_icmp_ge 89 dX5_tally_15 rfl (fun q => absurd q (by rw [show hp_i (hb h 193 12 ((itN (tlyB (hp_i h)) X (jz)))) 1 2 = nI (w * g) from C.2.2.2.1]; exact nI_ge (by omega) (by omega))) (fun _ => ?_)
    refine gf_aload_n 0 dX5_tally_18 rfl rfl ?_
    refine gf_getR flX5_46 rfl dX5_tally_19 (gt_193 hG) (gp_193_5 hG) ?_
    refine gf_iload_n 1 dX5_tally_22 rfl rfl ?_
    refine gf_callV cmX1_fuelOf lkX5_109 imX1_fuelOf seX1_fuelOf ⟨rfl, by decide⟩ dX5_tally_23 (d1 := d - 1) (by omega) (gt_1 hG) (e_X1_fuelOf E (by omega) (c := jz) (k := kw) (by omega) _ hG hkw hk4) rfl rfl (Nat.le_of_ble_eq_true rfl) ?_
    refine gf_istore_n 2 dX5_tally_26 rfl (Nat.le_of_ble_eq_true rfl) ?_
    refine gf_aload_n 0 dX5_tally_27 rfl rfl ?_
    refine gf_getR flX5_15 rfl dX5_tally_28 (gt_193 hG) (gp_193_4 hG) ?_
    refine gf_iload_n 1 dX5_tally_31 rfl rfl ?_
    refine gf_aload_n 0 dX5_tally_32 rfl rfl ?_
    refine gf_getR flX5_9 rfl dX5_tally_33 (gt_193 hG) (gp_193_3 hG) ?_
    refine gf_iload_n 1 dX5_tally_36 rfl rfl ?_
    refine gf_zald 120 dX5_tally_37 (gt_194 hG) (gl_194 hG) rfl (by omega) (by decide) ?_
    refine gf_if_eq 66 dX5_tally_38 rfl (fun zc38 => ?_) (fun zc38 => ?_)
    · refine gf_iconst (0) dX5_tally_66 rfl ?_
      refine gf_iast 120 dX5_tally_67 (gt_195 hG) (gl_195 hG) rfl (by omega) (by decide) ?_
      refine gf_aload_n 0 dX5_tally_68 rfl rfl ?_
      refine gf_dup dX5_tally_69 rfl ?_
      refine gf_getI flX5_180 rfl dX5_tally_70 (gt_193 hG) ?_
      refine gf_aload_n 0 dX5_tally_73 rfl rfl ?_
      refine gf_getR flX5_15 rfl dX5_tally_74 (gt_193 hG) (gp_193_4 hG) ?_
      refine gf_iload_n 1 dX5_tally_77 rfl rfl ?_
      refine gf_iald 120 dX5_tally_78 (gt_195 hG) (gl_195 hG) rfl (by omega) (by decide) ?_
      refine gf_iadd dX5_tally_79 ?_
      refine gf_putI flX5_180 rfl rfl dX5_tally_80 (gt_193 hG) ⟨rfl, rfl⟩ ?_
      refine gf_iinc (1) dX5_tally_83 rfl rfl (Nat.le_of_ble_eq_true rfl) ?_
      refine gf_goto 7 dX5_tally_86 rfl ?_
      exact gf_hE (by have ev : tlyV (hp_i h) (itN (tlyB (hp_i h)) X (jz)) jz = 0 := if_pos zc38; rw [hs193_2]; refine (hs193_0 h _ 2 _).trans (congrArg (hb h 193 12) ?_); show _ = tlyB (hp_i h) (itN (tlyB (hp_i h)) X (jz)) jz; rw [tlyB_e (hp_i h) (itN (tlyB (hp_i h)) X (jz)) jz, ev]; exact congrArg (up2 _ 0 2) (congrArg ((itN (tlyB (hp_i h)) X (jz)) 0 2 + ·) (up2_s _ _ _ _))) (gf_lw (ih (jz + 1) (by omega)) ⟨rfl, lvE (nI_1 jz), trivial⟩)
    · refine gf_iload_n 2 dX5_tally_41 rfl rfl ?_
      refine gf_if_le 66 dX5_tally_42 rfl (fun q => absurd q ((fu_pos hk4).1)) (fun _ => ?_)
      refine gf_aload_n 0 dX5_tally_45 rfl rfl ?_
      refine gf_getR flX5_46 rfl dX5_tally_46 (gt_193 hG) (gp_193_5 hG) ?_
      refine gf_getR flX5_183 rfl dX5_tally_49 (gt_1 hG) (gp_1_6 hG) ?_
      refine gf_iload_n 1 dX5_tally_52 rfl rfl ?_
      refine gf_iald 120 dX5_tally_53 (gt_5 hG) (gl_5 hG) rfl (by omega) (by decide) ?_
      refine gf_aload_n 0 dX5_tally_54 rfl rfl ?_
      refine gf_getR flX5_28 rfl dX5_tally_55 (gt_193 hG) (gp_193_10 hG) ?_
      refine gf_iload_n 1 dX5_tally_58 rfl rfl ?_
      refine gf_iald 120 dX5_tally_59 (gt_199 hG) (gl_199 hG) rfl (by omega) (by decide) ?_
      refine gf_imul dX5_tally_60 ?_
      refine gf_iload_n 2 dX5_tally_61 rfl rfl ?_
      refine gf_idiv dX5_tally_62 (fu_pos hk4).2 ?_
      refine gf_goto 67 dX5_tally_63 rfl ?_
      refine gf_iast 120 dX5_tally_67 (gt_195 hG) (gl_195 hG) rfl (by omega) (by decide) ?_
      refine gf_aload_n 0 dX5_tally_68 rfl rfl ?_
      refine gf_dup dX5_tally_69 rfl ?_
      refine gf_getI flX5_180 rfl dX5_tally_70 (gt_193 hG) ?_
      refine gf_aload_n 0 dX5_tally_73 rfl rfl ?_
      refine gf_getR flX5_15 rfl dX5_tally_74 (gt_193 hG) (gp_193_4 hG) ?_
      refine gf_iload_n 1 dX5_tally_77 rfl rfl ?_
      refine gf_iald 120 dX5_tally_78 (gt_195 hG) (gl_195 hG) rfl (by omega) (by decide) ?_
      refine gf_iadd dX5_tally_79 ?_
      refine gf_putI flX5_180 rfl rfl dX5_tally_80 (gt_193 hG) ⟨rfl, rfl⟩ ?_
      refine gf_iinc (1) dX5_tally_83 rfl rfl (Nat.le_of_ble_eq_true rfl) ?_
      refine gf_goto 7 dX5_tally_86 rfl ?_
      exact gf_hE (by have ev : tlyV (hp_i h) (itN (tlyB (hp_i h)) X (jz)) jz = hp_i h 5 jz * (itN (tlyB (hp_i h)) X (jz)) 6 jz / (gf_sc 3).getD kw 0 := (if_neg zc38).trans (by unfold fuW; rw [hkw, nI_clamp (by omega)]); rw [hs193_2]; refine (hs193_0 h _ 2 _).trans (congrArg (hb h 193 12) ?_); show _ = tlyB (hp_i h) (itN (tlyB (hp_i h)) X (jz)) jz; rw [tlyB_e (hp_i h) (itN (tlyB (hp_i h)) X (jz)) jz, ev]; exact congrArg (up2 _ 0 2) (congrArg ((itN (tlyB (hp_i h)) X (jz)) 0 2 + ·) (up2_s _ _ _ _))) (gf_lw (ih (jz + 1) (by omega)) ⟨rfl, lvE (nI_1 jz), trivial⟩)
theorem e_X5_tally_193 (E : gE) {d : Nat} (hd : 1 ≤ d) (h : hp_T) (hG : gr h) (X : Nat → Nat → Int32) {w g : Nat} (C : cty (hp_i h) w g) (hwl : ∀ c, c < 120 → ∃ k, k < 4 ∧ hp_i h 3 c = nI k) : ev E mX5_tally d [.ref (E.1 + 193)] (hb h 193 12 X) (none) (hb h 193 12 (itN (tlyB (hp_i h)) (up2 X 0 2 0) (w * g))) := by
  refine ev_of rfl (fun q => absurd q (by decide)) (Nat.le_of_ble_eq_true rfl) ?_
  refine gf_aload_n 0 dX5_tally_0 rfl rfl ?_
  refine gf_iconst (0) dX5_tally_1 rfl ?_
  refine gf_putI flX5_180 rfl rfl dX5_tally_2 (gt_193 hG) ⟨rfl, rfl⟩ ?_
  refine gf_iconst (0) dX5_tally_5 rfl ?_
  refine gf_istore_n 1 dX5_tally_6 rfl (Nat.le_of_ble_eq_true rfl) ?_
  rw [hs193_0]
  refine l_X5_tally_193 E hd h hG (up2 X 0 2 0) C hwl ?_ (w * g) 0 (by omega)
  exact gf_vretE dX5_tally_89 rfl (rfl)
theorem l_X5_rdy_193 (E : gE) {d : Nat} (hd : 3 ≤ d) (h : hp_T) (hG : gr h) (X : Nat → Nat → Int32) {w g : Nat} (C : cty (hp_i h) w g) (hst : ∀ c, c < 120 → hp_i h 2 c = 0 ∨ hp_i h 2 c = 1) {v : Option Value} {hz : hp_T} (K : gf E mX5_makeReady d 88 [(0, .ref (E.1 + 193)), (1, .int (nI (w * g)))] [] (hb h 193 12 (itN (rdyB (hp_i h) w g) X (w * g))) v hz) : ∀ (kz jz : Nat), jz + kz = w * g → gf E mX5_makeReady d 7 [(0, .ref (E.1 + 193)), (1, .int (nI (jz)))] [] (hb h 193 12 (itN (rdyB (hp_i h) w g) X (jz))) v hz := by
  have hn := cty_n C
  intro kz
  induction kz with
  | zero =>
    intro jz hj
    have hj : w * g = jz := by omega
    subst hj
    refine gf_iload_n 1 dX5_makeReady_7 rfl rfl ?_
    refine gf_aload_n 0 dX5_makeReady_8 rfl rfl ?_
    refine gf_getR flX5_46 rfl dX5_makeReady_9 (gt_193 hG) (gp_193_5 hG) ?_
    refine gf_getI flX5_79 rfl dX5_makeReady_12 (gt_1 hG) ?_
    refine gf_icmp_ge 88 dX5_makeReady_15 rfl (fun _ => ?_) (fun q => absurd (by rw [show hp_i (hb h 193 12 ((itN (rdyB (hp_i h) w g) X (w * g)))) 1 2 = nI (w * g) from C.2.2.2.1]; exact nI_le (Nat.le_refl _) (by omega)) q)
    exact gf_lw K ⟨rfl, rfl, trivial⟩
  | succ kz ih =>
    intro jz hj
    refine gf_iload_n 1 dX5_makeReady_7 rfl rfl ?_
    refine gf_aload_n 0 dX5_makeReady_8 rfl rfl ?_
    refine gf_getR flX5_46 rfl dX5_makeReady_9 (gt_193 hG) (gp_193_5 hG) ?_
    refine gf_getI flX5_79 rfl dX5_makeReady_12 (gt_1 hG) ?_
    refine gf_icmp_ge 88 dX5_makeReady_15 rfl (fun q => absurd q (by rw [show hp_i (hb h 193 12 ((itN (rdyB (hp_i h) w g) X (jz)))) 1 2 = nI (w * g) from C.2.2.2.1]; exact nI_ge (by omega) (by omega))) (fun _ => ?_)
    refine gf_aload_n 0 dX5_makeReady_18 rfl rfl ?_
    refine gf_getR flX5_9 rfl dX5_makeReady_19 (gt_193 hG) (gp_193_3 hG) ?_
    refine gf_iload_n 1 dX5_makeReady_22 rfl rfl ?_
    refine gf_aload_n 0 dX5_makeReady_23 rfl rfl ?_
    refine gf_getR flX5_46 rfl dX5_makeReady_24 (gt_193 hG) (gp_193_5 hG) ?_
    refine gf_getR flX5_85 rfl dX5_makeReady_27 (gt_1 hG) (gp_1_3 hG) ?_
    refine gf_iload_n 1 dX5_makeReady_30 rfl rfl ?_
    refine gf_zald 120 dX5_makeReady_31 (gt_2 hG) (gl_2 hG) rfl (by omega) (by decide) ?_
    refine gf_zast 120 dX5_makeReady_32 (gt_194 hG) (gl_194 hG) rfl (by omega) (by decide) (vp_01 (hst jz (by omega))) ?_
    refine gf_aload_n 0 dX5_makeReady_33 rfl rfl ?_
    refine gf_getR flX5_19 rfl dX5_makeReady_34 (gt_193 hG) (gp_193_7 hG) ?_
    refine gf_iload_n 1 dX5_makeReady_37 rfl rfl ?_
    refine gf_iconst (0) dX5_makeReady_38 rfl ?_
    refine gf_iast 120 dX5_makeReady_39 (gt_196 hG) (gl_196 hG) rfl (by omega) (by decide) ?_
    refine gf_aload_n 0 dX5_makeReady_40 rfl rfl ?_
    refine gf_getR flX5_22 rfl dX5_makeReady_41 (gt_193 hG) (gp_193_8 hG) ?_
    refine gf_iload_n 1 dX5_makeReady_44 rfl rfl ?_
    refine gf_iconst (0) dX5_makeReady_45 rfl ?_
    refine gf_iast 120 dX5_makeReady_46 (gt_197 hG) (gl_197 hG) rfl (by omega) (by decide) ?_
    refine gf_aload_n 0 dX5_makeReady_47 rfl rfl ?_
    refine gf_getR flX5_25 rfl dX5_makeReady_48 (gt_193 hG) (gp_193_9 hG) ?_
    refine gf_iload_n 1 dX5_makeReady_51 rfl rfl ?_
    refine gf_iconst (0) dX5_makeReady_52 rfl ?_
    refine gf_iast 120 dX5_makeReady_53 (gt_198 hG) (gl_198 hG) rfl (by omega) (by decide) ?_
    refine gf_aload_n 0 dX5_makeReady_54 rfl rfl ?_
    refine gf_getR flX5_28 rfl dX5_makeReady_55 (gt_193 hG) (gp_193_10 hG) ?_
    refine gf_iload_n 1 dX5_makeReady_58 rfl rfl ?_
    refine gf_iconst (0) dX5_makeReady_59 rfl ?_
    refine gf_iast 120 dX5_makeReady_60 (gt_199 hG) (gl_199 hG) rfl (by omega) (by decide) ?_
    refine gf_aload_n 0 dX5_makeReady_61 rfl rfl ?_
    refine gf_getR flX5_31 rfl dX5_makeReady_62 (gt_193 hG) (gp_193_11 hG) ?_
    refine gf_iload_n 1 dX5_makeReady_65 rfl rfl ?_
    refine gf_iconst (-1) dX5_makeReady_66 rfl ?_
    refine gf_iast 120 dX5_makeReady_67 (gt_200 hG) (gl_200 hG) rfl (by omega) (by decide) ?_
    rw [hs193_1, hs193_3, hs193_4, hs193_5, hs193_6, hs193_7]
    refine gf_aload_n 0 dX5_makeReady_68 rfl rfl ?_
    refine gf_getR flX5_34 rfl dX5_makeReady_69 (gt_193 hG) (gp_193_12 hG) ?_
    refine gf_iload_n 1 dX5_makeReady_72 rfl rfl ?_
    refine gf_aload_n 0 dX5_makeReady_73 rfl rfl ?_
    refine gf_getR flX5_46 rfl dX5_makeReady_74 (gt_193 hG) (gp_193_5 hG) ?_
    refine gf_iload_n 1 dX5_makeReady_77 rfl rfl ?_
    refine gf_callV cmX1_plugNear lkX5_88 imX1_plugNear seX1_plugNear ⟨rfl, by decide⟩ dX5_makeReady_78 (d1 := d - 1) (by omega) (gt_1 hG) (e_X1_plugNear E (by omega) (a := jz) (hb h 193 12 _) (by exact hG) (w := w) (g := g) (cty_hb _ (by decide) C) (by omega)) rfl rfl (Nat.le_of_ble_eq_true rfl) ?_
    refine gf_zast 120 dX5_makeReady_81 (gt_201 hG) (gl_201 hG) rfl (by omega) (by decide) zb_vp ?_
    refine gf_iinc (1) dX5_makeReady_82 rfl rfl (Nat.le_of_ble_eq_true rfl) ?_
    refine gf_goto 7 dX5_makeReady_85 rfl ?_
    exact gf_hE (by rw [hs193_8]; rfl) (gf_lw (ih (jz + 1) (by omega)) ⟨rfl, lvE (nI_1 jz), trivial⟩)
theorem l_X5_rde_193 (E : gE) {d : Nat} {m : Nat} (h : hp_T) (hG : gr h) (X : Nat → Nat → Int32) (hm : hp_i h 145 0 = nI m) (hm12 : m ≤ 12) (hX : ∀ kz, (itN (rdyE (hp_i h)) X (kz)) 0 1 = nI m) {v : Option Value} {hz : hp_T} (K : gf E mX5_makeReady d 144 [(0, .ref (E.1 + 193)), (1, .int (nI (m)))] [] (hb h 193 12 (itN (rdyE (hp_i h)) X (m))) v hz) : ∀ (kz jz : Nat), jz + kz = m → gf E mX5_makeReady d 101 [(0, .ref (E.1 + 193)), (1, .int (nI (jz)))] [] (hb h 193 12 (itN (rdyE (hp_i h)) X (jz))) v hz := by
  intro kz
  induction kz with
  | zero =>
    intro jz hj
    have hj : m = jz := by omega
    subst hj
    refine gf_iload_n 1 dX5_makeReady_101 rfl rfl ?_
    refine gf_aload_n 0 dX5_makeReady_102 rfl rfl ?_
    refine gf_getI flX5_97 rfl dX5_makeReady_103 (gt_193 hG) ?_
    refine gf_icmp_ge 144 dX5_makeReady_106 rfl (fun _ => ?_) (fun q => absurd (by rw [show hp_i (hb h 193 12 (itN (rdyE (hp_i h)) X (m))) 193 1 = nI m from hX m]; exact nI_le (Nat.le_refl _) (by omega)) q)
    exact gf_lw K ⟨rfl, rfl, trivial⟩
  | succ kz ih =>
    intro jz hj
    refine gf_iload_n 1 dX5_makeReady_101 rfl rfl ?_
    refine gf_aload_n 0 dX5_makeReady_102 rfl rfl ?_
    refine gf_getI flX5_97 rfl dX5_makeReady_103 (gt_193 hG) ?_
    refine gf_icmp_ge 144 dX5_makeReady_106 rfl (fun q => absurd q (by rw [show hp_i (hb h 193 12 (itN (rdyE (hp_i h)) X (jz))) 193 1 = nI m from hX jz]; exact nI_ge (by omega) (by omega))) (fun _ => ?_)
    refine gf_aload_n 0 dX5_makeReady_109 rfl rfl ?_
    refine gf_getR flX5_37 rfl dX5_makeReady_110 (gt_193 hG) (gp_193_13 hG) ?_
    refine gf_iload_n 1 dX5_makeReady_113 rfl rfl ?_
    refine gf_aload_n 0 dX5_makeReady_114 rfl rfl ?_
    refine gf_getR flX5_50 rfl dX5_makeReady_115 (gt_193 hG) (gp_193_6 hG) ?_
    refine gf_getR flX5_100 rfl dX5_makeReady_118 (gt_145 hG) (gp_145_2 hG) ?_
    refine gf_iload_n 1 dX5_makeReady_121 rfl rfl ?_
    refine gf_iald 12 dX5_makeReady_122 (gt_147 hG) (gl_147 hG) rfl (by omega) (by decide) ?_
    refine gf_iast 12 dX5_makeReady_123 (gt_202 hG) (gl_202 hG) rfl (by omega) (by decide) ?_
    refine gf_aload_n 0 dX5_makeReady_124 rfl rfl ?_
    refine gf_getR flX5_40 rfl dX5_makeReady_125 (gt_193 hG) (gp_193_14 hG) ?_
    refine gf_iload_n 1 dX5_makeReady_128 rfl rfl ?_
    refine gf_iconst (-1) dX5_makeReady_129 rfl ?_
    refine gf_iast 12 dX5_makeReady_130 (gt_203 hG) (gl_203 hG) rfl (by omega) (by decide) ?_
    refine gf_aload_n 0 dX5_makeReady_131 rfl rfl ?_
    refine gf_getR flX5_43 rfl dX5_makeReady_132 (gt_193 hG) (gp_193_15 hG) ?_
    refine gf_iload_n 1 dX5_makeReady_135 rfl rfl ?_
    refine gf_iconst (-1) dX5_makeReady_136 rfl ?_
    refine gf_iast 12 dX5_makeReady_137 (gt_204 hG) (gl_204 hG) rfl (by omega) (by decide) ?_
    refine gf_iinc (1) dX5_makeReady_138 rfl rfl (Nat.le_of_ble_eq_true rfl) ?_
    refine gf_goto 101 dX5_makeReady_141 rfl ?_
    exact gf_hE (by rw [hs193_9, hs193_10, hs193_11]; rfl) (gf_lw (ih (jz + 1) (by omega)) ⟨rfl, lvE (nI_1 jz), trivial⟩)
theorem e_X5_makeReady_193 (E : gE) {d : Nat} (hd : 3 ≤ d) {m : Nat} (h : hp_T) (hG : gr h) (X : Nat → Nat → Int32) {w g : Nat} (C : cty (hp_i h) w g) (hst : ∀ c, c < 120 → hp_i h 2 c = 0 ∨ hp_i h 2 c = 1) (hm : hp_i h 145 0 = nI m) (hm12 : m ≤ 12) : ev E mX5_makeReady d [.ref (E.1 + 193)] (hb h 193 12 X) (none) (hb h 193 12 (rdyX (hp_i h) w g m X)) := by
  refine ev_of rfl (fun q => absurd q (by decide)) (Nat.le_of_ble_eq_true rfl) ?_
  refine gf_aload_n 0 dX5_makeReady_0 rfl rfl ?_
  refine gf_iconst (1) dX5_makeReady_1 rfl ?_
  refine gf_putI flX5_75 rfl rfl dX5_makeReady_2 (gt_193 hG) ⟨rfl, rfl⟩ ?_
  refine gf_iconst (0) dX5_makeReady_5 rfl ?_
  refine gf_istore_n 1 dX5_makeReady_6 rfl (Nat.le_of_ble_eq_true rfl) ?_
  rw [hs193_0]
  refine l_X5_rdy_193 E hd h hG (up2 X 0 0 1) C hst ?_ (w * g) 0 (by omega)
  refine gf_aload_n 0 dX5_makeReady_88 rfl rfl ?_
  refine gf_aload_n 0 dX5_makeReady_89 rfl rfl ?_
  refine gf_getR flX5_50 rfl dX5_makeReady_90 (gt_193 hG) (gp_193_6 hG) ?_
  refine gf_getI flX5_92 rfl dX5_makeReady_93 (gt_145 hG) ?_
  refine gf_putI flX5_97 rfl rfl dX5_makeReady_96 (gt_193 hG) ⟨rfl, rfl⟩ ?_
  refine gf_iconst (0) dX5_makeReady_99 rfl ?_
  refine gf_istore_n 1 dX5_makeReady_100 rfl (Nat.le_of_ble_eq_true rfl) ?_
  rw [hs193_0]
  refine l_X5_rde_193 E (d := d) h hG (up2 (itN (rdyB (hp_i h) w g) (up2 X 0 0 1) (w * g)) 0 1 (hp_i h 145 0)) hm hm12 (fun kz => ?_) ?_ m 0 (by omega)
  · induction kz with
    | zero => exact (up2_s _ _ _ _).trans hm
    | succ kz ih => exact ih
  · exact gf_vretE dX5_makeReady_144 rfl (rfl)
