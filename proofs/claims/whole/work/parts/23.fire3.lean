/-! ===== the class's Fire: warmth goes over ===== -/
def mcP (X : Nat → Nat → Int32) (c : Nat) : Prop := ¬ X 1 c = 0 ∧ X 3 c = 0
def sp1 (X : Nat → Nat → Int32) (c : Nat) : Nat → Nat → Int32 := if ¬ X 1 c = 0 ∧ X 3 c = 0 then up2 X 4 c (if 0 < X 4 c - 2 then X 4 c - 2 else 0) else X
/-- HAZARD by the trades -/
def hzT (F : Nat → Nat → Int32) (c : Nat) : Int32 := F 130 (F 4 c).toNatClampNeg
def rsW (F : Nat → Int32) (c : Nat) : Int32 := (gf_sc 2).getD (F c).toNatClampNeg 0
def sp2 (F : Nat → Nat → Int32) (w g : Nat) (wy sg : Int32) (X : Nat → Nat → Int32) (c : Nat) : Nat → Nat → Int32 := if X 3 c = 1 then itN (wrmB w g c wy sg (X 5 c + hzT F c)) X 8 else X
def sp3 (rs : Nat → Int32) (t : Int32) (X : Nat → Nat → Int32) (c : Nat) : Nat → Nat → Int32 := if ¬ X 1 c = 0 ∧ X 3 c = 0 then (if X 4 c < rs c then X else kinX X c t) else X
def sprX (F : Nat → Nat → Int32) (w g : Nat) (t : Nat) (X : Nat → Nat → Int32) : Nat → Nat → Int32 := itN (sp3 (rsW (F 3)) (nI t)) (itN (sp2 F w g (F 132 t) (F 133 t)) (itN sp1 X (w * g)) (w * g)) (w * g)
theorem l_X5_warm_174 (E : gE) {d : Nat} (hd : 1 ≤ d) {c : Nat} (wy sg wm : Int32) (h : hp_T) (hG : gr h) (X : Nat → Nat → Int32) {w g : Nat} (C : cty (hp_i h) w g) (hc : c < w * g) {v : Option Value} {hz : hp_T} (K : gf E mX5_warmAround d 96 [(0, .ref (E.1 + 174)), (1, .int (nI c)), (2, .int wy), (3, .int sg), (4, .int wm), (5, .int (nI ((8 : Nat))))] [] (hb h 174 12 (itN (wrmB w g c wy sg wm) X ((8 : Nat)))) v hz) : ∀ (kz jz : Nat), jz + kz = (8 : Nat) → gf E mX5_warmAround d 29 [(0, .ref (E.1 + 174)), (1, .int (nI c)), (2, .int wy), (3, .int sg), (4, .int wm), (5, .int (nI (jz)))] [] (hb h 174 12 (itN (wrmB w g c wy sg wm) X (jz))) v hz := by
  have hn := cty_n C
  intro kz
  induction kz with
  | zero =>
    intro jz hj
    have hj : (8 : Nat) = jz := by omega
    subst hj
    refine gf_iload dX5_warmAround_29 rfl ?_
    refine gf_bipush (8) dX5_warmAround_31 rfl ?_
    refine gf_icmp_ge 96 dX5_warmAround_33 rfl (fun _ => ?_) (fun q => absurd (by decide) q)
    exact gf_lw K ⟨rfl, rfl, rfl, rfl, rfl, rfl, trivial⟩
  | succ kz ih =>
    intro jz hj
    have hv := ((congrFun (hb_out h (itN (wrmB w g c wy sg wm) X (jz)) (b := 174) (n := 12) (x := 10 + c) (by omega)) jz).trans ((C.2.2.2.2 c hc).2.2 jz (by omega)))
    cases hq : nbo w g c jz with
    | none =>
      rw [hq] at hv
      have hv : hp_i (hb h 174 12 (itN (wrmB w g c wy sg wm) X (jz))) (10 + c) jz = -1 := hv
      have e0 : wrmB w g c wy sg wm (itN (wrmB w g c wy sg wm) X (jz)) jz = (itN (wrmB w g c wy sg wm) X (jz)) := by unfold wrmB; simp only [hq]
      refine gf_iload dX5_warmAround_29 rfl ?_
      refine gf_bipush (8) dX5_warmAround_31 rfl ?_
      refine gf_icmp_ge 96 dX5_warmAround_33 rfl (fun q => absurd q (by rw [show (8 : Int32) = nI 8 from rfl]; exact nI_ge (by omega) (by decide))) (fun _ => ?_)
      refine gf_aload_n 0 dX5_warmAround_36 rfl rfl ?_
      refine gf_getR flX5_46 rfl dX5_warmAround_37 (gt_174 hG) (gp_174_5 hG) ?_
      refine gf_getR flX5_138 rfl dX5_warmAround_40 (gt_1 hG) (gp_1_10 hG) ?_
      refine gf_iload_n 1 dX5_warmAround_43 rfl rfl ?_
      refine gf_rald 120 dX5_warmAround_44 (gt_9 hG) (by decide) (by decide) (gl_9 hG) rfl (show c < 120 by omega) (by decide) (gq_ar hG (show c < 120 by omega)) ?_
      refine gf_iload dX5_warmAround_45 rfl ?_
      refine gf_iald 8 dX5_warmAround_47 (gqt_ar hG (show c < 120 by omega)) (gql_ar hG (show c < 120 by omega)) rfl (by omega) (by decide) ?_
      refine gf_istore dX5_warmAround_48 (Nat.le_of_ble_eq_true rfl) ?_
      refine gf_iload dX5_warmAround_50 rfl ?_
      refine gf_iconst (-1) dX5_warmAround_52 rfl ?_
      refine gf_icmp_eq 90 dX5_warmAround_53 rfl (fun _ => ?_) (fun q => absurd (hv) q)
      refine gf_iinc (1) dX5_warmAround_90 rfl rfl (Nat.le_of_ble_eq_true rfl) ?_
      refine gf_goto 29 dX5_warmAround_93 rfl ?_
      exact gf_hE (congrArg (hb h 174 12) e0.symm) (gf_lw (ih (jz + 1) (by omega)) ⟨rfl, rfl, rfl, rfl, rfl, lvE (nI_1 jz), trivial⟩)
    | some x =>
      rw [hq] at hv
      have hv : hp_i (hb h 174 12 (itN (wrmB w g c wy sg wm) X (jz))) (10 + c) jz = nI x := hv
      have hx := nbo_lt hq
      have e1 : wrmB w g c wy sg wm (itN (wrmB w g c wy sg wm) X (jz)) jz = (if ¬ (itN (wrmB w g c wy sg wm) X (jz)) 1 x = 0 ∧ (itN (wrmB w g c wy sg wm) X (jz)) 3 x = 0 then up2 (itN (wrmB w g c wy sg wm) X (jz)) 4 x ((itN (wrmB w g c wy sg wm) X (jz)) 4 x + (if nI jz = wy then wm + sg else wm)) else (itN (wrmB w g c wy sg wm) X (jz))) := by unfold wrmB; simp only [hq]
      refine gf_iload dX5_warmAround_29 rfl ?_
      refine gf_bipush (8) dX5_warmAround_31 rfl ?_
      refine gf_icmp_ge 96 dX5_warmAround_33 rfl (fun q => absurd q (by rw [show (8 : Int32) = nI 8 from rfl]; exact nI_ge (by omega) (by decide))) (fun _ => ?_)
      refine gf_aload_n 0 dX5_warmAround_36 rfl rfl ?_
      refine gf_getR flX5_46 rfl dX5_warmAround_37 (gt_174 hG) (gp_174_5 hG) ?_
      refine gf_getR flX5_138 rfl dX5_warmAround_40 (gt_1 hG) (gp_1_10 hG) ?_
      refine gf_iload_n 1 dX5_warmAround_43 rfl rfl ?_
      refine gf_rald 120 dX5_warmAround_44 (gt_9 hG) (by decide) (by decide) (gl_9 hG) rfl (show c < 120 by omega) (by decide) (gq_ar hG (show c < 120 by omega)) ?_
      refine gf_iload dX5_warmAround_45 rfl ?_
      refine gf_iald 8 dX5_warmAround_47 (gqt_ar hG (show c < 120 by omega)) (gql_ar hG (show c < 120 by omega)) rfl (by omega) (by decide) ?_
      refine gf_istore dX5_warmAround_48 (Nat.le_of_ble_eq_true rfl) ?_
      refine gf_iload dX5_warmAround_50 rfl ?_
      refine gf_iconst (-1) dX5_warmAround_52 rfl ?_
      refine gf_icmp_eq 90 dX5_warmAround_53 rfl (fun q => absurd q (by rw [hv]; exact nI_nm1 (by omega))) (fun _ => ?_)
      refine gf_aload_n 0 dX5_warmAround_56 rfl rfl ?_
      refine gf_iload dX5_warmAround_57 rfl ?_
      refine gf_callV cmX5_mayCatch lkX5_113 imX5_mayCatch seX5_mayCatch ⟨rfl, by decide⟩ dX5_warmAround_59 (d1 := d - 1) (by omega) (gt_174 hG) (ev_aE (aw := [.ref (E.1 + 174), .int (hp_i (hb h 174 12 (itN (wrmB w g c wy sg wm) X (jz))) (10 + c) jz)]) (by rw [hv]) (e_X5_mayCatch_174 E (by omega) (c := x) h hG (itN (wrmB w g c wy sg wm) X (jz)) (by omega))) rfl rfl (Nat.le_of_ble_eq_true rfl) ?_
      refine gf_if_eq 90 dX5_warmAround_62 rfl (fun zc62 => ?_) (fun zc62 => ?_)
      · refine gf_iinc (1) dX5_warmAround_90 rfl rfl (Nat.le_of_ble_eq_true rfl) ?_
        refine gf_goto 29 dX5_warmAround_93 rfl ?_
        exact gf_hE (congrArg (hb h 174 12) (e1.trans (if_neg (zb_0.mp zc62))).symm) (gf_lw (ih (jz + 1) (by omega)) ⟨rfl, rfl, rfl, rfl, rfl, lvE (nI_1 jz), trivial⟩)
      · refine gf_aload_n 0 dX5_warmAround_65 rfl rfl ?_
        refine gf_getR flX5_22 rfl dX5_warmAround_66 (gt_174 hG) (gp_174_8 hG) ?_
        refine gf_iload dX5_warmAround_69 rfl ?_
        refine gf_dup2 dX5_warmAround_71 rfl rfl ?_
        refine gf_iald 120 dX5_warmAround_72 (gt_178 hG) (gl_178 hG) hv (by omega) (by decide) ?_
        refine gf_iload dX5_warmAround_73 rfl ?_
        refine gf_iload_n 2 dX5_warmAround_75 rfl rfl ?_
        refine gf_icmp_ne 86 dX5_warmAround_76 rfl (fun zc76 => ?_) (fun zc76 => ?_)
        · refine gf_iload dX5_warmAround_86 rfl ?_
          refine gf_iadd dX5_warmAround_88 ?_
          refine gf_iast 120 dX5_warmAround_89 (gt_178 hG) (gl_178 hG) hv (by omega) (by decide) ?_
          refine gf_iinc (1) dX5_warmAround_90 rfl rfl (Nat.le_of_ble_eq_true rfl) ?_
          refine gf_goto 29 dX5_warmAround_93 rfl ?_
          exact gf_hE ((hs174_4 h (itN (wrmB w g c wy sg wm) X (jz)) x _).trans (congrArg (hb h 174 12) (show up2 (itN (wrmB w g c wy sg wm) X (jz)) 4 x _ = _ from (e1.trans ((if_pos (zb_1.mp zc62)).trans (congrArg (fun z => up2 (itN (wrmB w g c wy sg wm) X (jz)) 4 x ((itN (wrmB w g c wy sg wm) X (jz)) 4 x + z)) (if_neg zc76)))).symm))) (gf_lw (ih (jz + 1) (by omega)) ⟨rfl, rfl, rfl, rfl, rfl, lvE (nI_1 jz), trivial⟩)
        · refine gf_iload dX5_warmAround_79 rfl ?_
          refine gf_iload_n 3 dX5_warmAround_81 rfl rfl ?_
          refine gf_iadd dX5_warmAround_82 ?_
          refine gf_goto 88 dX5_warmAround_83 rfl ?_
          refine gf_iadd dX5_warmAround_88 ?_
          refine gf_iast 120 dX5_warmAround_89 (gt_178 hG) (gl_178 hG) hv (by omega) (by decide) ?_
          refine gf_iinc (1) dX5_warmAround_90 rfl rfl (Nat.le_of_ble_eq_true rfl) ?_
          refine gf_goto 29 dX5_warmAround_93 rfl ?_
          exact gf_hE ((hs174_4 h (itN (wrmB w g c wy sg wm) X (jz)) x _).trans (congrArg (hb h 174 12) (show up2 (itN (wrmB w g c wy sg wm) X (jz)) 4 x _ = _ from (e1.trans ((if_pos (zb_1.mp zc62)).trans (congrArg (fun z => up2 (itN (wrmB w g c wy sg wm) X (jz)) 4 x ((itN (wrmB w g c wy sg wm) X (jz)) 4 x + z)) (if_pos zc76)))).symm))) (gf_lw (ih (jz + 1) (by omega)) ⟨rfl, rfl, rfl, rfl, rfl, lvE (nI_1 jz), trivial⟩)
theorem e_X5_warm_174 (E : gE) {d : Nat} (hd : 1 ≤ d) {c k : Nat} (wy sg : Int32) (h : hp_T) (hG : gr h) (X : Nat → Nat → Int32) {w g : Nat} (C : cty (hp_i h) w g) (hc : c < w * g) (hk : hp_i h 4 c = nI k) (hk6 : k < 6) : ev E mX5_warmAround d [.ref (E.1 + 174), .int (nI c), .int wy, .int sg] (hb h 174 12 X) (none) (hb h 174 12 (itN (wrmB w g c wy sg (X 5 c + hzT (hp_i h) c)) X 8)) := by
  have hn := cty_n C
  refine ev_of rfl (fun q => absurd q (by decide)) (Nat.le_of_ble_eq_true rfl) ?_
  refine gf_aload_n 0 dX5_warmAround_0 rfl rfl ?_
  refine gf_getR flX5_25 rfl dX5_warmAround_1 (gt_174 hG) (gp_174_9 hG) ?_
  refine gf_iload_n 1 dX5_warmAround_4 rfl rfl ?_
  refine gf_iald 120 dX5_warmAround_5 (gt_179 hG) (gl_179 hG) rfl (by omega) (by decide) ?_
  refine gf_aload_n 0 dX5_warmAround_6 rfl rfl ?_
  refine gf_getR flX5_46 rfl dX5_warmAround_7 (gt_174 hG) (gp_174_5 hG) ?_
  refine gf_getR flX5_132 rfl dX5_warmAround_10 (gt_1 hG) (gp_1_11 hG) ?_
  refine gf_aload_n 0 dX5_warmAround_13 rfl rfl ?_
  refine gf_getR flX5_46 rfl dX5_warmAround_14 (gt_174 hG) (gp_174_5 hG) ?_
  refine gf_getR flX5_135 rfl dX5_warmAround_17 (gt_1 hG) (gp_1_5 hG) ?_
  refine gf_iload_n 1 dX5_warmAround_20 rfl rfl ?_
  refine gf_iald 120 dX5_warmAround_21 (gt_4 hG) (gl_4 hG) rfl (by omega) (by decide) ?_
  refine gf_iald 6 dX5_warmAround_22 (gt_130 hG) (gl_130 hG) hk hk6 (by decide) ?_
  refine gf_iadd dX5_warmAround_23 ?_
  refine gf_istore dX5_warmAround_24 (Nat.le_of_ble_eq_true rfl) ?_
  refine gf_iconst (0) dX5_warmAround_26 rfl ?_
  refine gf_istore dX5_warmAround_27 (Nat.le_of_ble_eq_true rfl) ?_
  refine gf_lw (l_X5_warm_174 E hd wy sg (X 5 c + hzT (hp_i h) c) h hG X C hc ?_ 8 0 (by omega)) ⟨rfl, rfl, rfl, rfl, lvE (by unfold hzT; rw [hk, nI_clamp (by omega)]; rfl), rfl, trivial⟩
  exact gf_vretE dX5_warmAround_96 rfl (rfl)
theorem l_X5_sp1_174 (E : gE) {d : Nat} (hd : 1 ≤ d) {t0 : Nat} (h : hp_T) (hG : gr h) (X : Nat → Nat → Int32) {w g : Nat} (C : cty (hp_i h) w g) (ht : 1 ≤ t0 ∧ t0 ≤ 120) {v : Option Value} {hz : hp_T} (K : gf E mX5_spread d 45 [(0, .ref (E.1 + 174)), (1, .int (nI t0)), (2, .int (nI (w * g)))] [] (hb h 174 12 (itN sp1 X (w * g))) v hz) : ∀ (kz jz : Nat), jz + kz = w * g → gf E mX5_spread d 2 [(0, .ref (E.1 + 174)), (1, .int (nI t0)), (2, .int (nI (jz)))] [] (hb h 174 12 (itN sp1 X (jz))) v hz := by
  have hn := cty_n C
  intro kz
  induction kz with
  | zero =>
    intro jz hj
    have hj : w * g = jz := by omega
    subst hj
    refine gf_iload_n 2 dX5_spread_2 rfl rfl ?_
    refine gf_aload_n 0 dX5_spread_3 rfl rfl ?_
    refine gf_getR flX5_46 rfl dX5_spread_4 (gt_174 hG) (gp_174_5 hG) ?_
    refine gf_getI flX5_79 rfl dX5_spread_7 (gt_1 hG) ?_
    refine gf_icmp_ge 45 dX5_spread_10 rfl (fun _ => ?_) (fun q => absurd (by rw [show hp_i (hb h 174 12 (itN sp1 X (w * g))) 1 2 = nI (w * g) from C.2.2.2.1]; exact nI_le (Nat.le_refl _) (by omega)) q)
    exact gf_lw K ⟨rfl, rfl, rfl, trivial⟩
  | succ kz ih =>
    intro jz hj
    refine gf_iload_n 2 dX5_spread_2 rfl rfl ?_
    refine gf_aload_n 0 dX5_spread_3 rfl rfl ?_
    refine gf_getR flX5_46 rfl dX5_spread_4 (gt_174 hG) (gp_174_5 hG) ?_
    refine gf_getI flX5_79 rfl dX5_spread_7 (gt_1 hG) ?_
    refine gf_icmp_ge 45 dX5_spread_10 rfl (fun q => absurd q (by rw [show hp_i (hb h 174 12 (itN sp1 X (jz))) 1 2 = nI (w * g) from C.2.2.2.1]; exact nI_ge (by omega) (by omega))) (fun _ => ?_)
    refine gf_aload_n 0 dX5_spread_13 rfl rfl ?_
    refine gf_iload_n 2 dX5_spread_14 rfl rfl ?_
    refine gf_callV cmX5_mayCatch lkX5_113 imX5_mayCatch seX5_mayCatch ⟨rfl, by decide⟩ dX5_spread_15 (d1 := d - 1) (by omega) (gt_174 hG) (e_X5_mayCatch_174 E (by omega) (c := jz) h hG (itN sp1 X (jz)) (by omega)) rfl rfl (Nat.le_of_ble_eq_true rfl) ?_
    refine gf_if_eq 39 dX5_spread_18 rfl (fun zc18 => ?_) (fun zc18 => ?_)
    · refine gf_iinc (1) dX5_spread_39 rfl rfl (Nat.le_of_ble_eq_true rfl) ?_
      refine gf_goto 2 dX5_spread_42 rfl ?_
      exact gf_hE (congrArg (hb h 174 12) (show _ = sp1 (itN sp1 X (jz)) jz from (if_neg (zb_0.mp zc18)).symm)) (gf_lw (ih (jz + 1) (by omega)) ⟨rfl, rfl, lvE (nI_1 jz), trivial⟩)
    · refine gf_aload_n 0 dX5_spread_21 rfl rfl ?_
      refine gf_getR flX5_22 rfl dX5_spread_22 (gt_174 hG) (gp_174_8 hG) ?_
      refine gf_iload_n 2 dX5_spread_25 rfl rfl ?_
      refine gf_iconst (0) dX5_spread_26 rfl ?_
      refine gf_aload_n 0 dX5_spread_27 rfl rfl ?_
      refine gf_getR flX5_22 rfl dX5_spread_28 (gt_174 hG) (gp_174_8 hG) ?_
      refine gf_iload_n 2 dX5_spread_31 rfl rfl ?_
      refine gf_iald 120 dX5_spread_32 (gt_178 hG) (gl_178 hG) rfl (by omega) (by decide) ?_
      refine gf_iconst (2) dX5_spread_33 rfl ?_
      refine gf_isub dX5_spread_34 ?_
      refine gf_max lkX5_116 kMmax.1 kMmax.2.1 kMmax.2.2 dX5_spread_35 (by omega) (Nat.le_of_ble_eq_true rfl) ?_
      refine gf_iast 120 dX5_spread_38 (gt_178 hG) (gl_178 hG) rfl (by omega) (by decide) ?_
      refine gf_iinc (1) dX5_spread_39 rfl rfl (Nat.le_of_ble_eq_true rfl) ?_
      refine gf_goto 2 dX5_spread_42 rfl ?_
      exact gf_hE ((hs174_4 h (itN sp1 X (jz)) jz _).trans (congrArg (hb h 174 12) (show _ = sp1 (itN sp1 X (jz)) jz from (if_pos (zb_1.mp zc18)).symm))) (gf_lw (ih (jz + 1) (by omega)) ⟨rfl, rfl, lvE (nI_1 jz), trivial⟩)
theorem l_X5_sp2_174 (E : gE) {d : Nat} (hd : 2 ≤ d) {t0 : Nat} (h : hp_T) (hG : gr h) (X : Nat → Nat → Int32) {w g : Nat} (C : cty (hp_i h) w g) (ht : 1 ≤ t0 ∧ t0 ≤ 120) (htr : ∀ c, c < 120 → ∃ k, k < 6 ∧ hp_i h 4 c = nI k) {v : Option Value} {hz : hp_T} (K : gf E mX5_spread d 97 [(0, .ref (E.1 + 174)), (1, .int (nI t0)), (2, .int (nI (w * g)))] [] (hb h 174 12 (itN (sp2 (hp_i h) w g (hp_i h 132 t0) (hp_i h 133 t0)) X (w * g))) v hz) : ∀ (kz jz : Nat), jz + kz = w * g → gf E mX5_spread d 47 [(0, .ref (E.1 + 174)), (1, .int (nI t0)), (2, .int (nI (jz)))] [] (hb h 174 12 (itN (sp2 (hp_i h) w g (hp_i h 132 t0) (hp_i h 133 t0)) X (jz))) v hz := by
  have hn := cty_n C
  intro kz
  induction kz with
  | zero =>
    intro jz hj
    have hj : w * g = jz := by omega
    subst hj
    refine gf_iload_n 2 dX5_spread_47 rfl rfl ?_
    refine gf_aload_n 0 dX5_spread_48 rfl rfl ?_
    refine gf_getR flX5_46 rfl dX5_spread_49 (gt_174 hG) (gp_174_5 hG) ?_
    refine gf_getI flX5_79 rfl dX5_spread_52 (gt_1 hG) ?_
    refine gf_icmp_ge 97 dX5_spread_55 rfl (fun _ => ?_) (fun q => absurd (by rw [show hp_i (hb h 174 12 (itN (sp2 (hp_i h) w g (hp_i h 132 t0) (hp_i h 133 t0)) X (w * g))) 1 2 = nI (w * g) from C.2.2.2.1]; exact nI_le (Nat.le_refl _) (by omega)) q)
    exact gf_lw K ⟨rfl, rfl, rfl, trivial⟩
  | succ kz ih =>
    intro jz hj
    obtain ⟨kt, hk6, hkt⟩ := htr jz (by omega)
    refine gf_iload_n 2 dX5_spread_47 rfl rfl ?_
    refine gf_aload_n 0 dX5_spread_48 rfl rfl ?_
    refine gf_getR flX5_46 rfl dX5_spread_49 (gt_174 hG) (gp_174_5 hG) ?_
    refine gf_getI flX5_79 rfl dX5_spread_52 (gt_1 hG) ?_
    refine gf_icmp_ge 97 dX5_spread_55 rfl (fun q => absurd q (by rw [show hp_i (hb h 174 12 (itN (sp2 (hp_i h) w g (hp_i h 132 t0) (hp_i h 133 t0)) X (jz))) 1 2 = nI (w * g) from C.2.2.2.1]; exact nI_ge (by omega) (by omega))) (fun _ => ?_)
    refine gf_aload_n 0 dX5_spread_58 rfl rfl ?_
    refine gf_getR flX5_19 rfl dX5_spread_59 (gt_174 hG) (gp_174_7 hG) ?_
    refine gf_iload_n 2 dX5_spread_62 rfl rfl ?_
    refine gf_iald 120 dX5_spread_63 (gt_177 hG) (gl_177 hG) rfl (by omega) (by decide) ?_
    refine gf_iconst (1) dX5_spread_64 rfl ?_
    refine gf_icmp_ne 91 dX5_spread_65 rfl (fun zc65 => ?_) (fun zc65 => ?_)
    · refine gf_iinc (1) dX5_spread_91 rfl rfl (Nat.le_of_ble_eq_true rfl) ?_
      refine gf_goto 47 dX5_spread_94 rfl ?_
      exact gf_hE (congrArg (hb h 174 12) (show _ = sp2 (hp_i h) w g (hp_i h 132 t0) (hp_i h 133 t0) (itN (sp2 (hp_i h) w g (hp_i h 132 t0) (hp_i h 133 t0)) X (jz)) jz from (if_neg zc65).symm)) (gf_lw (ih (jz + 1) (by omega)) ⟨rfl, rfl, lvE (nI_1 jz), trivial⟩)
    · refine gf_aload_n 0 dX5_spread_68 rfl rfl ?_
      refine gf_iload_n 2 dX5_spread_69 rfl rfl ?_
      refine gf_aload_n 0 dX5_spread_70 rfl rfl ?_
      refine gf_getR flX5_46 rfl dX5_spread_71 (gt_174 hG) (gp_174_5 hG) ?_
      refine gf_getR flX5_119 rfl dX5_spread_74 (gt_1 hG) (gp_1_13 hG) ?_
      refine gf_iload_n 1 dX5_spread_77 rfl rfl ?_
      refine gf_iald 121 dX5_spread_78 (gt_132 hG) (gl_132 hG) rfl (by omega) (by decide) ?_
      refine gf_aload_n 0 dX5_spread_79 rfl rfl ?_
      refine gf_getR flX5_46 rfl dX5_spread_80 (gt_174 hG) (gp_174_5 hG) ?_
      refine gf_getR flX5_122 rfl dX5_spread_83 (gt_1 hG) (gp_1_14 hG) ?_
      refine gf_iload_n 1 dX5_spread_86 rfl rfl ?_
      refine gf_iald 121 dX5_spread_87 (gt_133 hG) (gl_133 hG) rfl (by omega) (by decide) ?_
      refine gf_callV cmX5_warmAround lkX5_125 imX5_warmAround seX5_warmAround ⟨rfl, by decide⟩ dX5_spread_88 (d1 := d - 1) (by omega) (gt_174 hG) (e_X5_warm_174 E (by omega) (c := jz) (k := kt) (hp_i h 132 t0) (hp_i h 133 t0) h hG (itN (sp2 (hp_i h) w g (hp_i h 132 t0) (hp_i h 133 t0)) X (jz)) C (by omega) hkt hk6) rfl rfl (Nat.le_of_ble_eq_true rfl) ?_
      refine gf_iinc (1) dX5_spread_91 rfl rfl (Nat.le_of_ble_eq_true rfl) ?_
      refine gf_goto 47 dX5_spread_94 rfl ?_
      exact gf_hE (congrArg (hb h 174 12) (show _ = sp2 (hp_i h) w g (hp_i h 132 t0) (hp_i h 133 t0) (itN (sp2 (hp_i h) w g (hp_i h 132 t0) (hp_i h 133 t0)) X (jz)) jz from (if_pos zc65).symm)) (gf_lw (ih (jz + 1) (by omega)) ⟨rfl, rfl, lvE (nI_1 jz), trivial⟩)
theorem l_X5_sp3_174 (E : gE) {d : Nat} (hd : 2 ≤ d) {t0 : Nat} (h : hp_T) (hG : gr h) (X : Nat → Nat → Int32) {w g : Nat} (C : cty (hp_i h) w g) (ht : 1 ≤ t0 ∧ t0 ≤ 120) (hwl : ∀ c, c < 120 → ∃ k, k < 4 ∧ hp_i h 3 c = nI k) {v : Option Value} {hz : hp_T} (K : gf E mX5_spread d 147 [(0, .ref (E.1 + 174)), (1, .int (nI t0)), (2, .int (nI (w * g)))] [] (hb h 174 12 (itN (sp3 (rsW (hp_i h 3)) (nI t0)) X (w * g))) v hz) : ∀ (kz jz : Nat), jz + kz = w * g → gf E mX5_spread d 99 [(0, .ref (E.1 + 174)), (1, .int (nI t0)), (2, .int (nI (jz)))] [] (hb h 174 12 (itN (sp3 (rsW (hp_i h 3)) (nI t0)) X (jz))) v hz := by
  have hn := cty_n C
  intro kz
  induction kz with
  | zero =>
    intro jz hj
    have hj : w * g = jz := by omega
    subst hj
    refine gf_iload_n 2 dX5_spread_99 rfl rfl ?_
    refine gf_aload_n 0 dX5_spread_100 rfl rfl ?_
    refine gf_getR flX5_46 rfl dX5_spread_101 (gt_174 hG) (gp_174_5 hG) ?_
    refine gf_getI flX5_79 rfl dX5_spread_104 (gt_1 hG) ?_
    refine gf_icmp_ge 147 dX5_spread_107 rfl (fun _ => ?_) (fun q => absurd (by rw [show hp_i (hb h 174 12 (itN (sp3 (rsW (hp_i h 3)) (nI t0)) X (w * g))) 1 2 = nI (w * g) from C.2.2.2.1]; exact nI_le (Nat.le_refl _) (by omega)) q)
    exact gf_lw K ⟨rfl, rfl, rfl, trivial⟩
  | succ kz ih =>
    intro jz hj
    obtain ⟨kw, hk4, hkw⟩ := hwl jz (by omega)
    refine gf_iload_n 2 dX5_spread_99 rfl rfl ?_
    refine gf_aload_n 0 dX5_spread_100 rfl rfl ?_
    refine gf_getR flX5_46 rfl dX5_spread_101 (gt_174 hG) (gp_174_5 hG) ?_
    refine gf_getI flX5_79 rfl dX5_spread_104 (gt_1 hG) ?_
    refine gf_icmp_ge 147 dX5_spread_107 rfl (fun q => absurd q (by rw [show hp_i (hb h 174 12 (itN (sp3 (rsW (hp_i h 3)) (nI t0)) X (jz))) 1 2 = nI (w * g) from C.2.2.2.1]; exact nI_ge (by omega) (by omega))) (fun _ => ?_)
    refine gf_aload_n 0 dX5_spread_110 rfl rfl ?_
    refine gf_iload_n 2 dX5_spread_111 rfl rfl ?_
    refine gf_callV cmX5_mayCatch lkX5_113 imX5_mayCatch seX5_mayCatch ⟨rfl, by decide⟩ dX5_spread_112 (d1 := d - 1) (by omega) (gt_174 hG) (e_X5_mayCatch_174 E (by omega) (c := jz) h hG (itN (sp3 (rsW (hp_i h 3)) (nI t0)) X (jz)) (by omega)) rfl rfl (Nat.le_of_ble_eq_true rfl) ?_
    refine gf_if_eq 141 dX5_spread_115 rfl (fun zc115 => ?_) (fun zc115 => ?_)
    · refine gf_iinc (1) dX5_spread_141 rfl rfl (Nat.le_of_ble_eq_true rfl) ?_
      refine gf_goto 99 dX5_spread_144 rfl ?_
      exact gf_hE (congrArg (hb h 174 12) (show _ = sp3 (rsW (hp_i h 3)) (nI t0) (itN (sp3 (rsW (hp_i h 3)) (nI t0)) X (jz)) jz from (if_neg (zb_0.mp zc115)).symm)) (gf_lw (ih (jz + 1) (by omega)) ⟨rfl, rfl, lvE (nI_1 jz), trivial⟩)
    · refine gf_aload_n 0 dX5_spread_118 rfl rfl ?_
      refine gf_getR flX5_22 rfl dX5_spread_119 (gt_174 hG) (gp_174_8 hG) ?_
      refine gf_iload_n 2 dX5_spread_122 rfl rfl ?_
      refine gf_iald 120 dX5_spread_123 (gt_178 hG) (gl_178 hG) rfl (by omega) (by decide) ?_
      refine gf_aload_n 0 dX5_spread_124 rfl rfl ?_
      refine gf_getR flX5_46 rfl dX5_spread_125 (gt_174 hG) (gp_174_5 hG) ?_
      refine gf_iload_n 2 dX5_spread_128 rfl rfl ?_
      refine gf_callV cmX1_resistOf lkX5_129 imX1_resistOf seX1_resistOf ⟨rfl, by decide⟩ dX5_spread_129 (d1 := d - 1) (by omega) (gt_1 hG) (e_X1_resistOf E (by omega) (c := jz) (k := kw) (by omega) _ hG hkw hk4) rfl rfl (Nat.le_of_ble_eq_true rfl) ?_
      refine gf_icmp_lt 141 dX5_spread_132 rfl (fun zc132 => ?_) (fun zc132 => ?_)
      · refine gf_iinc (1) dX5_spread_141 rfl rfl (Nat.le_of_ble_eq_true rfl) ?_
        refine gf_goto 99 dX5_spread_144 rfl ?_
        exact gf_hE (congrArg (hb h 174 12) (show _ = sp3 (rsW (hp_i h 3)) (nI t0) (itN (sp3 (rsW (hp_i h 3)) (nI t0)) X (jz)) jz from ((if_pos (zb_1.mp zc115)).trans (if_pos (show (itN (sp3 (rsW (hp_i h 3)) (nI t0)) X (jz)) 4 jz < rsW (hp_i h 3) jz from by have zz := zc132; rw [show (gf_sc 2).getD kw 0 = rsW (hp_i h 3) jz from by unfold rsW; rw [hkw, nI_clamp (by omega)]] at zz; exact zz))).symm)) (gf_lw (ih (jz + 1) (by omega)) ⟨rfl, rfl, lvE (nI_1 jz), trivial⟩)
      · refine gf_aload_n 0 dX5_spread_135 rfl rfl ?_
        refine gf_iload_n 2 dX5_spread_136 rfl rfl ?_
        refine gf_iload_n 1 dX5_spread_137 rfl rfl ?_
        refine gf_callV cmX5_kindle lkX5_57 imX5_kindle seX5_kindle ⟨rfl, by decide⟩ dX5_spread_138 (d1 := d - 1) (by omega) (gt_174 hG) (e_X5_kindle_174 E (by omega) (c := jz) (nI t0) h hG (itN (sp3 (rsW (hp_i h 3)) (nI t0)) X (jz)) (by omega)) rfl rfl (Nat.le_of_ble_eq_true rfl) ?_
        refine gf_iinc (1) dX5_spread_141 rfl rfl (Nat.le_of_ble_eq_true rfl) ?_
        refine gf_goto 99 dX5_spread_144 rfl ?_
        exact gf_hE (congrArg (hb h 174 12) (show _ = sp3 (rsW (hp_i h 3)) (nI t0) (itN (sp3 (rsW (hp_i h 3)) (nI t0)) X (jz)) jz from ((if_pos (zb_1.mp zc115)).trans (if_neg (show ¬ (itN (sp3 (rsW (hp_i h 3)) (nI t0)) X (jz)) 4 jz < rsW (hp_i h 3) jz from by have zz := zc132; rw [show (gf_sc 2).getD kw 0 = rsW (hp_i h 3) jz from by unfold rsW; rw [hkw, nI_clamp (by omega)]] at zz; exact zz))).symm)) (gf_lw (ih (jz + 1) (by omega)) ⟨rfl, rfl, lvE (nI_1 jz), trivial⟩)
theorem e_X5_spread_174 (E : gE) {d : Nat} (hd : 2 ≤ d) {t0 : Nat} (h : hp_T) (hG : gr h) (X : Nat → Nat → Int32) {w g : Nat} (C : cty (hp_i h) w g) (ht : 1 ≤ t0 ∧ t0 ≤ 120) (hwl : ∀ c, c < 120 → ∃ k, k < 4 ∧ hp_i h 3 c = nI k) (htr : ∀ c, c < 120 → ∃ k, k < 6 ∧ hp_i h 4 c = nI k) : ev E mX5_spread d [.ref (E.1 + 174), .int (nI t0)] (hb h 174 12 X) (none) (hb h 174 12 (sprX (hp_i h) w g t0 X)) := by
  refine ev_of rfl (fun q => absurd q (by decide)) (Nat.le_of_ble_eq_true rfl) ?_
  refine gf_iconst (0) dX5_spread_0 rfl ?_
  refine gf_istore_n 2 dX5_spread_1 rfl (Nat.le_of_ble_eq_true rfl) ?_
  refine l_X5_sp1_174 E (by omega) h hG X C ht ?_ (w * g) 0 (by omega)
  refine gf_iconst (0) dX5_spread_45 rfl ?_
  refine gf_istore_n 2 dX5_spread_46 rfl (Nat.le_of_ble_eq_true rfl) ?_
  refine l_X5_sp2_174 E hd h hG (itN sp1 X (w * g)) C ht htr ?_ (w * g) 0 (by omega)
  refine gf_iconst (0) dX5_spread_97 rfl ?_
  refine gf_istore_n 2 dX5_spread_98 rfl (Nat.le_of_ble_eq_true rfl) ?_
  refine l_X5_sp3_174 E hd h hG (itN (sp2 (hp_i h) w g (hp_i h 132 t0) (hp_i h 133 t0)) (itN sp1 X (w * g)) (w * g)) C ht hwl ?_ (w * g) 0 (by omega)
  exact gf_vretE dX5_spread_147 rfl (rfl)
theorem l_X5_warm_193 (E : gE) {d : Nat} (hd : 1 ≤ d) {c : Nat} (wy sg wm : Int32) (h : hp_T) (hG : gr h) (X : Nat → Nat → Int32) {w g : Nat} (C : cty (hp_i h) w g) (hc : c < w * g) {v : Option Value} {hz : hp_T} (K : gf E mX5_warmAround d 96 [(0, .ref (E.1 + 193)), (1, .int (nI c)), (2, .int wy), (3, .int sg), (4, .int wm), (5, .int (nI ((8 : Nat))))] [] (hb h 193 12 (itN (wrmB w g c wy sg wm) X ((8 : Nat)))) v hz) : ∀ (kz jz : Nat), jz + kz = (8 : Nat) → gf E mX5_warmAround d 29 [(0, .ref (E.1 + 193)), (1, .int (nI c)), (2, .int wy), (3, .int sg), (4, .int wm), (5, .int (nI (jz)))] [] (hb h 193 12 (itN (wrmB w g c wy sg wm) X (jz))) v hz := by
  have hn := cty_n C
  intro kz
  induction kz with
  | zero =>
    intro jz hj
    have hj : (8 : Nat) = jz := by omega
    subst hj
    refine gf_iload dX5_warmAround_29 rfl ?_
    refine gf_bipush (8) dX5_warmAround_31 rfl ?_
    refine gf_icmp_ge 96 dX5_warmAround_33 rfl (fun _ => ?_) (fun q => absurd (by decide) q)
    exact gf_lw K ⟨rfl, rfl, rfl, rfl, rfl, rfl, trivial⟩
  | succ kz ih =>
    intro jz hj
    have hv := ((congrFun (hb_out h (itN (wrmB w g c wy sg wm) X (jz)) (b := 193) (n := 12) (x := 10 + c) (by omega)) jz).trans ((C.2.2.2.2 c hc).2.2 jz (by omega)))
    cases hq : nbo w g c jz with
    | none =>
      rw [hq] at hv
      have hv : hp_i (hb h 193 12 (itN (wrmB w g c wy sg wm) X (jz))) (10 + c) jz = -1 := hv
      have e0 : wrmB w g c wy sg wm (itN (wrmB w g c wy sg wm) X (jz)) jz = (itN (wrmB w g c wy sg wm) X (jz)) := by unfold wrmB; simp only [hq]
      refine gf_iload dX5_warmAround_29 rfl ?_
      refine gf_bipush (8) dX5_warmAround_31 rfl ?_
      refine gf_icmp_ge 96 dX5_warmAround_33 rfl (fun q => absurd q (by rw [show (8 : Int32) = nI 8 from rfl]; exact nI_ge (by omega) (by decide))) (fun _ => ?_)
      refine gf_aload_n 0 dX5_warmAround_36 rfl rfl ?_
      refine gf_getR flX5_46 rfl dX5_warmAround_37 (gt_193 hG) (gp_193_5 hG) ?_
      refine gf_getR flX5_138 rfl dX5_warmAround_40 (gt_1 hG) (gp_1_10 hG) ?_
      refine gf_iload_n 1 dX5_warmAround_43 rfl rfl ?_
      refine gf_rald 120 dX5_warmAround_44 (gt_9 hG) (by decide) (by decide) (gl_9 hG) rfl (show c < 120 by omega) (by decide) (gq_ar hG (show c < 120 by omega)) ?_
      refine gf_iload dX5_warmAround_45 rfl ?_
      refine gf_iald 8 dX5_warmAround_47 (gqt_ar hG (show c < 120 by omega)) (gql_ar hG (show c < 120 by omega)) rfl (by omega) (by decide) ?_
      refine gf_istore dX5_warmAround_48 (Nat.le_of_ble_eq_true rfl) ?_
      refine gf_iload dX5_warmAround_50 rfl ?_
      refine gf_iconst (-1) dX5_warmAround_52 rfl ?_
      refine gf_icmp_eq 90 dX5_warmAround_53 rfl (fun _ => ?_) (fun q => absurd (hv) q)
      refine gf_iinc (1) dX5_warmAround_90 rfl rfl (Nat.le_of_ble_eq_true rfl) ?_
      refine gf_goto 29 dX5_warmAround_93 rfl ?_
      exact gf_hE (congrArg (hb h 193 12) e0.symm) (gf_lw (ih (jz + 1) (by omega)) ⟨rfl, rfl, rfl, rfl, rfl, lvE (nI_1 jz), trivial⟩)
    | some x =>
      rw [hq] at hv
      have hv : hp_i (hb h 193 12 (itN (wrmB w g c wy sg wm) X (jz))) (10 + c) jz = nI x := hv
      have hx := nbo_lt hq
      have e1 : wrmB w g c wy sg wm (itN (wrmB w g c wy sg wm) X (jz)) jz = (if ¬ (itN (wrmB w g c wy sg wm) X (jz)) 1 x = 0 ∧ (itN (wrmB w g c wy sg wm) X (jz)) 3 x = 0 then up2 (itN (wrmB w g c wy sg wm) X (jz)) 4 x ((itN (wrmB w g c wy sg wm) X (jz)) 4 x + (if nI jz = wy then wm + sg else wm)) else (itN (wrmB w g c wy sg wm) X (jz))) := by unfold wrmB; simp only [hq]
      refine gf_iload dX5_warmAround_29 rfl ?_
      refine gf_bipush (8) dX5_warmAround_31 rfl ?_
      refine gf_icmp_ge 96 dX5_warmAround_33 rfl (fun q => absurd q (by rw [show (8 : Int32) = nI 8 from rfl]; exact nI_ge (by omega) (by decide))) (fun _ => ?_)
      refine gf_aload_n 0 dX5_warmAround_36 rfl rfl ?_
      refine gf_getR flX5_46 rfl dX5_warmAround_37 (gt_193 hG) (gp_193_5 hG) ?_
      refine gf_getR flX5_138 rfl dX5_warmAround_40 (gt_1 hG) (gp_1_10 hG) ?_
      refine gf_iload_n 1 dX5_warmAround_43 rfl rfl ?_
      refine gf_rald 120 dX5_warmAround_44 (gt_9 hG) (by decide) (by decide) (gl_9 hG) rfl (show c < 120 by omega) (by decide) (gq_ar hG (show c < 120 by omega)) ?_
      refine gf_iload dX5_warmAround_45 rfl ?_
      refine gf_iald 8 dX5_warmAround_47 (gqt_ar hG (show c < 120 by omega)) (gql_ar hG (show c < 120 by omega)) rfl (by omega) (by decide) ?_
      refine gf_istore dX5_warmAround_48 (Nat.le_of_ble_eq_true rfl) ?_
      refine gf_iload dX5_warmAround_50 rfl ?_
      refine gf_iconst (-1) dX5_warmAround_52 rfl ?_
      refine gf_icmp_eq 90 dX5_warmAround_53 rfl (fun q => absurd q (by rw [hv]; exact nI_nm1 (by omega))) (fun _ => ?_)
      refine gf_aload_n 0 dX5_warmAround_56 rfl rfl ?_
      refine gf_iload dX5_warmAround_57 rfl ?_
      refine gf_callV cmX5_mayCatch lkX5_113 imX5_mayCatch seX5_mayCatch ⟨rfl, by decide⟩ dX5_warmAround_59 (d1 := d - 1) (by omega) (gt_193 hG) (ev_aE (aw := [.ref (E.1 + 193), .int (hp_i (hb h 193 12 (itN (wrmB w g c wy sg wm) X (jz))) (10 + c) jz)]) (by rw [hv]) (e_X5_mayCatch_193 E (by omega) (c := x) h hG (itN (wrmB w g c wy sg wm) X (jz)) (by omega))) rfl rfl (Nat.le_of_ble_eq_true rfl) ?_
      refine gf_if_eq 90 dX5_warmAround_62 rfl (fun zc62 => ?_) (fun zc62 => ?_)
      · refine gf_iinc (1) dX5_warmAround_90 rfl rfl (Nat.le_of_ble_eq_true rfl) ?_
        refine gf_goto 29 dX5_warmAround_93 rfl ?_
        exact gf_hE (congrArg (hb h 193 12) (e1.trans (if_neg (zb_0.mp zc62))).symm) (gf_lw (ih (jz + 1) (by omega)) ⟨rfl, rfl, rfl, rfl, rfl, lvE (nI_1 jz), trivial⟩)
      · refine gf_aload_n 0 dX5_warmAround_65 rfl rfl ?_
        refine gf_getR flX5_22 rfl dX5_warmAround_66 (gt_193 hG) (gp_193_8 hG) ?_
        refine gf_iload dX5_warmAround_69 rfl ?_
        refine gf_dup2 dX5_warmAround_71 rfl rfl ?_
        refine gf_iald 120 dX5_warmAround_72 (gt_197 hG) (gl_197 hG) hv (by omega) (by decide) ?_
        refine gf_iload dX5_warmAround_73 rfl ?_
        refine gf_iload_n 2 dX5_warmAround_75 rfl rfl ?_
        refine gf_icmp_ne 86 dX5_warmAround_76 rfl (fun zc76 => ?_) (fun zc76 => ?_)
        · refine gf_iload dX5_warmAround_86 rfl ?_
          refine gf_iadd dX5_warmAround_88 ?_
          refine gf_iast 120 dX5_warmAround_89 (gt_197 hG) (gl_197 hG) hv (by omega) (by decide) ?_
          refine gf_iinc (1) dX5_warmAround_90 rfl rfl (Nat.le_of_ble_eq_true rfl) ?_
          refine gf_goto 29 dX5_warmAround_93 rfl ?_
          exact gf_hE ((hs193_4 h (itN (wrmB w g c wy sg wm) X (jz)) x _).trans (congrArg (hb h 193 12) (show up2 (itN (wrmB w g c wy sg wm) X (jz)) 4 x _ = _ from (e1.trans ((if_pos (zb_1.mp zc62)).trans (congrArg (fun z => up2 (itN (wrmB w g c wy sg wm) X (jz)) 4 x ((itN (wrmB w g c wy sg wm) X (jz)) 4 x + z)) (if_neg zc76)))).symm))) (gf_lw (ih (jz + 1) (by omega)) ⟨rfl, rfl, rfl, rfl, rfl, lvE (nI_1 jz), trivial⟩)
        · refine gf_iload dX5_warmAround_79 rfl ?_
          refine gf_iload_n 3 dX5_warmAround_81 rfl rfl ?_
          refine gf_iadd dX5_warmAround_82 ?_
          refine gf_goto 88 dX5_warmAround_83 rfl ?_
          refine gf_iadd dX5_warmAround_88 ?_
          refine gf_iast 120 dX5_warmAround_89 (gt_197 hG) (gl_197 hG) hv (by omega) (by decide) ?_
          refine gf_iinc (1) dX5_warmAround_90 rfl rfl (Nat.le_of_ble_eq_true rfl) ?_
          refine gf_goto 29 dX5_warmAround_93 rfl ?_
          exact gf_hE ((hs193_4 h (itN (wrmB w g c wy sg wm) X (jz)) x _).trans (congrArg (hb h 193 12) (show up2 (itN (wrmB w g c wy sg wm) X (jz)) 4 x _ = _ from (e1.trans ((if_pos (zb_1.mp zc62)).trans (congrArg (fun z => up2 (itN (wrmB w g c wy sg wm) X (jz)) 4 x ((itN (wrmB w g c wy sg wm) X (jz)) 4 x + z)) (if_pos zc76)))).symm))) (gf_lw (ih (jz + 1) (by omega)) ⟨rfl, rfl, rfl, rfl, rfl, lvE (nI_1 jz), trivial⟩)
theorem e_X5_warm_193 (E : gE) {d : Nat} (hd : 1 ≤ d) {c k : Nat} (wy sg : Int32) (h : hp_T) (hG : gr h) (X : Nat → Nat → Int32) {w g : Nat} (C : cty (hp_i h) w g) (hc : c < w * g) (hk : hp_i h 4 c = nI k) (hk6 : k < 6) : ev E mX5_warmAround d [.ref (E.1 + 193), .int (nI c), .int wy, .int sg] (hb h 193 12 X) (none) (hb h 193 12 (itN (wrmB w g c wy sg (X 5 c + hzT (hp_i h) c)) X 8)) := by
  have hn := cty_n C
  refine ev_of rfl (fun q => absurd q (by decide)) (Nat.le_of_ble_eq_true rfl) ?_
  refine gf_aload_n 0 dX5_warmAround_0 rfl rfl ?_
  refine gf_getR flX5_25 rfl dX5_warmAround_1 (gt_193 hG) (gp_193_9 hG) ?_
  refine gf_iload_n 1 dX5_warmAround_4 rfl rfl ?_
  refine gf_iald 120 dX5_warmAround_5 (gt_198 hG) (gl_198 hG) rfl (by omega) (by decide) ?_
  refine gf_aload_n 0 dX5_warmAround_6 rfl rfl ?_
  refine gf_getR flX5_46 rfl dX5_warmAround_7 (gt_193 hG) (gp_193_5 hG) ?_
  refine gf_getR flX5_132 rfl dX5_warmAround_10 (gt_1 hG) (gp_1_11 hG) ?_
  refine gf_aload_n 0 dX5_warmAround_13 rfl rfl ?_
  refine gf_getR flX5_46 rfl dX5_warmAround_14 (gt_193 hG) (gp_193_5 hG) ?_
  refine gf_getR flX5_135 rfl dX5_warmAround_17 (gt_1 hG) (gp_1_5 hG) ?_
  refine gf_iload_n 1 dX5_warmAround_20 rfl rfl ?_
  refine gf_iald 120 dX5_warmAround_21 (gt_4 hG) (gl_4 hG) rfl (by omega) (by decide) ?_
  refine gf_iald 6 dX5_warmAround_22 (gt_130 hG) (gl_130 hG) hk hk6 (by decide) ?_
  refine gf_iadd dX5_warmAround_23 ?_
  refine gf_istore dX5_warmAround_24 (Nat.le_of_ble_eq_true rfl) ?_
  refine gf_iconst (0) dX5_warmAround_26 rfl ?_
  refine gf_istore dX5_warmAround_27 (Nat.le_of_ble_eq_true rfl) ?_
  refine gf_lw (l_X5_warm_193 E hd wy sg (X 5 c + hzT (hp_i h) c) h hG X C hc ?_ 8 0 (by omega)) ⟨rfl, rfl, rfl, rfl, lvE (by unfold hzT; rw [hk, nI_clamp (by omega)]; rfl), rfl, trivial⟩
  exact gf_vretE dX5_warmAround_96 rfl (rfl)
theorem l_X5_sp1_193 (E : gE) {d : Nat} (hd : 1 ≤ d) {t0 : Nat} (h : hp_T) (hG : gr h) (X : Nat → Nat → Int32) {w g : Nat} (C : cty (hp_i h) w g) (ht : 1 ≤ t0 ∧ t0 ≤ 120) {v : Option Value} {hz : hp_T} (K : gf E mX5_spread d 45 [(0, .ref (E.1 + 193)), (1, .int (nI t0)), (2, .int (nI (w * g)))] [] (hb h 193 12 (itN sp1 X (w * g))) v hz) : ∀ (kz jz : Nat), jz + kz = w * g → gf E mX5_spread d 2 [(0, .ref (E.1 + 193)), (1, .int (nI t0)), (2, .int (nI (jz)))] [] (hb h 193 12 (itN sp1 X (jz))) v hz := by
  have hn := cty_n C
  intro kz
  induction kz with
  | zero =>
    intro jz hj
    have hj : w * g = jz := by omega
    subst hj
    refine gf_iload_n 2 dX5_spread_2 rfl rfl ?_
    refine gf_aload_n 0 dX5_spread_3 rfl rfl ?_
    refine gf_getR flX5_46 rfl dX5_spread_4 (gt_193 hG) (gp_193_5 hG) ?_
    refine gf_getI flX5_79 rfl dX5_spread_7 (gt_1 hG) ?_
    refine gf_icmp_ge 45 dX5_spread_10 rfl (fun _ => ?_) (fun q => absurd (by rw [show hp_i (hb h 193 12 (itN sp1 X (w * g))) 1 2 = nI (w * g) from C.2.2.2.1]; exact nI_le (Nat.le_refl _) (by omega)) q)
    exact gf_lw K ⟨rfl, rfl, rfl, trivial⟩
  | succ kz ih =>
    intro jz hj
    refine gf_iload_n 2 dX5_spread_2 rfl rfl ?_
    refine gf_aload_n 0 dX5_spread_3 rfl rfl ?_
    refine gf_getR flX5_46 rfl dX5_spread_4 (gt_193 hG) (gp_193_5 hG) ?_
    refine gf_getI flX5_79 rfl dX5_spread_7 (gt_1 hG) ?_
    refine gf_icmp_ge 45 dX5_spread_10 rfl (fun q => absurd q (by rw [show hp_i (hb h 193 12 (itN sp1 X (jz))) 1 2 = nI (w * g) from C.2.2.2.1]; exact nI_ge (by omega) (by omega))) (fun _ => ?_)
    refine gf_aload_n 0 dX5_spread_13 rfl rfl ?_
    refine gf_iload_n 2 dX5_spread_14 rfl rfl ?_
    refine gf_callV cmX5_mayCatch lkX5_113 imX5_mayCatch seX5_mayCatch ⟨rfl, by decide⟩ dX5_spread_15 (d1 := d - 1) (by omega) (gt_193 hG) (e_X5_mayCatch_193 E (by omega) (c := jz) h hG (itN sp1 X (jz)) (by omega)) rfl rfl (Nat.le_of_ble_eq_true rfl) ?_
    refine gf_if_eq 39 dX5_spread_18 rfl (fun zc18 => ?_) (fun zc18 => ?_)
    · refine gf_iinc (1) dX5_spread_39 rfl rfl (Nat.le_of_ble_eq_true rfl) ?_
      refine gf_goto 2 dX5_spread_42 rfl ?_
      exact gf_hE (congrArg (hb h 193 12) (show _ = sp1 (itN sp1 X (jz)) jz from (if_neg (zb_0.mp zc18)).symm)) (gf_lw (ih (jz + 1) (by omega)) ⟨rfl, rfl, lvE (nI_1 jz), trivial⟩)
    · refine gf_aload_n 0 dX5_spread_21 rfl rfl ?_
      refine gf_getR flX5_22 rfl dX5_spread_22 (gt_193 hG) (gp_193_8 hG) ?_
      refine gf_iload_n 2 dX5_spread_25 rfl rfl ?_
      refine gf_iconst (0) dX5_spread_26 rfl ?_
      refine gf_aload_n 0 dX5_spread_27 rfl rfl ?_
      refine gf_getR flX5_22 rfl dX5_spread_28 (gt_193 hG) (gp_193_8 hG) ?_
      refine gf_iload_n 2 dX5_spread_31 rfl rfl ?_
      refine gf_iald 120 dX5_spread_32 (gt_197 hG) (gl_197 hG) rfl (by omega) (by decide) ?_
      refine gf_iconst (2) dX5_spread_33 rfl ?_
      refine gf_isub dX5_spread_34 ?_
      refine gf_max lkX5_116 kMmax.1 kMmax.2.1 kMmax.2.2 dX5_spread_35 (by omega) (Nat.le_of_ble_eq_true rfl) ?_
      refine gf_iast 120 dX5_spread_38 (gt_197 hG) (gl_197 hG) rfl (by omega) (by decide) ?_
      refine gf_iinc (1) dX5_spread_39 rfl rfl (Nat.le_of_ble_eq_true rfl) ?_
      refine gf_goto 2 dX5_spread_42 rfl ?_
      exact gf_hE ((hs193_4 h (itN sp1 X (jz)) jz _).trans (congrArg (hb h 193 12) (show _ = sp1 (itN sp1 X (jz)) jz from (if_pos (zb_1.mp zc18)).symm))) (gf_lw (ih (jz + 1) (by omega)) ⟨rfl, rfl, lvE (nI_1 jz), trivial⟩)
theorem l_X5_sp2_193 (E : gE) {d : Nat} (hd : 2 ≤ d) {t0 : Nat} (h : hp_T) (hG : gr h) (X : Nat → Nat → Int32) {w g : Nat} (C : cty (hp_i h) w g) (ht : 1 ≤ t0 ∧ t0 ≤ 120) (htr : ∀ c, c < 120 → ∃ k, k < 6 ∧ hp_i h 4 c = nI k) {v : Option Value} {hz : hp_T} (K : gf E mX5_spread d 97 [(0, .ref (E.1 + 193)), (1, .int (nI t0)), (2, .int (nI (w * g)))] [] (hb h 193 12 (itN (sp2 (hp_i h) w g (hp_i h 132 t0) (hp_i h 133 t0)) X (w * g))) v hz) : ∀ (kz jz : Nat), jz + kz = w * g → gf E mX5_spread d 47 [(0, .ref (E.1 + 193)), (1, .int (nI t0)), (2, .int (nI (jz)))] [] (hb h 193 12 (itN (sp2 (hp_i h) w g (hp_i h 132 t0) (hp_i h 133 t0)) X (jz))) v hz := by
  have hn := cty_n C
  intro kz
  induction kz with
  | zero =>
    intro jz hj
    have hj : w * g = jz := by omega
    subst hj
    refine gf_iload_n 2 dX5_spread_47 rfl rfl ?_
    refine gf_aload_n 0 dX5_spread_48 rfl rfl ?_
    refine gf_getR flX5_46 rfl dX5_spread_49 (gt_193 hG) (gp_193_5 hG) ?_
    refine gf_getI flX5_79 rfl dX5_spread_52 (gt_1 hG) ?_
    refine gf_icmp_ge 97 dX5_spread_55 rfl (fun _ => ?_) (fun q => absurd (by rw [show hp_i (hb h 193 12 (itN (sp2 (hp_i h) w g (hp_i h 132 t0) (hp_i h 133 t0)) X (w * g))) 1 2 = nI (w * g) from C.2.2.2.1]; exact nI_le (Nat.le_refl _) (by omega)) q)
    exact gf_lw K ⟨rfl, rfl, rfl, trivial⟩
  | succ kz ih =>
    intro jz hj
    obtain ⟨kt, hk6, hkt⟩ := htr jz (by omega)
    refine gf_iload_n 2 dX5_spread_47 rfl rfl ?_
    refine gf_aload_n 0 dX5_spread_48 rfl rfl ?_
    refine gf_getR flX5_46 rfl dX5_spread_49 (gt_193 hG) (gp_193_5 hG) ?_
    refine gf_getI flX5_79 rfl dX5_spread_52 (gt_1 hG) ?_
    refine gf_icmp_ge 97 dX5_spread_55 rfl (fun q => absurd q (by rw [show hp_i (hb h 193 12 (itN (sp2 (hp_i h) w g (hp_i h 132 t0) (hp_i h 133 t0)) X (jz))) 1 2 = nI (w * g) from C.2.2.2.1]; exact nI_ge (by omega) (by omega))) (fun _ => ?_)
    refine gf_aload_n 0 dX5_spread_58 rfl rfl ?_
    refine gf_getR flX5_19 rfl dX5_spread_59 (gt_193 hG) (gp_193_7 hG) ?_
    refine gf_iload_n 2 dX5_spread_62 rfl rfl ?_
    refine gf_iald 120 dX5_spread_63 (gt_196 hG) (gl_196 hG) rfl (by omega) (by decide) ?_
    refine gf_iconst (1) dX5_spread_64 rfl ?_
    refine gf_icmp_ne 91 dX5_spread_65 rfl (fun zc65 => ?_) (fun zc65 => ?_)
    · refine gf_iinc (1) dX5_spread_91 rfl rfl (Nat.le_of_ble_eq_true rfl) ?_
      refine gf_goto 47 dX5_spread_94 rfl ?_
      exact gf_hE (congrArg (hb h 193 12) (show _ = sp2 (hp_i h) w g (hp_i h 132 t0) (hp_i h 133 t0) (itN (sp2 (hp_i h) w g (hp_i h 132 t0) (hp_i h 133 t0)) X (jz)) jz from (if_neg zc65).symm)) (gf_lw (ih (jz + 1) (by omega)) ⟨rfl, rfl, lvE (nI_1 jz), trivial⟩)
    · refine gf_aload_n 0 dX5_spread_68 rfl rfl ?_
      refine gf_iload_n 2 dX5_spread_69 rfl rfl ?_
      refine gf_aload_n 0 dX5_spread_70 rfl rfl ?_
      refine gf_getR flX5_46 rfl dX5_spread_71 (gt_193 hG) (gp_193_5 hG) ?_
      refine gf_getR flX5_119 rfl dX5_spread_74 (gt_1 hG) (gp_1_13 hG) ?_
      refine gf_iload_n 1 dX5_spread_77 rfl rfl ?_
      refine gf_iald 121 dX5_spread_78 (gt_132 hG) (gl_132 hG) rfl (by omega) (by decide) ?_
      refine gf_aload_n 0 dX5_spread_79 rfl rfl ?_
      refine gf_getR flX5_46 rfl dX5_spread_80 (gt_193 hG) (gp_193_5 hG) ?_
      refine gf_getR flX5_122 rfl dX5_spread_83 (gt_1 hG) (gp_1_14 hG) ?_
      refine gf_iload_n 1 dX5_spread_86 rfl rfl ?_
      refine gf_iald 121 dX5_spread_87 (gt_133 hG) (gl_133 hG) rfl (by omega) (by decide) ?_
      refine gf_callV cmX5_warmAround lkX5_125 imX5_warmAround seX5_warmAround ⟨rfl, by decide⟩ dX5_spread_88 (d1 := d - 1) (by omega) (gt_193 hG) (e_X5_warm_193 E (by omega) (c := jz) (k := kt) (hp_i h 132 t0) (hp_i h 133 t0) h hG (itN (sp2 (hp_i h) w g (hp_i h 132 t0) (hp_i h 133 t0)) X (jz)) C (by omega) hkt hk6) rfl rfl (Nat.le_of_ble_eq_true rfl) ?_
      refine gf_iinc (1) dX5_spread_91 rfl rfl (Nat.le_of_ble_eq_true rfl) ?_
      refine gf_goto 47 dX5_spread_94 rfl ?_
      exact gf_hE (congrArg (hb h 193 12) (show _ = sp2 (hp_i h) w g (hp_i h 132 t0) (hp_i h 133 t0) (itN (sp2 (hp_i h) w g (hp_i h 132 t0) (hp_i h 133 t0)) X (jz)) jz from (if_pos zc65).symm)) (gf_lw (ih (jz + 1) (by omega)) ⟨rfl, rfl, lvE (nI_1 jz), trivial⟩)
theorem l_X5_sp3_193 (E : gE) {d : Nat} (hd : 2 ≤ d) {t0 : Nat} (h : hp_T) (hG : gr h) (X : Nat → Nat → Int32) {w g : Nat} (C : cty (hp_i h) w g) (ht : 1 ≤ t0 ∧ t0 ≤ 120) (hwl : ∀ c, c < 120 → ∃ k, k < 4 ∧ hp_i h 3 c = nI k) {v : Option Value} {hz : hp_T} (K : gf E mX5_spread d 147 [(0, .ref (E.1 + 193)), (1, .int (nI t0)), (2, .int (nI (w * g)))] [] (hb h 193 12 (itN (sp3 (rsW (hp_i h 3)) (nI t0)) X (w * g))) v hz) : ∀ (kz jz : Nat), jz + kz = w * g → gf E mX5_spread d 99 [(0, .ref (E.1 + 193)), (1, .int (nI t0)), (2, .int (nI (jz)))] [] (hb h 193 12 (itN (sp3 (rsW (hp_i h 3)) (nI t0)) X (jz))) v hz := by
  have hn := cty_n C
  intro kz
  induction kz with
  | zero =>
    intro jz hj
    have hj : w * g = jz := by omega
    subst hj
    refine gf_iload_n 2 dX5_spread_99 rfl rfl ?_
    refine gf_aload_n 0 dX5_spread_100 rfl rfl ?_
    refine gf_getR flX5_46 rfl dX5_spread_101 (gt_193 hG) (gp_193_5 hG) ?_
    refine gf_getI flX5_79 rfl dX5_spread_104 (gt_1 hG) ?_
    refine gf_icmp_ge 147 dX5_spread_107 rfl (fun _ => ?_) (fun q => absurd (by rw [show hp_i (hb h 193 12 (itN (sp3 (rsW (hp_i h 3)) (nI t0)) X (w * g))) 1 2 = nI (w * g) from C.2.2.2.1]; exact nI_le (Nat.le_refl _) (by omega)) q)
    exact gf_lw K ⟨rfl, rfl, rfl, trivial⟩
  | succ kz ih =>
    intro jz hj
    obtain ⟨kw, hk4, hkw⟩ := hwl jz (by omega)
    refine gf_iload_n 2 dX5_spread_99 rfl rfl ?_
    refine gf_aload_n 0 dX5_spread_100 rfl rfl ?_
    refine gf_getR flX5_46 rfl dX5_spread_101 (gt_193 hG) (gp_193_5 hG) ?_
    refine gf_getI flX5_79 rfl dX5_spread_104 (gt_1 hG) ?_
    refine gf_icmp_ge 147 dX5_spread_107 rfl (fun q => absurd q (by rw [show hp_i (hb h 193 12 (itN (sp3 (rsW (hp_i h 3)) (nI t0)) X (jz))) 1 2 = nI (w * g) from C.2.2.2.1]; exact nI_ge (by omega) (by omega))) (fun _ => ?_)
    refine gf_aload_n 0 dX5_spread_110 rfl rfl ?_
    refine gf_iload_n 2 dX5_spread_111 rfl rfl ?_
    refine gf_callV cmX5_mayCatch lkX5_113 imX5_mayCatch seX5_mayCatch ⟨rfl, by decide⟩ dX5_spread_112 (d1 := d - 1) (by omega) (gt_193 hG) (e_X5_mayCatch_193 E (by omega) (c := jz) h hG (itN (sp3 (rsW (hp_i h 3)) (nI t0)) X (jz)) (by omega)) rfl rfl (Nat.le_of_ble_eq_true rfl) ?_
    refine gf_if_eq 141 dX5_spread_115 rfl (fun zc115 => ?_) (fun zc115 => ?_)
    · refine gf_iinc (1) dX5_spread_141 rfl rfl (Nat.le_of_ble_eq_true rfl) ?_
      refine gf_goto 99 dX5_spread_144 rfl ?_
      exact gf_hE (congrArg (hb h 193 12) (show _ = sp3 (rsW (hp_i h 3)) (nI t0) (itN (sp3 (rsW (hp_i h 3)) (nI t0)) X (jz)) jz from (if_neg (zb_0.mp zc115)).symm)) (gf_lw (ih (jz + 1) (by omega)) ⟨rfl, rfl, lvE (nI_1 jz), trivial⟩)
    · refine gf_aload_n 0 dX5_spread_118 rfl rfl ?_
      refine gf_getR flX5_22 rfl dX5_spread_119 (gt_193 hG) (gp_193_8 hG) ?_
      refine gf_iload_n 2 dX5_spread_122 rfl rfl ?_
      refine gf_iald 120 dX5_spread_123 (gt_197 hG) (gl_197 hG) rfl (by omega) (by decide) ?_
      refine gf_aload_n 0 dX5_spread_124 rfl rfl ?_
      refine gf_getR flX5_46 rfl dX5_spread_125 (gt_193 hG) (gp_193_5 hG) ?_
      refine gf_iload_n 2 dX5_spread_128 rfl rfl ?_
      refine gf_callV cmX1_resistOf lkX5_129 imX1_resistOf seX1_resistOf ⟨rfl, by decide⟩ dX5_spread_129 (d1 := d - 1) (by omega) (gt_1 hG) (e_X1_resistOf E (by omega) (c := jz) (k := kw) (by omega) _ hG hkw hk4) rfl rfl (Nat.le_of_ble_eq_true rfl) ?_
      refine gf_icmp_lt 141 dX5_spread_132 rfl (fun zc132 => ?_) (fun zc132 => ?_)
      · refine gf_iinc (1) dX5_spread_141 rfl rfl (Nat.le_of_ble_eq_true rfl) ?_
        refine gf_goto 99 dX5_spread_144 rfl ?_
        exact gf_hE (congrArg (hb h 193 12) (show _ = sp3 (rsW (hp_i h 3)) (nI t0) (itN (sp3 (rsW (hp_i h 3)) (nI t0)) X (jz)) jz from ((if_pos (zb_1.mp zc115)).trans (if_pos (show (itN (sp3 (rsW (hp_i h 3)) (nI t0)) X (jz)) 4 jz < rsW (hp_i h 3) jz from by have zz := zc132; rw [show (gf_sc 2).getD kw 0 = rsW (hp_i h 3) jz from by unfold rsW; rw [hkw, nI_clamp (by omega)]] at zz; exact zz))).symm)) (gf_lw (ih (jz + 1) (by omega)) ⟨rfl, rfl, lvE (nI_1 jz), trivial⟩)
      · refine gf_aload_n 0 dX5_spread_135 rfl rfl ?_
        refine gf_iload_n 2 dX5_spread_136 rfl rfl ?_
        refine gf_iload_n 1 dX5_spread_137 rfl rfl ?_
        refine gf_callV cmX5_kindle lkX5_57 imX5_kindle seX5_kindle ⟨rfl, by decide⟩ dX5_spread_138 (d1 := d - 1) (by omega) (gt_193 hG) (e_X5_kindle_193 E (by omega) (c := jz) (nI t0) h hG (itN (sp3 (rsW (hp_i h 3)) (nI t0)) X (jz)) (by omega)) rfl rfl (Nat.le_of_ble_eq_true rfl) ?_
        refine gf_iinc (1) dX5_spread_141 rfl rfl (Nat.le_of_ble_eq_true rfl) ?_
        refine gf_goto 99 dX5_spread_144 rfl ?_
        exact gf_hE (congrArg (hb h 193 12) (show _ = sp3 (rsW (hp_i h 3)) (nI t0) (itN (sp3 (rsW (hp_i h 3)) (nI t0)) X (jz)) jz from ((if_pos (zb_1.mp zc115)).trans (if_neg (show ¬ (itN (sp3 (rsW (hp_i h 3)) (nI t0)) X (jz)) 4 jz < rsW (hp_i h 3) jz from by have zz := zc132; rw [show (gf_sc 2).getD kw 0 = rsW (hp_i h 3) jz from by unfold rsW; rw [hkw, nI_clamp (by omega)]] at zz; exact zz))).symm)) (gf_lw (ih (jz + 1) (by omega)) ⟨rfl, rfl, lvE (nI_1 jz), trivial⟩)
theorem e_X5_spread_193 (E : gE) {d : Nat} (hd : 2 ≤ d) {t0 : Nat} (h : hp_T) (hG : gr h) (X : Nat → Nat → Int32) {w g : Nat} (C : cty (hp_i h) w g) (ht : 1 ≤ t0 ∧ t0 ≤ 120) (hwl : ∀ c, c < 120 → ∃ k, k < 4 ∧ hp_i h 3 c = nI k) (htr : ∀ c, c < 120 → ∃ k, k < 6 ∧ hp_i h 4 c = nI k) : ev E mX5_spread d [.ref (E.1 + 193), .int (nI t0)] (hb h 193 12 X) (none) (hb h 193 12 (sprX (hp_i h) w g t0 X)) := by
  refine ev_of rfl (fun q => absurd q (by decide)) (Nat.le_of_ble_eq_true rfl) ?_
  refine gf_iconst (0) dX5_spread_0 rfl ?_
  refine gf_istore_n 2 dX5_spread_1 rfl (Nat.le_of_ble_eq_true rfl) ?_
  refine l_X5_sp1_193 E (by omega) h hG X C ht ?_ (w * g) 0 (by omega)
  refine gf_iconst (0) dX5_spread_45 rfl ?_
  refine gf_istore_n 2 dX5_spread_46 rfl (Nat.le_of_ble_eq_true rfl) ?_
  refine l_X5_sp2_193 E hd h hG (itN sp1 X (w * g)) C ht htr ?_ (w * g) 0 (by omega)
  refine gf_iconst (0) dX5_spread_97 rfl ?_
  refine gf_istore_n 2 dX5_spread_98 rfl (Nat.le_of_ble_eq_true rfl) ?_
  refine l_X5_sp3_193 E hd h hG (itN (sp2 (hp_i h) w g (hp_i h 132 t0) (hp_i h 133 t0)) (itN sp1 X (w * g)) (w * g)) C ht hwl ?_ (w * g) 0 (by omega)
  exact gf_vretE dX5_spread_147 rfl (rfl)
