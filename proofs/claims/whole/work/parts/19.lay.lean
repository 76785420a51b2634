/-! ===== the class: the city is laid ===== -/
/-- a cell is laid -/
def lcH (w g : Nat) (h : hp_T) (r c : Nat) : hp_T := (rw1 (hp_setI (hp_setI h 7 (r * w + c) (nI r)) 8 (r * w + c) (nI c)) (10 + (r * w + c)) (fa_fill (fun way => enc (nbo w g (r * w + c) way)) (hp_i h (10 + (r * w + c))) (8)))
theorem lc_at {w r c : Nat} (h : hp_T) (f : Nat → Int32) {x k : Nat} (hx : x < 7) : hp_i (rw1 (hp_setI (hp_setI h 7 (r * w + c) (nI r)) 8 (r * w + c) (nI c)) (10 + (r * w + c)) f) x k = hp_i h x k := by
  rw [rw1_ne _ _ (show x ≠ 10 + (r * w + c) by omega)]
  show up2 (up2 (hp_i h) 7 _ _) 8 _ _ x k = _
  rw [up2_a _ _ (show x ≠ 8 by omega), up2_a _ _ (show x ≠ 7 by omega)]
theorem l_X1_layCell (E : gE) {d : Nat} (hd : 1 ≤ d) {w g r c : Nat} (h : hp_T) (hG : gr h) (hw : hp_i h 1 0 = nI w) (hg : hp_i h 1 1 = nI g) (w12 : w < 13) (g10 : g < 11) (hr : r < g) (hc : c < w) (hK : (r * w + c) < 120) : ∀ (kz jz : Nat), jz + kz = 8 → gf E mX1_layCell d 26 [(0, .ref (E.1 + 1)), (1, .int (nI r)), (2, .int (nI c)), (3, .int (nI (r * w + c))), (4, .int (nI (jz)))] [] (rw1 (hp_setI (hp_setI h 7 (r * w + c) (nI r)) 8 (r * w + c) (nI c)) (10 + (r * w + c)) (fa_fill (fun way => enc (nbo w g (r * w + c) way)) (hp_i h (10 + (r * w + c))) (jz))) none (lcH w g h r c) := by
  intro kz
  induction kz with
  | zero =>
    intro jz hj
    have hj : jz = 8 := by omega
    subst hj
    refine gf_iload dX1_layCell_26 rfl ?_
    refine gf_bipush (8) dX1_layCell_28 rfl ?_
    refine gf_icmp_ge 124 dX1_layCell_30 rfl (fun _ => ?_) (fun q => absurd (by decide) q)
    exact gf_vretE dX1_layCell_124 rfl (rfl)
  | succ kz ih =>
    intro jz hj
    have hz : jz < 8 := by omega
    refine gf_iload dX1_layCell_26 rfl ?_
    refine gf_bipush (8) dX1_layCell_28 rfl ?_
    refine gf_icmp_ge 124 dX1_layCell_30 rfl (fun q => absurd q (by rw [show (8 : Int32) = nI 8 from rfl]; exact nI_ge (by omega) (by decide))) (fun _ => ?_)
    refine gf_iload_n 1 dX1_layCell_33 rfl rfl ?_
    refine gf_getsN (k := 0) (by decide) fsX1_77 dX1_layCell_34 ?_
    refine gf_iload dX1_layCell_37 rfl ?_
    refine gf_sald dX1_layCell_39 (by decide) rfl (by show jz < 8; omega) ?_
    refine gf_iadd dX1_layCell_40 ?_
    refine gf_istore dX1_layCell_41 (Nat.le_of_ble_eq_true rfl) ?_
    refine gf_iload_n 2 dX1_layCell_43 rfl rfl ?_
    refine gf_getsN (k := 1) (by decide) fsX1_80 dX1_layCell_44 ?_
    refine gf_iload dX1_layCell_47 rfl ?_
    refine gf_sald dX1_layCell_49 (by decide) rfl (by show jz < 8; omega) ?_
    refine gf_iadd dX1_layCell_50 ?_
    refine gf_istore dX1_layCell_51 (Nat.le_of_ble_eq_true rfl) ?_
    refine gf_iload dX1_layCell_53 rfl ?_
    refine gf_iconst (0) dX1_layCell_55 rfl ?_
    refine gf_aload_n 0 dX1_layCell_56 rfl rfl ?_
    refine gf_getI flX1_61 rfl dX1_layCell_57 (gt_1 hG) ?_
    rw [lc_at h _ (by decide), hg]
    refine gf_iconst (1) dX1_layCell_60 rfl ?_
    refine gf_isub dX1_layCell_61 ?_
    refine gf_callSN cmX11_within lkX1_83 stX11_within dX1_layCell_62 (d1 := d - 1) (by omega) (e_X11_within E (by omega) _ _ _ _) rfl rfl (Nat.le_of_ble_eq_true rfl) ?_
    refine gf_if_eq 87 dX1_layCell_65 rfl (fun zc65 => ?_) (fun zc65 => ?_)
    · refine gf_iconst (0) dX1_layCell_87 rfl ?_
      refine gf_istore dX1_layCell_88 (Nat.le_of_ble_eq_true rfl) ?_
      refine gf_aload_n 0 dX1_layCell_90 rfl rfl ?_
      refine gf_getR flX1_36 rfl dX1_layCell_91 (gt_1 hG) (gp_1_10 hG) ?_
      refine gf_iload_n 3 dX1_layCell_94 rfl rfl ?_
      refine gf_rald 120 dX1_layCell_95 (gt_9 hG) (by decide) (by decide) (gl_9 hG) rfl hK (by decide) (gq_ar hG hK) ?_
      refine gf_iload dX1_layCell_96 rfl ?_
      refine gf_iload dX1_layCell_98 rfl ?_
      refine gf_if_eq 116 dX1_layCell_100 rfl (fun _ => ?_) (fun q => absurd (rfl) q)
      refine gf_iconst (-1) dX1_layCell_116 rfl ?_
      refine gf_iast 8 dX1_layCell_117 (gqt_ar hG hK) (gql_ar hG hK) rfl hz (by decide) ?_
      refine gf_iinc (1) dX1_layCell_118 rfl rfl (Nat.le_of_ble_eq_true rfl) ?_
      refine gf_goto 26 dX1_layCell_121 rfl ?_
      refine gf_hE ((rw1_set (hp_setI (hp_setI h 7 (r * w + c) (nI r)) 8 (r * w + c) (nI c)) (10 + (r * w + c)) _ jz _).trans (congrArg (rw1 (hp_setI (hp_setI h 7 (r * w + c) (nI r)) 8 (r * w + c) (nI c)) (10 + (r * w + c))) ((congrArg (va_up _ jz) ((lay_e w12 g10 hr hc hz).2 (fun q => zb_0.mp zc65 q.1))).trans (fa_fill_succ (fun way => enc (nbo w g (r * w + c) way)) (hp_i h (10 + (r * w + c))) jz)))) ?_
      exact gf_lw (ih (jz + 1) (by omega)) ⟨rfl, rfl, rfl, rfl, lvE (nI_1 jz), trivial⟩
    · refine gf_iload dX1_layCell_68 rfl ?_
      refine gf_iconst (0) dX1_layCell_70 rfl ?_
      refine gf_aload_n 0 dX1_layCell_71 rfl rfl ?_
      refine gf_getI flX1_57 rfl dX1_layCell_72 (gt_1 hG) ?_
      rw [lc_at h _ (by decide), hw]
      refine gf_iconst (1) dX1_layCell_75 rfl ?_
      refine gf_isub dX1_layCell_76 ?_
      refine gf_callSN cmX11_within lkX1_83 stX11_within dX1_layCell_77 (d1 := d - 1) (by omega) (e_X11_within E (by omega) _ _ _ _) rfl rfl (Nat.le_of_ble_eq_true rfl) ?_
      refine gf_if_eq 87 dX1_layCell_80 rfl (fun zc80 => ?_) (fun zc80 => ?_)
      · refine gf_iconst (0) dX1_layCell_87 rfl ?_
        refine gf_istore dX1_layCell_88 (Nat.le_of_ble_eq_true rfl) ?_
        refine gf_aload_n 0 dX1_layCell_90 rfl rfl ?_
        refine gf_getR flX1_36 rfl dX1_layCell_91 (gt_1 hG) (gp_1_10 hG) ?_
        refine gf_iload_n 3 dX1_layCell_94 rfl rfl ?_
        refine gf_rald 120 dX1_layCell_95 (gt_9 hG) (by decide) (by decide) (gl_9 hG) rfl hK (by decide) (gq_ar hG hK) ?_
        refine gf_iload dX1_layCell_96 rfl ?_
        refine gf_iload dX1_layCell_98 rfl ?_
        refine gf_if_eq 116 dX1_layCell_100 rfl (fun _ => ?_) (fun q => absurd (rfl) q)
        refine gf_iconst (-1) dX1_layCell_116 rfl ?_
        refine gf_iast 8 dX1_layCell_117 (gqt_ar hG hK) (gql_ar hG hK) rfl hz (by decide) ?_
        refine gf_iinc (1) dX1_layCell_118 rfl rfl (Nat.le_of_ble_eq_true rfl) ?_
        refine gf_goto 26 dX1_layCell_121 rfl ?_
        refine gf_hE ((rw1_set (hp_setI (hp_setI h 7 (r * w + c) (nI r)) 8 (r * w + c) (nI c)) (10 + (r * w + c)) _ jz _).trans (congrArg (rw1 (hp_setI (hp_setI h 7 (r * w + c) (nI r)) 8 (r * w + c) (nI c)) (10 + (r * w + c))) ((congrArg (va_up _ jz) ((lay_e w12 g10 hr hc hz).2 (fun q => zb_0.mp zc80 q.2))).trans (fa_fill_succ (fun way => enc (nbo w g (r * w + c) way)) (hp_i h (10 + (r * w + c))) jz)))) ?_
        exact gf_lw (ih (jz + 1) (by omega)) ⟨rfl, rfl, rfl, rfl, lvE (nI_1 jz), trivial⟩
      · refine gf_iconst (1) dX1_layCell_83 rfl ?_
        refine gf_goto 88 dX1_layCell_84 rfl ?_
        refine gf_istore dX1_layCell_88 (Nat.le_of_ble_eq_true rfl) ?_
        refine gf_aload_n 0 dX1_layCell_90 rfl rfl ?_
        refine gf_getR flX1_36 rfl dX1_layCell_91 (gt_1 hG) (gp_1_10 hG) ?_
        refine gf_iload_n 3 dX1_layCell_94 rfl rfl ?_
        refine gf_rald 120 dX1_layCell_95 (gt_9 hG) (by decide) (by decide) (gl_9 hG) rfl hK (by decide) (gq_ar hG hK) ?_
        refine gf_iload dX1_layCell_96 rfl ?_
        refine gf_iload dX1_layCell_98 rfl ?_
        refine gf_if_eq 116 dX1_layCell_100 rfl (fun q => absurd q (by decide)) (fun _ => ?_)
        refine gf_iload dX1_layCell_103 rfl ?_
        refine gf_aload_n 0 dX1_layCell_105 rfl rfl ?_
        refine gf_getI flX1_57 rfl dX1_layCell_106 (gt_1 hG) ?_
        rw [lc_at h _ (by decide), hw]
        refine gf_imul dX1_layCell_109 ?_
        refine gf_iload dX1_layCell_110 rfl ?_
        refine gf_iadd dX1_layCell_112 ?_
        refine gf_goto 117 dX1_layCell_113 rfl ?_
        refine gf_iast 8 dX1_layCell_117 (gqt_ar hG hK) (gql_ar hG hK) rfl hz (by decide) ?_
        refine gf_iinc (1) dX1_layCell_118 rfl rfl (Nat.le_of_ble_eq_true rfl) ?_
        refine gf_goto 26 dX1_layCell_121 rfl ?_
        refine gf_hE ((rw1_set (hp_setI (hp_setI h 7 (r * w + c) (nI r)) 8 (r * w + c) (nI c)) (10 + (r * w + c)) _ jz _).trans (congrArg (rw1 (hp_setI (hp_setI h 7 (r * w + c) (nI r)) 8 (r * w + c) (nI c)) (10 + (r * w + c))) ((congrArg (va_up _ jz) ((lay_e w12 g10 hr hc hz).1 ⟨zb_1.mp zc65, zb_1.mp zc80⟩)).trans (fa_fill_succ (fun way => enc (nbo w g (r * w + c) way)) (hp_i h (10 + (r * w + c))) jz)))) ?_
        exact gf_lw (ih (jz + 1) (by omega)) ⟨rfl, rfl, rfl, rfl, lvE (nI_1 jz), trivial⟩
theorem e_X1_layCell (E : gE) {d : Nat} (hd : 1 ≤ d) {w g r c : Nat} (h : hp_T) (hG : gr h) (hw : hp_i h 1 0 = nI w) (hg : hp_i h 1 1 = nI g) (w12 : w < 13) (g10 : g < 11) (hr : r < g) (hc : c < w) (hK : (r * w + c) < 120) : ev E mX1_layCell d [.ref (E.1 + 1), .int (nI r), .int (nI c)] h (none) (lcH w g h r c) := by
  refine ev_of rfl (fun q => absurd q (by decide)) (Nat.le_of_ble_eq_true rfl) ?_
  refine gf_iload_n 1 dX1_layCell_0 rfl rfl ?_
  refine gf_aload_n 0 dX1_layCell_1 rfl rfl ?_
  refine gf_getI flX1_57 rfl dX1_layCell_2 (gt_1 hG) ?_
  refine gf_imul dX1_layCell_5 ?_
  refine gf_iload_n 2 dX1_layCell_6 rfl rfl ?_
  refine gf_iadd dX1_layCell_7 ?_
  rw [show nI r * hp_i h 1 0 + nI c = nI (r * w + c) from by rw [hw, pk_mul, nI_add]]
  refine gf_istore_n 3 dX1_layCell_8 rfl (Nat.le_of_ble_eq_true rfl) ?_
  refine gf_aload_n 0 dX1_layCell_9 rfl rfl ?_
  refine gf_getR flX1_28 rfl dX1_layCell_10 (gt_1 hG) (gp_1_8 hG) ?_
  refine gf_iload_n 3 dX1_layCell_13 rfl rfl ?_
  refine gf_iload_n 1 dX1_layCell_14 rfl rfl ?_
  refine gf_iast 120 dX1_layCell_15 (gt_7 hG) (gl_7 hG) rfl hK (by decide) ?_
  refine gf_aload_n 0 dX1_layCell_16 rfl rfl ?_
  refine gf_getR flX1_31 rfl dX1_layCell_17 (gt_1 hG) (gp_1_9 hG) ?_
  refine gf_iload_n 3 dX1_layCell_20 rfl rfl ?_
  refine gf_iload_n 2 dX1_layCell_21 rfl rfl ?_
  refine gf_iast 120 dX1_layCell_22 (gt_8 hG) (gl_8 hG) rfl hK (by decide) ?_
  refine gf_iconst (0) dX1_layCell_23 rfl ?_
  refine gf_istore dX1_layCell_24 (Nat.le_of_ble_eq_true rfl) ?_
  refine gf_hE (h1 := (rw1 (hp_setI (hp_setI h 7 (r * w + c) (nI r)) 8 (r * w + c) (nI c)) (10 + (r * w + c)) (fa_fill (fun way => enc (nbo w g (r * w + c) way)) (hp_i h (10 + (r * w + c))) (0)))) ?_ ?_
  · rw [fa_fill_0]
    have e9 : hp_i (hp_setI (hp_setI h 7 (r * w + c) (nI r)) 8 (r * w + c) (nI c)) (10 + (r * w + c)) = hp_i h (10 + (r * w + c)) := by
      show up2 (up2 (hp_i h) 7 _ _) 8 _ _ (10 + (r * w + c)) = _
      rw [hp_upne (show 10 + (r * w + c) ≠ 8 by omega), hp_upne (show 10 + (r * w + c) ≠ 7 by omega)]
    rw [← e9, rw1_id]
  · exact gf_lw (l_X1_layCell E hd h hG hw hg w12 g10 hr hc hK 8 0 (by omega)) ⟨rfl, rfl, rfl, rfl, rfl, trivial⟩
