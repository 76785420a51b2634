/-! ===== City.lay over the cells of the class alone ===== -/
def grC (h : hp_T) : Prop := 247 ≤ hp_n h ∧ (∀ (a : Nat) (q : Nat × Nat), a < 247 → gr_tl[a]? = some q → hp_tag h a = q.1 ∧ hp_len h a = q.2) ∧ ∀ (i : Nat) (q : Nat × Nat × Nat), gr_rl[i]? = some q → q.1 < 247 → hp_r h q.1 q.2.1 = some q.2.2
theorem gtc_1 {h : hp_T} (g : grC h) : hp_tag h 1 = 1 := (g.2.1 1 (1, 0) (by decide) rfl).1
theorem gtc_2 {h : hp_T} (g : grC h) : hp_tag h 2 = 16 := (g.2.1 2 (16, 120) (by decide) rfl).1
theorem gtc_6 {h : hp_T} (g : grC h) : hp_tag h 6 = 16 := (g.2.1 6 (16, 120) (by decide) rfl).1
theorem gtc_7 {h : hp_T} (g : grC h) : hp_tag h 7 = 14 := (g.2.1 7 (14, 120) (by decide) rfl).1
theorem gtc_8 {h : hp_T} (g : grC h) : hp_tag h 8 = 14 := (g.2.1 8 (14, 120) (by decide) rfl).1
theorem gtc_9 {h : hp_T} (g : grC h) : hp_tag h 9 = 18 := (g.2.1 9 (18, 120) (by decide) rfl).1
theorem gtc_131 {h : hp_T} (g : grC h) : hp_tag h 131 = 16 := (g.2.1 131 (16, 121) (by decide) rfl).1
theorem gtc_132 {h : hp_T} (g : grC h) : hp_tag h 132 = 14 := (g.2.1 132 (14, 121) (by decide) rfl).1
theorem gtc_133 {h : hp_T} (g : grC h) : hp_tag h 133 = 14 := (g.2.1 133 (14, 121) (by decide) rfl).1
theorem gtc_135 {h : hp_T} (g : grC h) : hp_tag h 135 = 18 := (g.2.1 135 (18, 9) (by decide) rfl).1
theorem glc_2 {h : hp_T} (g : grC h) : hp_len h 2 = 120 := (g.2.1 2 (16, 120) (by decide) rfl).2
theorem glc_6 {h : hp_T} (g : grC h) : hp_len h 6 = 120 := (g.2.1 6 (16, 120) (by decide) rfl).2
theorem glc_7 {h : hp_T} (g : grC h) : hp_len h 7 = 120 := (g.2.1 7 (14, 120) (by decide) rfl).2
theorem glc_8 {h : hp_T} (g : grC h) : hp_len h 8 = 120 := (g.2.1 8 (14, 120) (by decide) rfl).2
theorem glc_9 {h : hp_T} (g : grC h) : hp_len h 9 = 120 := (g.2.1 9 (18, 120) (by decide) rfl).2
theorem glc_131 {h : hp_T} (g : grC h) : hp_len h 131 = 121 := (g.2.1 131 (16, 121) (by decide) rfl).2
theorem glc_132 {h : hp_T} (g : grC h) : hp_len h 132 = 121 := (g.2.1 132 (14, 121) (by decide) rfl).2
theorem glc_133 {h : hp_T} (g : grC h) : hp_len h 133 = 121 := (g.2.1 133 (14, 121) (by decide) rfl).2
theorem glc_135 {h : hp_T} (g : grC h) : hp_len h 135 = 9 := (g.2.1 135 (18, 9) (by decide) rfl).2
theorem gpc_1_10 {h : hp_T} (g : grC h) : hp_r h 1 10 = some 9 := g.2.2 127 (1, 10, 9) rfl (by decide)
theorem gpc_1_12 {h : hp_T} (g : grC h) : hp_r h 1 12 = some 131 := g.2.2 129 (1, 12, 131) rfl (by decide)
theorem gpc_1_13 {h : hp_T} (g : grC h) : hp_r h 1 13 = some 132 := g.2.2 130 (1, 13, 132) rfl (by decide)
theorem gpc_1_14 {h : hp_T} (g : grC h) : hp_r h 1 14 = some 133 := g.2.2 131 (1, 14, 133) rfl (by decide)
theorem gpc_1_16 {h : hp_T} (g : grC h) : hp_r h 1 16 = some 135 := g.2.2 142 (1, 16, 135) rfl (by decide)
theorem gpc_1_3 {h : hp_T} (g : grC h) : hp_r h 1 3 = some 2 := g.2.2 0 (1, 3, 2) rfl (by decide)
theorem gpc_1_7 {h : hp_T} (g : grC h) : hp_r h 1 7 = some 6 := g.2.2 4 (1, 7, 6) rfl (by decide)
theorem gpc_1_8 {h : hp_T} (g : grC h) : hp_r h 1 8 = some 7 := g.2.2 5 (1, 8, 7) rfl (by decide)
theorem gpc_1_9 {h : hp_T} (g : grC h) : hp_r h 1 9 = some 8 := g.2.2 6 (1, 9, 8) rfl (by decide)
theorem gq_arC {h : hp_T} (g : grC h) {c : Nat} (hc : c < 120) : hp_r h 9 c = some (10 + c) := g.2.2 (7 + c) (9, c, 10 + c) ((by decide +kernel : ∀ c, c < 120 → gr_rl[7 + c]? = some (9, c, 10 + c)) c hc) (show (9 : Nat) < 247 by decide)
theorem gqt_arC {h : hp_T} (g : grC h) {c : Nat} (hc : c < 120) : hp_tag h (10 + c) = 14 := (g.2.1 (10 + c) (14, 8) (by omega) ((by decide +kernel : ∀ c, c < 120 → gr_tl[10 + c]? = some (14, 8)) c hc)).1
theorem gql_arC {h : hp_T} (g : grC h) {c : Nat} (hc : c < 120) : hp_len h (10 + c) = 8 := (g.2.1 (10 + c) (14, 8) (by omega) ((by decide +kernel : ∀ c, c < 120 → gr_tl[10 + c]? = some (14, 8)) c hc)).2
theorem gq_ptC {h : hp_T} (g : grC h) {c : Nat} (hc : c < 9) : hp_r h 135 c = some (136 + c) := g.2.2 (133 + c) (135, c, 136 + c) ((by decide +kernel : ∀ c, c < 9 → gr_rl[133 + c]? = some (135, c, 136 + c)) c hc) (show (135 : Nat) < 247 by decide)
theorem gqt_ptC {h : hp_T} (g : grC h) {c : Nat} (hc : c < 9) : hp_tag h (136 + c) = 14 := (g.2.1 (136 + c) (14, 9) (by omega) ((by decide +kernel : ∀ c, c < 9 → gr_tl[136 + c]? = some (14, 9)) c hc)).1
theorem gql_ptC {h : hp_T} (g : grC h) {c : Nat} (hc : c < 9) : hp_len h (136 + c) = 9 := (g.2.1 (136 + c) (14, 9) (by omega) ((by decide +kernel : ∀ c, c < 9 → gr_tl[136 + c]? = some (14, 9)) c hc)).2
theorem w_grC {s k : Nat} {f : Nat → Nat → Int32} {h : hp_T} (W : wS 247 s k f h) (hd : gr_rl.all (fun q => decide (q.1 < 247 → rF k q.1 q.2.1 = some q.2.2)) = true) : grC h := by
  refine ⟨Nat.le_of_eq W.1.1.symm, fun a q ha hq => W.2.1 a q ha hq, fun i q hq hl => ?_⟩
  rw [W.2.2.1.1]
  exact of_decide_eq_true (List.all_eq_true.mp hd q (List.mem_of_getElem? hq)) hl
theorem l_X1_layCellC (E : gE) {d : Nat} (hd : 1 ≤ d) {w g r c : Nat} (h : hp_T) (hG : grC h) (hw : hp_i h 1 0 = nI w) (hg : hp_i h 1 1 = nI g) (w12 : w < 13) (g10 : g < 11) (hr : r < g) (hc : c < w) (hK : (r * w + c) < 120) : ∀ (kz jz : Nat), jz + kz = 8 → gf E mX1_layCell d 26 [(0, .ref (E.1 + 1)), (1, .int (nI r)), (2, .int (nI c)), (3, .int (nI (r * w + c))), (4, .int (nI (jz)))] [] (rw1 (hp_setI (hp_setI h 7 (r * w + c) (nI r)) 8 (r * w + c) (nI c)) (10 + (r * w + c)) (fa_fill (fun way => enc (nbo w g (r * w + c) way)) (hp_i h (10 + (r * w + c))) (jz))) none (lcH w g h r c) := by
  intro kz
  induction kz with
  | zero =>
    intro jz hj
    have hj : jz = 8 := by omega
    subst hj
    refine gf_iload dX1_layCell_26 rfl ?_
    refine gf_bipush (8) dX1_layCell_28 rfl ?_
    refine gf_icmp_ge 124 dX1_layCell_30 rfl (fun _ => ?_) (fun q => absurd (by decide) q)
    exact gf_vretE dX1_layCell_124 rfl (rfl)
  | succ kz ih =>
    intro jz hj
    have hz : jz < 8 := by omega
    refine gf_iload dX1_layCell_26 rfl ?_
    refine gf_bipush (8) dX1_layCell_28 rfl ?_
    refine gf_icmp_ge 124 dX1_layCell_30 rfl (fun q => absurd q (by rw [show (8 : Int32) = nI 8 from rfl]; exact nI_ge (by omega) (by decide))) (fun _ => ?_)
    refine gf_iload_n 1 dX1_layCell_33 rfl rfl ?_
    refine gf_getsN (k := 0) (by decide) fsX1_77 dX1_layCell_34 ?_
    refine gf_iload dX1_layCell_37 rfl ?_
    refine gf_sald dX1_layCell_39 (by decide) rfl (by show jz < 8; omega) ?_
    refine gf_iadd dX1_layCell_40 ?_
    refine gf_istore dX1_layCell_41 (Nat.le_of_ble_eq_true rfl) ?_
    refine gf_iload_n 2 dX1_layCell_43 rfl rfl ?_
    refine gf_getsN (k := 1) (by decide) fsX1_80 dX1_layCell_44 ?_
    refine gf_iload dX1_layCell_47 rfl ?_
    refine gf_sald dX1_layCell_49 (by decide) rfl (by show jz < 8; omega) ?_
    refine gf_iadd dX1_layCell_50 ?_
    refine gf_istore dX1_layCell_51 (Nat.le_of_ble_eq_true rfl) ?_
    refine gf_iload dX1_layCell_53 rfl ?_
    refine gf_iconst (0) dX1_layCell_55 rfl ?_
    refine gf_aload_n 0 dX1_layCell_56 rfl rfl ?_
    refine gf_getI flX1_61 rfl dX1_layCell_57 (gtc_1 hG) ?_
    rw [lc_at h _ (by decide), hg]
    refine gf_iconst (1) dX1_layCell_60 rfl ?_
    refine gf_isub dX1_layCell_61 ?_
    refine gf_callSN cmX11_within lkX1_83 stX11_within dX1_layCell_62 (d1 := d - 1) (by omega) (e_X11_within E (by omega) _ _ _ _) rfl rfl (Nat.le_of_ble_eq_true rfl) ?_
    refine gf_if_eq 87 dX1_layCell_65 rfl (fun zc65 => ?_) (fun zc65 => ?_)
    · refine gf_iconst (0) dX1_layCell_87 rfl ?_
      refine gf_istore dX1_layCell_88 (Nat.le_of_ble_eq_true rfl) ?_
      refine gf_aload_n 0 dX1_layCell_90 rfl rfl ?_
      refine gf_getR flX1_36 rfl dX1_layCell_91 (gtc_1 hG) (gpc_1_10 hG) ?_
      refine gf_iload_n 3 dX1_layCell_94 rfl rfl ?_
      refine gf_rald 120 dX1_layCell_95 (gtc_9 hG) (by decide) (by decide) (glc_9 hG) rfl hK (by decide) (gq_arC hG hK) ?_
      refine gf_iload dX1_layCell_96 rfl ?_
      refine gf_iload dX1_layCell_98 rfl ?_
      refine gf_if_eq 116 dX1_layCell_100 rfl (fun _ => ?_) (fun q => absurd (rfl) q)
      refine gf_iconst (-1) dX1_layCell_116 rfl ?_
      refine gf_iast 8 dX1_layCell_117 (gqt_arC hG hK) (gql_arC hG hK) rfl hz (by decide) ?_
      refine gf_iinc (1) dX1_layCell_118 rfl rfl (Nat.le_of_ble_eq_true rfl) ?_
      refine gf_goto 26 dX1_layCell_121 rfl ?_
      refine gf_hE ((rw1_set (hp_setI (hp_setI h 7 (r * w + c) (nI r)) 8 (r * w + c) (nI c)) (10 + (r * w + c)) _ jz _).trans (congrArg (rw1 (hp_setI (hp_setI h 7 (r * w + c) (nI r)) 8 (r * w + c) (nI c)) (10 + (r * w + c))) ((congrArg (va_up _ jz) ((lay_e w12 g10 hr hc hz).2 (fun q => zb_0.mp zc65 q.1))).trans (fa_fill_succ (fun way => enc (nbo w g (r * w + c) way)) (hp_i h (10 + (r * w + c))) jz)))) ?_
      exact gf_lw (ih (jz + 1) (by omega)) ⟨rfl, rfl, rfl, rfl, lvE (nI_1 jz), trivial⟩
    · refine gf_iload dX1_layCell_68 rfl ?_
      refine gf_iconst (0) dX1_layCell_70 rfl ?_
      refine gf_aload_n 0 dX1_layCell_71 rfl rfl ?_
      refine gf_getI flX1_57 rfl dX1_layCell_72 (gtc_1 hG) ?_
      rw [lc_at h _ (by decide), hw]
      refine gf_iconst (1) dX1_layCell_75 rfl ?_
      refine gf_isub dX1_layCell_76 ?_
      refine gf_callSN cmX11_within lkX1_83 stX11_within dX1_layCell_77 (d1 := d - 1) (by omega) (e_X11_within E (by omega) _ _ _ _) rfl rfl (Nat.le_of_ble_eq_true rfl) ?_
      refine gf_if_eq 87 dX1_layCell_80 rfl (fun zc80 => ?_) (fun zc80 => ?_)
      · refine gf_iconst (0) dX1_layCell_87 rfl ?_
        refine gf_istore dX1_layCell_88 (Nat.le_of_ble_eq_true rfl) ?_
        refine gf_aload_n 0 dX1_layCell_90 rfl rfl ?_
        refine gf_getR flX1_36 rfl dX1_layCell_91 (gtc_1 hG) (gpc_1_10 hG) ?_
        refine gf_iload_n 3 dX1_layCell_94 rfl rfl ?_
        refine gf_rald 120 dX1_layCell_95 (gtc_9 hG) (by decide) (by decide) (glc_9 hG) rfl hK (by decide) (gq_arC hG hK) ?_
        refine gf_iload dX1_layCell_96 rfl ?_
        refine gf_iload dX1_layCell_98 rfl ?_
        refine gf_if_eq 116 dX1_layCell_100 rfl (fun _ => ?_) (fun q => absurd (rfl) q)
        refine gf_iconst (-1) dX1_layCell_116 rfl ?_
        refine gf_iast 8 dX1_layCell_117 (gqt_arC hG hK) (gql_arC hG hK) rfl hz (by decide) ?_
        refine gf_iinc (1) dX1_layCell_118 rfl rfl (Nat.le_of_ble_eq_true rfl) ?_
        refine gf_goto 26 dX1_layCell_121 rfl ?_
        refine gf_hE ((rw1_set (hp_setI (hp_setI h 7 (r * w + c) (nI r)) 8 (r * w + c) (nI c)) (10 + (r * w + c)) _ jz _).trans (congrArg (rw1 (hp_setI (hp_setI h 7 (r * w + c) (nI r)) 8 (r * w + c) (nI c)) (10 + (r * w + c))) ((congrArg (va_up _ jz) ((lay_e w12 g10 hr hc hz).2 (fun q => zb_0.mp zc80 q.2))).trans (fa_fill_succ (fun way => enc (nbo w g (r * w + c) way)) (hp_i h (10 + (r * w + c))) jz)))) ?_
        exact gf_lw (ih (jz + 1) (by omega)) ⟨rfl, rfl, rfl, rfl, lvE (nI_1 jz), trivial⟩
      · refine gf_iconst (1) dX1_layCell_83 rfl ?_
        refine gf_goto 88 dX1_layCell_84 rfl ?_
        refine gf_istore dX1_layCell_88 (Nat.le_of_ble_eq_true rfl) ?_
        refine gf_aload_n 0 dX1_layCell_90 rfl rfl ?_
        refine gf_getR flX1_36 rfl dX1_layCell_91 (gtc_1 hG) (gpc_1_10 hG) ?_
        refine gf_iload_n 3 dX1_layCell_94 rfl rfl ?_
        refine gf_rald 120 dX1_layCell_95 (gtc_9 hG) (by decide) (by decide) (glc_9 hG) rfl hK (by decide) (gq_arC hG hK) ?_
        refine gf_iload dX1_layCell_96 rfl ?_
        refine gf_iload dX1_layCell_98 rfl ?_
        refine gf_if_eq 116 dX1_layCell_100 rfl (fun q => absurd q (by decide)) (fun _ => ?_)
        refine gf_iload dX1_layCell_103 rfl ?_
        refine gf_aload_n 0 dX1_layCell_105 rfl rfl ?_
        refine gf_getI flX1_57 rfl dX1_layCell_106 (gtc_1 hG) ?_
        rw [lc_at h _ (by decide), hw]
        refine gf_imul dX1_layCell_109 ?_
        refine gf_iload dX1_layCell_110 rfl ?_
        refine gf_iadd dX1_layCell_112 ?_
        refine gf_goto 117 dX1_layCell_113 rfl ?_
        refine gf_iast 8 dX1_layCell_117 (gqt_arC hG hK) (gql_arC hG hK) rfl hz (by decide) ?_
        refine gf_iinc (1) dX1_layCell_118 rfl rfl (Nat.le_of_ble_eq_true rfl) ?_
        refine gf_goto 26 dX1_layCell_121 rfl ?_
        refine gf_hE ((rw1_set (hp_setI (hp_setI h 7 (r * w + c) (nI r)) 8 (r * w + c) (nI c)) (10 + (r * w + c)) _ jz _).trans (congrArg (rw1 (hp_setI (hp_setI h 7 (r * w + c) (nI r)) 8 (r * w + c) (nI c)) (10 + (r * w + c))) ((congrArg (va_up _ jz) ((lay_e w12 g10 hr hc hz).1 ⟨zb_1.mp zc65, zb_1.mp zc80⟩)).trans (fa_fill_succ (fun way => enc (nbo w g (r * w + c) way)) (hp_i h (10 + (r * w + c))) jz)))) ?_
        exact gf_lw (ih (jz + 1) (by omega)) ⟨rfl, rfl, rfl, rfl, lvE (nI_1 jz), trivial⟩
theorem e_X1_layCellC (E : gE) {d : Nat} (hd : 1 ≤ d) {w g r c : Nat} (h : hp_T) (hG : grC h) (hw : hp_i h 1 0 = nI w) (hg : hp_i h 1 1 = nI g) (w12 : w < 13) (g10 : g < 11) (hr : r < g) (hc : c < w) (hK : (r * w + c) < 120) : ev E mX1_layCell d [.ref (E.1 + 1), .int (nI r), .int (nI c)] h (none) (lcH w g h r c) := by
  refine ev_of rfl (fun q => absurd q (by decide)) (Nat.le_of_ble_eq_true rfl) ?_
  refine gf_iload_n 1 dX1_layCell_0 rfl rfl ?_
  refine gf_aload_n 0 dX1_layCell_1 rfl rfl ?_
  refine gf_getI flX1_57 rfl dX1_layCell_2 (gtc_1 hG) ?_
  refine gf_imul dX1_layCell_5 ?_
  refine gf_iload_n 2 dX1_layCell_6 rfl rfl ?_
  refine gf_iadd dX1_layCell_7 ?_
  rw [show nI r * hp_i h 1 0 + nI c = nI (r * w + c) from by rw [hw, pk_mul, nI_add]]
  refine gf_istore_n 3 dX1_layCell_8 rfl (Nat.le_of_ble_eq_true rfl) ?_
  refine gf_aload_n 0 dX1_layCell_9 rfl rfl ?_
  refine gf_getR flX1_28 rfl dX1_layCell_10 (gtc_1 hG) (gpc_1_8 hG) ?_
  refine gf_iload_n 3 dX1_layCell_13 rfl rfl ?_
  refine gf_iload_n 1 dX1_layCell_14 rfl rfl ?_
  refine gf_iast 120 dX1_layCell_15 (gtc_7 hG) (glc_7 hG) rfl hK (by decide) ?_
  refine gf_aload_n 0 dX1_layCell_16 rfl rfl ?_
  refine gf_getR flX1_31 rfl dX1_layCell_17 (gtc_1 hG) (gpc_1_9 hG) ?_
  refine gf_iload_n 3 dX1_layCell_20 rfl rfl ?_
  refine gf_iload_n 2 dX1_layCell_21 rfl rfl ?_
  refine gf_iast 120 dX1_layCell_22 (gtc_8 hG) (glc_8 hG) rfl hK (by decide) ?_
  refine gf_iconst (0) dX1_layCell_23 rfl ?_
  refine gf_istore dX1_layCell_24 (Nat.le_of_ble_eq_true rfl) ?_
  refine gf_hE (h1 := (rw1 (hp_setI (hp_setI h 7 (r * w + c) (nI r)) 8 (r * w + c) (nI c)) (10 + (r * w + c)) (fa_fill (fun way => enc (nbo w g (r * w + c) way)) (hp_i h (10 + (r * w + c))) (0)))) ?_ ?_
  · rw [fa_fill_0]
    have e9 : hp_i (hp_setI (hp_setI h 7 (r * w + c) (nI r)) 8 (r * w + c) (nI c)) (10 + (r * w + c)) = hp_i h (10 + (r * w + c)) := by
      show up2 (up2 (hp_i h) 7 _ _) 8 _ _ (10 + (r * w + c)) = _
      rw [hp_upne (show 10 + (r * w + c) ≠ 8 by omega), hp_upne (show 10 + (r * w + c) ≠ 7 by omega)]
    rw [← e9, rw1_id]
  · exact gf_lw (l_X1_layCellC E hd h hG hw hg w12 g10 hr hc hK 8 0 (by omega)) ⟨rfl, rfl, rfl, rfl, rfl, trivial⟩
theorem gr_layRC {w g : Nat} {h : hp_T} {r : Nat} (hG : grC h) : ∀ n, grC (layR w g h r n)
  | 0 => hG
  | n + 1 => show grC (lcH w g (layR w g h r n) r n) from (gr_layRC hG n : grC (layR w g h r n))
theorem gr_layAC {w g : Nat} {h : hp_T} (hG : grC h) : ∀ n, grC (layA w g h n)
  | 0 => hG
  | n + 1 => gr_layRC (gr_layAC hG n) w
theorem gr_ptHC {h : hp_T} (hG : grC h) : ∀ n, grC (ptH h n)
  | 0 => hG
  | n + 1 => show grC (rw1 (ptH h n) (136 + n) _) from (gr_ptHC hG n : grC (ptH h n))
theorem l_lay1C (E : gE) {d : Nat} (w g : Nat) (h : hp_T) (hG : grC h) {v : Option Value} {hz : hp_T} (K : gf E mX1_lay d 45 [(0, .ref (E.1 + 1)), (1, .int (nI w)), (2, .int (nI g)), (3, .int (nI ((120 : Nat))))] [] (rw1 (rw1 h 2 (fa_fill (fun _ => 0) (hp_i h 2) ((120 : Nat)))) 6 (fa_fill (fun _ => 0) (hp_i h 6) ((120 : Nat)))) v hz) : ∀ (kz jz : Nat), jz + kz = (120 : Nat) → gf E mX1_lay d 19 [(0, .ref (E.1 + 1)), (1, .int (nI w)), (2, .int (nI g)), (3, .int (nI (jz)))] [] (rw1 (rw1 h 2 (fa_fill (fun _ => 0) (hp_i h 2) (jz))) 6 (fa_fill (fun _ => 0) (hp_i h 6) (jz))) v hz := by
  intro kz
  induction kz with
  | zero =>
    intro jz hj
    have hj : (120 : Nat) = jz := by omega
    subst hj
    refine gf_iload_n 3 dX1_lay_19 rfl rfl ?_
    refine gf_bipush (120) dX1_lay_20 rfl ?_
    refine gf_icmp_ge 45 dX1_lay_22 rfl (fun _ => ?_) (fun q => absurd (by decide) q)
    exact gf_lw K ⟨rfl, rfl, rfl, rfl, trivial⟩
  | succ kz ih =>
    intro jz hj
    refine gf_iload_n 3 dX1_lay_19 rfl rfl ?_
    refine gf_bipush (120) dX1_lay_20 rfl ?_
    refine gf_icmp_ge 45 dX1_lay_22 rfl (fun q => absurd q (by rw [show (120 : Int32) = nI 120 from rfl]; exact nI_ge (by omega) (by decide))) (fun _ => ?_)
    refine gf_aload_n 0 dX1_lay_25 rfl rfl ?_
    refine gf_getR flX1_9 rfl dX1_lay_26 (gtc_1 hG) (gpc_1_3 hG) ?_
    refine gf_iload_n 3 dX1_lay_29 rfl rfl ?_
    refine gf_iconst (0) dX1_lay_30 rfl ?_
    refine gf_zast 120 dX1_lay_31 (gtc_2 hG) (glc_2 hG) rfl (by omega) (by decide) rfl ?_
    refine gf_aload_n 0 dX1_lay_32 rfl rfl ?_
    refine gf_getR flX1_25 rfl dX1_lay_33 (gtc_1 hG) (gpc_1_7 hG) ?_
    refine gf_iload_n 3 dX1_lay_36 rfl rfl ?_
    refine gf_iconst (0) dX1_lay_37 rfl ?_
    refine gf_zast 120 dX1_lay_38 (gtc_6 hG) (glc_6 hG) rfl (by omega) (by decide) rfl ?_
    refine gf_iinc (1) dX1_lay_39 rfl rfl (Nat.le_of_ble_eq_true rfl) ?_
    refine gf_goto 19 dX1_lay_42 rfl ?_
    exact gf_hE (by rw [rw1_set2 h (by decide), rw1_set, fill_up, fill_up]) (gf_lw (ih (jz + 1) (by omega)) ⟨rfl, rfl, rfl, lvE (nI_1 jz), trivial⟩)
theorem l_lay2C (E : gE) {d : Nat} (hd : 2 ≤ d) {w g : Nat} (h : hp_T) (hG : grC h) (hw : hp_i h 1 0 = nI w) (hg : hp_i h 1 1 = nI g) (w12 : w < 13) (g10 : g < 11) (hn : w * g ≤ 120) {r : Nat} (hr : r < g) {v : Option Value} {hz : hp_T} (K : gf E mX1_lay d 80 [(0, .ref (E.1 + 1)), (1, .int (nI w)), (2, .int (nI g)), (3, .int (nI r)), (4, .int (nI (w)))] [] (layR w g h r (w)) v hz) : ∀ (kz jz : Nat), jz + kz = w → gf E mX1_lay d 58 [(0, .ref (E.1 + 1)), (1, .int (nI w)), (2, .int (nI g)), (3, .int (nI r)), (4, .int (nI (jz)))] [] (layR w g h r (jz)) v hz := by
  intro kz
  induction kz with
  | zero =>
    intro jz hj
    have hj : w = jz := by omega
    subst hj
    have hL : grC (layR w g h r w) := gr_layRC hG w
    refine gf_iload dX1_lay_58 rfl ?_
    refine gf_aload_n 0 dX1_lay_60 rfl rfl ?_
    refine gf_getI flX1_57 rfl dX1_lay_61 (gtc_1 hL) ?_
    refine gf_icmp_ge 80 dX1_lay_64 rfl (fun _ => ?_) (fun q => absurd (by rw [layR_lo w g h r (by decide), hw]; exact nI_le (Nat.le_refl _) (by omega)) q)
    exact gf_lw K ⟨rfl, rfl, rfl, rfl, rfl, trivial⟩
  | succ kz ih =>
    intro jz hj
    have hL : grC (layR w g h r jz) := gr_layRC hG jz
    have hK : r * w + jz < 120 := Nat.lt_of_lt_of_le (rc_lt hr (show jz < w by omega)) hn
    refine gf_iload dX1_lay_58 rfl ?_
    refine gf_aload_n 0 dX1_lay_60 rfl rfl ?_
    refine gf_getI flX1_57 rfl dX1_lay_61 (gtc_1 hL) ?_
    refine gf_icmp_ge 80 dX1_lay_64 rfl (fun q => absurd q (by rw [layR_lo w g h r (by decide), hw]; exact nI_ge (by omega) (by omega))) (fun _ => ?_)
    refine gf_aload_n 0 dX1_lay_67 rfl rfl ?_
    refine gf_iload_n 3 dX1_lay_68 rfl rfl ?_
    refine gf_iload dX1_lay_69 rfl ?_
    refine gf_callV cmX1_layCell lkX1_67 imX1_layCell seX1_layCell ⟨rfl, by decide⟩ dX1_lay_71 (d1 := d - 1) (by omega) (gtc_1 hL) (e_X1_layCellC E (by omega) (layR w g h r jz) hL ((layR_lo w g h r (by decide) jz).trans hw) ((layR_lo w g h r (by decide) jz).trans hg) w12 g10 hr (show jz < w by omega) hK) rfl rfl (Nat.le_of_ble_eq_true rfl) ?_
    refine gf_iinc (1) dX1_lay_74 rfl rfl (Nat.le_of_ble_eq_true rfl) ?_
    refine gf_goto 58 dX1_lay_77 rfl ?_
    exact gf_lw (ih (jz + 1) (by omega)) ⟨rfl, rfl, rfl, rfl, lvE (nI_1 jz), trivial⟩
theorem l_lay3C (E : gE) {d : Nat} (hd : 2 ≤ d) {w g : Nat} (h : hp_T) (hG : grC h) (hw : hp_i h 1 0 = nI w) (hg : hp_i h 1 1 = nI g) (w12 : w < 13) (g10 : g < 11) (hn : w * g ≤ 120) {v : Option Value} {hz : hp_T} (K : gf E mX1_lay d 86 [(0, .ref (E.1 + 1)), (1, .int (nI w)), (2, .int (nI g)), (3, .int (nI (g)))] [] (layA w g h g) v hz) : ∀ (kz jz : Nat), jz + kz = g → gf E mX1_lay d 47 [(0, .ref (E.1 + 1)), (1, .int (nI w)), (2, .int (nI g)), (3, .int (nI (jz)))] [] (layA w g h jz) v hz := by
  intro kz
  induction kz with
  | zero =>
    intro jz hj
    have hj : g = jz := by omega
    subst hj
    have hL : grC (layA w g h g) := gr_layAC hG g
    refine gf_iload_n 3 dX1_lay_47 rfl rfl ?_
    refine gf_aload_n 0 dX1_lay_48 rfl rfl ?_
    refine gf_getI flX1_61 rfl dX1_lay_49 (gtc_1 hL) ?_
    refine gf_icmp_ge 86 dX1_lay_52 rfl (fun _ => ?_) (fun q => absurd (by rw [layA_lo w g h (by decide), hg]; exact nI_le (Nat.le_refl _) (by omega)) q)
    exact K
  | succ kz ih =>
    intro jz hj
    have hL : grC (layA w g h jz) := gr_layAC hG jz
    have hr : jz < g := by omega
    refine gf_iload_n 3 dX1_lay_47 rfl rfl ?_
    refine gf_aload_n 0 dX1_lay_48 rfl rfl ?_
    refine gf_getI flX1_61 rfl dX1_lay_49 (gtc_1 hL) ?_
    refine gf_icmp_ge 86 dX1_lay_52 rfl (fun q => absurd q (by rw [layA_lo w g h (by decide), hg]; exact nI_ge (by omega) (by omega))) (fun _ => ?_)
    refine gf_iconst (0) dX1_lay_55 rfl ?_
    refine gf_istore dX1_lay_56 (Nat.le_of_ble_eq_true rfl) ?_
    refine l_lay2C E hd (layA w g h jz) hL ((layA_lo w g h (by decide) jz).trans hw) ((layA_lo w g h (by decide) jz).trans hg) w12 g10 hn hr ?_ w 0 (by omega)
    refine gf_iinc (1) dX1_lay_80 rfl rfl (Nat.le_of_ble_eq_true rfl) ?_
    refine gf_goto 47 dX1_lay_83 rfl ?_
    exact gf_lw (ih (jz + 1) (by omega)) ⟨rfl, rfl, rfl, lvE (nI_1 jz), trivial⟩
theorem l_lay4C (E : gE) {d : Nat} (w g : Nat) (h : hp_T) (hG : grC h) {v : Option Value} {hz : hp_T} (K : gf E mX1_lay d 121 [(0, .ref (E.1 + 1)), (1, .int (nI w)), (2, .int (nI g)), (3, .int (nI ((121 : Nat))))] [] (rw1 (rw1 (rw1 h 131 (fa_fill (fun _ => 0) (hp_i h 131) ((121 : Nat)))) 132 (fa_fill (fun _ => 0) (hp_i h 132) ((121 : Nat)))) 133 (fa_fill (fun _ => 0) (hp_i h 133) ((121 : Nat)))) v hz) : ∀ (kz jz : Nat), jz + kz = (121 : Nat) → gf E mX1_lay d 88 [(0, .ref (E.1 + 1)), (1, .int (nI w)), (2, .int (nI g)), (3, .int (nI (jz)))] [] (rw1 (rw1 (rw1 h 131 (fa_fill (fun _ => 0) (hp_i h 131) (jz))) 132 (fa_fill (fun _ => 0) (hp_i h 132) (jz))) 133 (fa_fill (fun _ => 0) (hp_i h 133) (jz))) v hz := by
  intro kz
  induction kz with
  | zero =>
    intro jz hj
    have hj : (121 : Nat) = jz := by omega
    subst hj
    refine gf_iload_n 3 dX1_lay_88 rfl rfl ?_
    refine gf_bipush (120) dX1_lay_89 rfl ?_
    refine gf_icmp_gt 121 dX1_lay_91 rfl (fun _ => ?_) (fun q => absurd (by decide) q)
    exact gf_lw K ⟨rfl, rfl, rfl, rfl, trivial⟩
  | succ kz ih =>
    intro jz hj
    refine gf_iload_n 3 dX1_lay_88 rfl rfl ?_
    refine gf_bipush (120) dX1_lay_89 rfl ?_
    refine gf_icmp_gt 121 dX1_lay_91 rfl (fun q => absurd q (by rw [show (120 : Int32) = nI 120 from rfl]; exact nI_nlt (by omega) (by omega))) (fun _ => ?_)
    refine gf_aload_n 0 dX1_lay_94 rfl rfl ?_
    refine gf_getR flX1_42 rfl dX1_lay_95 (gtc_1 hG) (gpc_1_12 hG) ?_
    refine gf_iload_n 3 dX1_lay_98 rfl rfl ?_
    refine gf_iconst (0) dX1_lay_99 rfl ?_
    refine gf_zast 121 dX1_lay_100 (gtc_131 hG) (glc_131 hG) rfl (by omega) (by decide) rfl ?_
    refine gf_aload_n 0 dX1_lay_101 rfl rfl ?_
    refine gf_getR flX1_45 rfl dX1_lay_102 (gtc_1 hG) (gpc_1_13 hG) ?_
    refine gf_iload_n 3 dX1_lay_105 rfl rfl ?_
    refine gf_iconst (0) dX1_lay_106 rfl ?_
    refine gf_iast 121 dX1_lay_107 (gtc_132 hG) (glc_132 hG) rfl (by omega) (by decide) ?_
    refine gf_aload_n 0 dX1_lay_108 rfl rfl ?_
    refine gf_getR flX1_48 rfl dX1_lay_109 (gtc_1 hG) (gpc_1_14 hG) ?_
    refine gf_iload_n 3 dX1_lay_112 rfl rfl ?_
    refine gf_iconst (0) dX1_lay_113 rfl ?_
    refine gf_iast 121 dX1_lay_114 (gtc_133 hG) (glc_133 hG) rfl (by omega) (by decide) ?_
    refine gf_iinc (1) dX1_lay_115 rfl rfl (Nat.le_of_ble_eq_true rfl) ?_
    refine gf_goto 88 dX1_lay_118 rfl ?_
    exact gf_hE (by rw [rw1_set3 h (by decide) (by decide), rw1_set2 _ (by decide), rw1_set, fill_up, fill_up, fill_up]) (gf_lw (ih (jz + 1) (by omega)) ⟨rfl, rfl, rfl, lvE (nI_1 jz), trivial⟩)
theorem l_lay5C (E : gE) {d : Nat} (hd : 1 ≤ d) (w g : Nat) (h : hp_T) (hG : grC h) {v : Option Value} {hz : hp_T} (K : gf E mX1_lay d 145 [(0, .ref (E.1 + 1)), (1, .int (nI w)), (2, .int (nI g)), (3, .int (nI ((9 : Nat))))] [] (ptH h ((9 : Nat))) v hz) : ∀ (kz jz : Nat), jz + kz = (9 : Nat) → gf E mX1_lay d 123 [(0, .ref (E.1 + 1)), (1, .int (nI w)), (2, .int (nI g)), (3, .int (nI (jz)))] [] (ptH h (jz)) v hz := by
  intro kz
  induction kz with
  | zero =>
    intro jz hj
    have hj : (9 : Nat) = jz := by omega
    subst hj
    have hL : grC (ptH h 9) := gr_ptHC hG 9
    refine gf_iload_n 3 dX1_lay_123 rfl rfl ?_
    refine gf_bipush (9) dX1_lay_124 rfl ?_
    refine gf_icmp_ge 145 dX1_lay_126 rfl (fun _ => ?_) (fun q => absurd (by decide) q)
    exact gf_lw K ⟨rfl, rfl, rfl, rfl, trivial⟩
  | succ kz ih =>
    intro jz hj
    have hL : grC (ptH h jz) := gr_ptHC hG jz
    have h9 : jz < 9 := by omega
    refine gf_iload_n 3 dX1_lay_123 rfl rfl ?_
    refine gf_bipush (9) dX1_lay_124 rfl ?_
    refine gf_icmp_ge 145 dX1_lay_126 rfl (fun q => absurd q (by rw [show (9 : Int32) = nI 9 from rfl]; exact nI_ge (by omega) (by decide))) (fun _ => ?_)
    refine gf_aload_n 0 dX1_lay_129 rfl rfl ?_
    refine gf_getR flX1_54 rfl dX1_lay_130 (gtc_1 hL) (gpc_1_16 hL) ?_
    refine gf_iload_n 3 dX1_lay_133 rfl rfl ?_
    refine gf_rald 9 dX1_lay_134 (gtc_135 hL) (by decide) (by decide) (glc_135 hL) rfl h9 (by decide) (gq_ptC hL h9) ?_
    refine gf_iconst (0) dX1_lay_135 rfl ?_
    refine gf_callS cmJ7_fill_53178 lkX1_71 stJ7_fill_53178 dX1_lay_136 (d1 := d - 1) (by omega) (e_fill E (by omega) (m := 136 + jz) (N := 9) 0 (ptH h jz) ⟨gqt_ptC hL h9, gql_ptC hL h9⟩ (by decide)) rfl rfl (Nat.le_of_ble_eq_true rfl) ?_
    refine gf_iinc (1) dX1_lay_139 rfl rfl (Nat.le_of_ble_eq_true rfl) ?_
    refine gf_goto 123 dX1_lay_142 rfl ?_
    exact gf_lw (ih (jz + 1) (by omega)) ⟨rfl, rfl, rfl, lvE (nI_1 jz), trivial⟩
theorem e_X1_layC (E : gE) {d : Nat} (hd : 2 ≤ d) {w g : Nat} (h : hp_T) (hG : grC h) (w12 : w < 13) (g10 : g < 11) (hn : w * g ≤ 120) : ev E mX1_lay d [.ref (E.1 + 1), .int (nI w), .int (nI g)] h (none) (layH w g h) := by
  refine ev_of rfl (fun q => absurd q (by decide)) (Nat.le_of_ble_eq_true rfl) ?_
  refine gf_aload_n 0 dX1_lay_0 rfl rfl ?_
  refine gf_iload_n 1 dX1_lay_1 rfl rfl ?_
  refine gf_putI flX1_57 rfl rfl dX1_lay_2 (gtc_1 hG) ⟨rfl, rfl⟩ ?_
  refine gf_aload_n 0 dX1_lay_5 rfl rfl ?_
  refine gf_iload_n 2 dX1_lay_6 rfl rfl ?_
  refine gf_putI flX1_61 rfl rfl dX1_lay_7 (gtc_1 hG) ⟨rfl, rfl⟩ ?_
  refine gf_aload_n 0 dX1_lay_10 rfl rfl ?_
  refine gf_iload_n 1 dX1_lay_11 rfl rfl ?_
  refine gf_iload_n 2 dX1_lay_12 rfl rfl ?_
  refine gf_imul dX1_lay_13 ?_
  rw [pk_mul]
  refine gf_putI flX1_64 rfl rfl dX1_lay_14 (gtc_1 hG) ⟨rfl, rfl⟩ ?_
  refine gf_iconst (0) dX1_lay_17 rfl ?_
  refine gf_istore_n 3 dX1_lay_18 rfl (Nat.le_of_ble_eq_true rfl) ?_
  refine gf_hE (lay1_id (lay0 w g h)).symm ?_
  refine l_lay1C E w g (lay0 w g h) hG ?_ 120 0 (by omega)
  have hG1 : grC (lay1 (lay0 w g h)) := hG
  have hw : hp_i (lay1 (lay0 w g h)) 1 0 = nI w := rfl
  have hg : hp_i (lay1 (lay0 w g h)) 1 1 = nI g := rfl
  refine gf_iconst (0) dX1_lay_45 rfl ?_
  refine gf_istore_n 3 dX1_lay_46 rfl (Nat.le_of_ble_eq_true rfl) ?_
  refine l_lay3C E hd (lay1 (lay0 w g h)) hG1 hw hg w12 g10 hn ?_ g 0 (by omega)
  have hG3 : grC (layA w g (lay1 (lay0 w g h)) g) := gr_layAC hG1 g
  refine gf_iconst (0) dX1_lay_86 rfl ?_
  refine gf_istore_n 3 dX1_lay_87 rfl (Nat.le_of_ble_eq_true rfl) ?_
  refine gf_hE (lay4_id (layA w g (lay1 (lay0 w g h)) g)).symm ?_
  refine l_lay4C E w g (layA w g (lay1 (lay0 w g h)) g) hG3 ?_ 121 0 (by omega)
  have hG4 : grC (lay4 (layA w g (lay1 (lay0 w g h)) g)) := hG3
  refine gf_iconst (0) dX1_lay_121 rfl ?_
  refine gf_istore_n 3 dX1_lay_122 rfl (Nat.le_of_ble_eq_true rfl) ?_
  refine l_lay5C E (by omega) w g (lay4 (layA w g (lay1 (lay0 w g h)) g)) hG4 ?_ 9 0 (by omega)
  exact gf_vretE dX1_lay_145 rfl (rfl)
