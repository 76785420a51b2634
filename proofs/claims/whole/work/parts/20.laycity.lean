/-! ===== the class: City.lay ===== -/
theorem lcH_lo (w g : Nat) (h : hp_T) (r c : Nat) {x k : Nat} (hx : x < 7) : hp_i (lcH w g h r c) x k = hp_i h x k := lc_at h _ hx
def layR (w g : Nat) (h : hp_T) (r : Nat) : Nat → hp_T
  | 0 => h
  | c + 1 => lcH w g (layR w g h r c) r c
def layA (w g : Nat) (h : hp_T) : Nat → hp_T
  | 0 => h
  | r + 1 => layR w g (layA w g h r) r w
theorem layR_lo (w g : Nat) (h : hp_T) (r : Nat) {x k : Nat} (hx : x < 7) : ∀ n, hp_i (layR w g h r n) x k = hp_i h x k
  | 0 => rfl
  | n + 1 => (lcH_lo w g _ r n hx).trans (layR_lo w g h r hx n)
theorem layA_lo (w g : Nat) (h : hp_T) {x k : Nat} (hx : x < 7) : ∀ n, hp_i (layA w g h n) x k = hp_i h x k
  | 0 => rfl
  | n + 1 => (layR_lo w g _ n hx w).trans (layA_lo w g h hx n)
theorem gr_layR {w g : Nat} {h : hp_T} {r : Nat} (hG : gr h) : ∀ n, gr (layR w g h r n)
  | 0 => hG
  | n + 1 => show gr (lcH w g (layR w g h r n) r n) from (gr_layR hG n : gr (layR w g h r n))
theorem gr_layA {w g : Nat} {h : hp_T} (hG : gr h) : ∀ n, gr (layA w g h n)
  | 0 => hG
  | n + 1 => gr_layR (gr_layA hG n) w
theorem rw1_set3 (h : hp_T) {a b e : Nat} (hab : a ≠ b) (hae : a ≠ e) (f g u : Nat → Int32) (k : Nat) (v : Int32) : hp_setI (rw1 (rw1 (rw1 h a f) b g) e u) a k v = rw1 (rw1 (rw1 h a (va_up f k v)) b g) e u := by
  unfold hp_setI rw1
  refine congrArg (fun z => (h.1, h.2.1, h.2.2.1, h.2.2.2.1, z, h.2.2.2.2.2.1, h.2.2.2.2.2.2)) ?_
  funext x i
  by_cases q : x = a
  · subst q; simp [up2, va_up, hab, hae]
  · simp [up2, q]
def ptH (h : hp_T) : Nat → hp_T
  | 0 => h
  | n + 1 => rw1 (ptH h n) (136 + n) (fa_fill (fun _ => 0) (hp_i (ptH h n) (136 + n)) 9)
theorem gr_ptH {h : hp_T} (hG : gr h) : ∀ n, gr (ptH h n)
  | 0 => hG
  | n + 1 => show gr (rw1 (ptH h n) (136 + n) _) from (gr_ptH hG n : gr (ptH h n))
theorem l_lay1 (E : gE) {d : Nat} (w g : Nat) (h : hp_T) (hG : gr h) {v : Option Value} {hz : hp_T} (K : gf E mX1_lay d 45 [(0, .ref (E.1 + 1)), (1, .int (nI w)), (2, .int (nI g)), (3, .int (nI ((120 : Nat))))] [] (rw1 (rw1 h 2 (fa_fill (fun _ => 0) (hp_i h 2) ((120 : Nat)))) 6 (fa_fill (fun _ => 0) (hp_i h 6) ((120 : Nat)))) v hz) : ∀ (kz jz : Nat), jz + kz = (120 : Nat) → gf E mX1_lay d 19 [(0, .ref (E.1 + 1)), (1, .int (nI w)), (2, .int (nI g)), (3, .int (nI (jz)))] [] (rw1 (rw1 h 2 (fa_fill (fun _ => 0) (hp_i h 2) (jz))) 6 (fa_fill (fun _ => 0) (hp_i h 6) (jz))) v hz := by
  intro kz
  induction kz with
  | zero =>
    intro jz hj
    have hj : (120 : Nat) = jz := by omega
    subst hj
    refine gf_iload_n 3 dX1_lay_19 rfl rfl ?_
    refine gf_bipush (120) dX1_lay_20 rfl ?_
    refine gf_icmp_ge 45 dX1_lay_22 rfl (fun _ => ?_) (fun q => absurd (by decide) q)
    exact gf_lw K ⟨rfl, rfl, rfl, rfl, trivial⟩
  | succ kz ih =>
    intro jz hj
    refine gf_iload_n 3 dX1_lay_19 rfl rfl ?_
    refine gf_bipush (120) dX1_lay_20 rfl ?_
    refine gf_icmp_ge 45 dX1_lay_22 rfl (fun q => absurd q (by rw [show (120 : Int32) = nI 120 from rfl]; exact nI_ge (by omega) (by decide))) (fun _ => ?_)
    refine gf_aload_n 0 dX1_lay_25 rfl rfl ?_
    refine gf_getR flX1_9 rfl dX1_lay_26 (gt_1 hG) (gp_1_3 hG) ?_
    refine gf_iload_n 3 dX1_lay_29 rfl rfl ?_
    refine gf_iconst (0) dX1_lay_30 rfl ?_
    refine gf_zast 120 dX1_lay_31 (gt_2 hG) (gl_2 hG) rfl (by omega) (by decide) rfl ?_
    refine gf_aload_n 0 dX1_lay_32 rfl rfl ?_
    refine gf_getR flX1_25 rfl dX1_lay_33 (gt_1 hG) (gp_1_7 hG) ?_
    refine gf_iload_n 3 dX1_lay_36 rfl rfl ?_
    refine gf_iconst (0) dX1_lay_37 rfl ?_
    refine gf_zast 120 dX1_lay_38 (gt_6 hG) (gl_6 hG) rfl (by omega) (by decide) rfl ?_
    refine gf_iinc (1) dX1_lay_39 rfl rfl (Nat.le_of_ble_eq_true rfl) ?_
    refine gf_goto 19 dX1_lay_42 rfl ?_
    exact gf_hE (by rw [rw1_set2 h (by decide), rw1_set, fill_up, fill_up]) (gf_lw (ih (jz + 1) (by omega)) ⟨rfl, rfl, rfl, lvE (nI_1 jz), trivial⟩)
theorem l_lay2 (E : gE) {d : Nat} (hd : 2 ≤ d) {w g : Nat} (h : hp_T) (hG : gr h) (hw : hp_i h 1 0 = nI w) (hg : hp_i h 1 1 = nI g) (w12 : w < 13) (g10 : g < 11) (hn : w * g ≤ 120) {r : Nat} (hr : r < g) {v : Option Value} {hz : hp_T} (K : gf E mX1_lay d 80 [(0, .ref (E.1 + 1)), (1, .int (nI w)), (2, .int (nI g)), (3, .int (nI r)), (4, .int (nI (w)))] [] (layR w g h r (w)) v hz) : ∀ (kz jz : Nat), jz + kz = w → gf E mX1_lay d 58 [(0, .ref (E.1 + 1)), (1, .int (nI w)), (2, .int (nI g)), (3, .int (nI r)), (4, .int (nI (jz)))] [] (layR w g h r (jz)) v hz := by
  intro kz
  induction kz with
  | zero =>
    intro jz hj
    have hj : w = jz := by omega
    subst hj
    have hL : gr (layR w g h r w) := gr_layR hG w
    refine gf_iload dX1_lay_58 rfl ?_
    refine gf_aload_n 0 dX1_lay_60 rfl rfl ?_
    refine gf_getI flX1_57 rfl dX1_lay_61 (gt_1 hL) ?_
    refine gf_icmp_ge 80 dX1_lay_64 rfl (fun _ => ?_) (fun q => absurd (by rw [layR_lo w g h r (by decide), hw]; exact nI_le (Nat.le_refl _) (by omega)) q)
    exact gf_lw K ⟨rfl, rfl, rfl, rfl, rfl, trivial⟩
  | succ kz ih =>
    intro jz hj
    have hL : gr (layR w g h r jz) := gr_layR hG jz
    have hK : r * w + jz < 120 := Nat.lt_of_lt_of_le (rc_lt hr (show jz < w by omega)) hn
    refine gf_iload dX1_lay_58 rfl ?_
    refine gf_aload_n 0 dX1_lay_60 rfl rfl ?_
    refine gf_getI flX1_57 rfl dX1_lay_61 (gt_1 hL) ?_
    refine gf_icmp_ge 80 dX1_lay_64 rfl (fun q => absurd q (by rw [layR_lo w g h r (by decide), hw]; exact nI_ge (by omega) (by omega))) (fun _ => ?_)
    refine gf_aload_n 0 dX1_lay_67 rfl rfl ?_
    refine gf_iload_n 3 dX1_lay_68 rfl rfl ?_
    refine gf_iload dX1_lay_69 rfl ?_
    refine gf_callV cmX1_layCell lkX1_67 imX1_layCell seX1_layCell ⟨rfl, by decide⟩ dX1_lay_71 (d1 := d - 1) (by omega) (gt_1 hL) (e_X1_layCell E (by omega) (layR w g h r jz) hL ((layR_lo w g h r (by decide) jz).trans hw) ((layR_lo w g h r (by decide) jz).trans hg) w12 g10 hr (show jz < w by omega) hK) rfl rfl (Nat.le_of_ble_eq_true rfl) ?_
    refine gf_iinc (1) dX1_lay_74 rfl rfl (Nat.le_of_ble_eq_true rfl) ?_
    refine gf_goto 58 dX1_lay_77 rfl ?_
    exact gf_lw (ih (jz + 1) (by omega)) ⟨rfl, rfl, rfl, rfl, lvE (nI_1 jz), trivial⟩
theorem l_lay3 (E : gE) {d : Nat} (hd : 2 ≤ d) {w g : Nat} (h : hp_T) (hG : gr h) (hw : hp_i h 1 0 = nI w) (hg : hp_i h 1 1 = nI g) (w12 : w < 13) (g10 : g < 11) (hn : w * g ≤ 120) {v : Option Value} {hz : hp_T} (K : gf E mX1_lay d 86 [(0, .ref (E.1 + 1)), (1, .int (nI w)), (2, .int (nI g)), (3, .int (nI (g)))] [] (layA w g h g) v hz) : ∀ (kz jz : Nat), jz + kz = g → gf E mX1_lay d 47 [(0, .ref (E.1 + 1)), (1, .int (nI w)), (2, .int (nI g)), (3, .int (nI (jz)))] [] (layA w g h jz) v hz := by
  intro kz
  induction kz with
  | zero =>
    intro jz hj
    have hj : g = jz := by omega
    subst hj
    have hL : gr (layA w g h g) := gr_layA hG g
    refine gf_iload_n 3 dX1_lay_47 rfl rfl ?_
    refine gf_aload_n 0 dX1_lay_48 rfl rfl ?_
    refine gf_getI flX1_61 rfl dX1_lay_49 (gt_1 hL) ?_
    refine gf_icmp_ge 86 dX1_lay_52 rfl (fun _ => ?_) (fun q => absurd (by rw [layA_lo w g h (by decide), hg]; exact nI_le (Nat.le_refl _) (by omega)) q)
    exact K
  | succ kz ih =>
    intro jz hj
    have hL : gr (layA w g h jz) := gr_layA hG jz
    have hr : jz < g := by omega
    refine gf_iload_n 3 dX1_lay_47 rfl rfl ?_
    refine gf_aload_n 0 dX1_lay_48 rfl rfl ?_
    refine gf_getI flX1_61 rfl dX1_lay_49 (gt_1 hL) ?_
    refine gf_icmp_ge 86 dX1_lay_52 rfl (fun q => absurd q (by rw [layA_lo w g h (by decide), hg]; exact nI_ge (by omega) (by omega))) (fun _ => ?_)
    refine gf_iconst (0) dX1_lay_55 rfl ?_
    refine gf_istore dX1_lay_56 (Nat.le_of_ble_eq_true rfl) ?_
    refine l_lay2 E hd (layA w g h jz) hL ((layA_lo w g h (by decide) jz).trans hw) ((layA_lo w g h (by decide) jz).trans hg) w12 g10 hn hr ?_ w 0 (by omega)
    refine gf_iinc (1) dX1_lay_80 rfl rfl (Nat.le_of_ble_eq_true rfl) ?_
    refine gf_goto 47 dX1_lay_83 rfl ?_
    exact gf_lw (ih (jz + 1) (by omega)) ⟨rfl, rfl, rfl, lvE (nI_1 jz), trivial⟩
theorem l_lay4 (E : gE) {d : Nat} (w g : Nat) (h : hp_T) (hG : gr h) {v : Option Value} {hz : hp_T} (K : gf E mX1_lay d 121 [(0, .ref (E.1 + 1)), (1, .int (nI w)), (2, .int (nI g)), (3, .int (nI ((121 : Nat))))] [] (rw1 (rw1 (rw1 h 131 (fa_fill (fun _ => 0) (hp_i h 131) ((121 : Nat)))) 132 (fa_fill (fun _ => 0) (hp_i h 132) ((121 : Nat)))) 133 (fa_fill (fun _ => 0) (hp_i h 133) ((121 : Nat)))) v hz) : ∀ (kz jz : Nat), jz + kz = (121 : Nat) → gf E mX1_lay d 88 [(0, .ref (E.1 + 1)), (1, .int (nI w)), (2, .int (nI g)), (3, .int (nI (jz)))] [] (rw1 (rw1 (rw1 h 131 (fa_fill (fun _ => 0) (hp_i h 131) (jz))) 132 (fa_fill (fun _ => 0) (hp_i h 132) (jz))) 133 (fa_fill (fun _ => 0) (hp_i h 133) (jz))) v hz := by
  intro kz
  induction kz with
  | zero =>
    intro jz hj
    have hj : (121 : Nat) = jz := by omega
    subst hj
    refine gf_iload_n 3 dX1_lay_88 rfl rfl ?_
    refine gf_bipush (120) dX1_lay_89 rfl ?_
    refine gf_icmp_gt 121 dX1_lay_91 rfl (fun _ => ?_) (fun q => absurd (by decide) q)
    exact gf_lw K ⟨rfl, rfl, rfl, rfl, trivial⟩
  | succ kz ih =>
    intro jz hj
    refine gf_iload_n 3 dX1_lay_88 rfl rfl ?_
    refine gf_bipush (120) dX1_lay_89 rfl ?_
    refine gf_icmp_gt 121 dX1_lay_91 rfl (fun q => absurd q (by rw [show (120 : Int32) = nI 120 from rfl]; exact nI_nlt (by omega) (by omega))) (fun _ => ?_)
    refine gf_aload_n 0 dX1_lay_94 rfl rfl ?_
    refine gf_getR flX1_42 rfl dX1_lay_95 (gt_1 hG) (gp_1_12 hG) ?_
    refine gf_iload_n 3 dX1_lay_98 rfl rfl ?_
    refine gf_iconst (0) dX1_lay_99 rfl ?_
    refine gf_zast 121 dX1_lay_100 (gt_131 hG) (gl_131 hG) rfl (by omega) (by decide) rfl ?_
    refine gf_aload_n 0 dX1_lay_101 rfl rfl ?_
    refine gf_getR flX1_45 rfl dX1_lay_102 (gt_1 hG) (gp_1_13 hG) ?_
    refine gf_iload_n 3 dX1_lay_105 rfl rfl ?_
    refine gf_iconst (0) dX1_lay_106 rfl ?_
    refine gf_iast 121 dX1_lay_107 (gt_132 hG) (gl_132 hG) rfl (by omega) (by decide) ?_
    refine gf_aload_n 0 dX1_lay_108 rfl rfl ?_
    refine gf_getR flX1_48 rfl dX1_lay_109 (gt_1 hG) (gp_1_14 hG) ?_
    refine gf_iload_n 3 dX1_lay_112 rfl rfl ?_
    refine gf_iconst (0) dX1_lay_113 rfl ?_
    refine gf_iast 121 dX1_lay_114 (gt_133 hG) (gl_133 hG) rfl (by omega) (by decide) ?_
    refine gf_iinc (1) dX1_lay_115 rfl rfl (Nat.le_of_ble_eq_true rfl) ?_
    refine gf_goto 88 dX1_lay_118 rfl ?_
    exact gf_hE (by rw [rw1_set3 h (by decide) (by decide), rw1_set2 _ (by decide), rw1_set, fill_up, fill_up, fill_up]) (gf_lw (ih (jz + 1) (by omega)) ⟨rfl, rfl, rfl, lvE (nI_1 jz), trivial⟩)
theorem l_lay5 (E : gE) {d : Nat} (hd : 1 ≤ d) (w g : Nat) (h : hp_T) (hG : gr h) {v : Option Value} {hz : hp_T} (K : gf E mX1_lay d 145 [(0, .ref (E.1 + 1)), (1, .int (nI w)), (2, .int (nI g)), (3, .int (nI ((9 : Nat))))] [] (ptH h ((9 : Nat))) v hz) : ∀ (kz jz : Nat), jz + kz = (9 : Nat) → gf E mX1_lay d 123 [(0, .ref (E.1 + 1)), (1, .int (nI w)), (2, .int (nI g)), (3, .int (nI (jz)))] [] (ptH h (jz)) v hz := by
  intro kz
  induction kz with
  | zero =>
    intro jz hj
    have hj : (9 : Nat) = jz := by omega
    subst hj
    have hL : gr (ptH h 9) := gr_ptH hG 9
    refine gf_iload_n 3 dX1_lay_123 rfl rfl ?_
    refine gf_bipush (9) dX1_lay_124 rfl ?_
    refine gf_icmp_ge 145 dX1_lay_126 rfl (fun _ => ?_) (fun q => absurd (by decide) q)
    exact gf_lw K ⟨rfl, rfl, rfl, rfl, trivial⟩
  | succ kz ih =>
    intro jz hj
    have hL : gr (ptH h jz) := gr_ptH hG jz
    have h9 : jz < 9 := by omega
    refine gf_iload_n 3 dX1_lay_123 rfl rfl ?_
    refine gf_bipush (9) dX1_lay_124 rfl ?_
    refine gf_icmp_ge 145 dX1_lay_126 rfl (fun q => absurd q (by rw [show (9 : Int32) = nI 9 from rfl]; exact nI_ge (by omega) (by decide))) (fun _ => ?_)
    refine gf_aload_n 0 dX1_lay_129 rfl rfl ?_
    refine gf_getR flX1_54 rfl dX1_lay_130 (gt_1 hL) (gp_1_16 hL) ?_
    refine gf_iload_n 3 dX1_lay_133 rfl rfl ?_
    refine gf_rald 9 dX1_lay_134 (gt_135 hL) (by decide) (by decide) (gl_135 hL) rfl h9 (by decide) (gq_pt hL h9) ?_
    refine gf_iconst (0) dX1_lay_135 rfl ?_
    refine gf_callS cmJ7_fill_53178 lkX1_71 stJ7_fill_53178 dX1_lay_136 (d1 := d - 1) (by omega) (e_fill E (by omega) (m := 136 + jz) (N := 9) 0 (ptH h jz) ⟨gqt_pt hL h9, gql_pt hL h9⟩ (by decide)) rfl rfl (Nat.le_of_ble_eq_true rfl) ?_
    refine gf_iinc (1) dX1_lay_139 rfl rfl (Nat.le_of_ble_eq_true rfl) ?_
    refine gf_goto 123 dX1_lay_142 rfl ?_
    exact gf_lw (ih (jz + 1) (by omega)) ⟨rfl, rfl, rfl, lvE (nI_1 jz), trivial⟩
/-- a city is laid -/
def lay0 (w g : Nat) (h : hp_T) : hp_T := (hp_setI (hp_setI (hp_setI h 1 0 (nI w)) 1 1 (nI g)) 1 2 (nI (w * g)))
def lay1 (h : hp_T) : hp_T := rw1 (rw1 h 2 (fa_fill (fun _ => 0) (hp_i h 2) (120))) 6 (fa_fill (fun _ => 0) (hp_i h 6) (120))
def lay4 (h : hp_T) : hp_T := rw1 (rw1 (rw1 h 131 (fa_fill (fun _ => 0) (hp_i h 131) (121))) 132 (fa_fill (fun _ => 0) (hp_i h 132) (121))) 133 (fa_fill (fun _ => 0) (hp_i h 133) (121))
def layH (w g : Nat) (h : hp_T) : hp_T := ptH (lay4 (layA w g (lay1 (lay0 w g h)) g)) 9
theorem lay1_id (h : hp_T) : rw1 (rw1 h 2 (fa_fill (fun _ => 0) (hp_i h 2) (0))) 6 (fa_fill (fun _ => 0) (hp_i h 6) (0)) = h := by
  rw [fa_fill_0, fa_fill_0, show hp_i h 6 = hp_i (rw1 h 2 (hp_i h 2)) 6 from (rw1_ne h _ (by decide)).symm, rw1_id, rw1_id]
theorem lay4_id (h : hp_T) : rw1 (rw1 (rw1 h 131 (fa_fill (fun _ => 0) (hp_i h 131) (0))) 132 (fa_fill (fun _ => 0) (hp_i h 132) (0))) 133 (fa_fill (fun _ => 0) (hp_i h 133) (0)) = h := by
  rw [fa_fill_0, fa_fill_0, fa_fill_0, rw1_id, rw1_id, rw1_id]
theorem e_X1_lay (E : gE) {d : Nat} (hd : 2 ≤ d) {w g : Nat} (h : hp_T) (hG : gr h) (w12 : w < 13) (g10 : g < 11) (hn : w * g ≤ 120) : ev E mX1_lay d [.ref (E.1 + 1), .int (nI w), .int (nI g)] h (none) (layH w g h) := by
  refine ev_of rfl (fun q => absurd q (by decide)) (Nat.le_of_ble_eq_true rfl) ?_
  refine gf_aload_n 0 dX1_lay_0 rfl rfl ?_
  refine gf_iload_n 1 dX1_lay_1 rfl rfl ?_
  refine gf_putI flX1_57 rfl rfl dX1_lay_2 (gt_1 hG) ⟨rfl, rfl⟩ ?_
  refine gf_aload_n 0 dX1_lay_5 rfl rfl ?_
  refine gf_iload_n 2 dX1_lay_6 rfl rfl ?_
  refine gf_putI flX1_61 rfl rfl dX1_lay_7 (gt_1 hG) ⟨rfl, rfl⟩ ?_
  refine gf_aload_n 0 dX1_lay_10 rfl rfl ?_
  refine gf_iload_n 1 dX1_lay_11 rfl rfl ?_
  refine gf_iload_n 2 dX1_lay_12 rfl rfl ?_
  refine gf_imul dX1_lay_13 ?_
  rw [pk_mul]
  refine gf_putI flX1_64 rfl rfl dX1_lay_14 (gt_1 hG) ⟨rfl, rfl⟩ ?_
  refine gf_iconst (0) dX1_lay_17 rfl ?_
  refine gf_istore_n 3 dX1_lay_18 rfl (Nat.le_of_ble_eq_true rfl) ?_
  refine gf_hE (lay1_id (lay0 w g h)).symm ?_
  refine l_lay1 E w g (lay0 w g h) hG ?_ 120 0 (by omega)
  have hG1 : gr (lay1 (lay0 w g h)) := hG
  have hw : hp_i (lay1 (lay0 w g h)) 1 0 = nI w := rfl
  have hg : hp_i (lay1 (lay0 w g h)) 1 1 = nI g := rfl
  refine gf_iconst (0) dX1_lay_45 rfl ?_
  refine gf_istore_n 3 dX1_lay_46 rfl (Nat.le_of_ble_eq_true rfl) ?_
  refine l_lay3 E hd (lay1 (lay0 w g h)) hG1 hw hg w12 g10 hn ?_ g 0 (by omega)
  have hG3 : gr (layA w g (lay1 (lay0 w g h)) g) := gr_layA hG1 g
  refine gf_iconst (0) dX1_lay_86 rfl ?_
  refine gf_istore_n 3 dX1_lay_87 rfl (Nat.le_of_ble_eq_true rfl) ?_
  refine gf_hE (lay4_id (layA w g (lay1 (lay0 w g h)) g)).symm ?_
  refine l_lay4 E w g (layA w g (lay1 (lay0 w g h)) g) hG3 ?_ 121 0 (by omega)
  have hG4 : gr (lay4 (layA w g (lay1 (lay0 w g h)) g)) := hG3
  refine gf_iconst (0) dX1_lay_121 rfl ?_
  refine gf_istore_n 3 dX1_lay_122 rfl (Nat.le_of_ble_eq_true rfl) ?_
  refine l_lay5 E (by omega) w g (lay4 (layA w g (lay1 (lay0 w g h)) g)) hG4 ?_ 9 0 (by omega)
  exact gf_vretE dX1_lay_145 rfl (rfl)
