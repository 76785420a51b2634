theorem ev_aE {E : gE} {M : gM} {d : Nat} {av aw : List Value} {h h1 : hp_T} {v : Option Value} (e : av = aw) (k : ev E M d av h v h1) : ev E M d aw h v h1 := e ▸ k
/-! ===== Arrays.fill, Math.floorDiv ===== -/
/-- the heap with the ints of one cell as f -/
def rw1 (h : hp_T) (m : Nat) (f : Nat → Int32) : hp_T := (h.1, h.2.1, h.2.2.1, h.2.2.2.1, (fun x => if x = m then f else h.2.2.2.2.1 x), h.2.2.2.2.2.1, h.2.2.2.2.2.2)
theorem rw1_set (h : hp_T) (m : Nat) (f : Nat → Int32) (k : Nat) (v : Int32) : hp_setI (rw1 h m f) m k v = rw1 h m (va_up f k v) := by
  unfold hp_setI rw1
  refine congrArg (fun z => (h.1, h.2.1, h.2.2.1, h.2.2.2.1, z, h.2.2.2.2.2.1, h.2.2.2.2.2.2)) ?_
  funext x i
  by_cases e : x = m
  · subst e; simp [up2, va_up]
  · simp [up2, e]
theorem rw1_id (h : hp_T) (m : Nat) : rw1 h m (hp_i h m) = h := by
  obtain ⟨a, b, cc, dd, ee, ff, gg⟩ := h
  refine congrArg (fun z => (a, b, cc, dd, z, ff, gg)) ?_
  funext x
  by_cases e : x = m
  · subst e; simp [hp_i]
  · simp [e]
theorem rw1_at (h : hp_T) (m : Nat) (f : Nat → Int32) : hp_i (rw1 h m f) m = f := if_pos rfl
theorem rw1_ne (h : hp_T) {m x : Nat} (f : Nat → Int32) (e : x ≠ m) : hp_i (rw1 h m f) x = hp_i h x := if_neg e
theorem fill_up (v : Int32) (g : Nat → Int32) (i : Nat) : va_up (fa_fill (fun _ => v) g i) i v = fa_fill (fun _ => v) g (i + 1) := fa_fill_succ (fun _ => v) g i
theorem l_fill (E : gE) {d : Nat} {m N : Nat} {vv : Int32} (h : hp_T) (hm : hp_tag h m = 14 ∧ hp_len h m = N) (hN : N < 1000000) {v : Option Value} {hz : hp_T} (K : gf E mJ7_fill_53178 d 20 [(0, .ref (E.1 + m)), (1, .int vv), (2, .int (nI (N))), (3, .int (nI N))] [] (rw1 h m (fa_fill (fun _ => vv) (hp_i h m) (N))) v hz) : ∀ (kz jz : Nat), jz + kz = N → gf E mJ7_fill_53178 d 5 [(0, .ref (E.1 + m)), (1, .int vv), (2, .int (nI (jz))), (3, .int (nI N))] [] (rw1 h m (fa_fill (fun _ => vv) (hp_i h m) (jz))) v hz := by
  intro kz
  induction kz with
  | zero =>
    intro jz hj
    have hj : N = jz := by omega
    subst hj
    refine gf_iload_n 2 dJ7_fill_53178_5 rfl rfl ?_
    refine gf_iload_n 3 dJ7_fill_53178_6 rfl rfl ?_
    refine gf_icmp_ge 20 dJ7_fill_53178_7 rfl (fun _ => ?_) (fun q => absurd (nI_le (Nat.le_refl _) (by omega)) q)
    exact gf_lw K ⟨rfl, rfl, rfl, rfl, trivial⟩
  | succ kz ih =>
    intro jz hj
    refine gf_iload_n 2 dJ7_fill_53178_5 rfl rfl ?_
    refine gf_iload_n 3 dJ7_fill_53178_6 rfl rfl ?_
    refine gf_icmp_ge 20 dJ7_fill_53178_7 rfl (fun q => absurd q (nI_ge (by omega) (by omega))) (fun _ => ?_)
    refine gf_aload_n 0 dJ7_fill_53178_10 rfl rfl ?_
    refine gf_iload_n 2 dJ7_fill_53178_11 rfl rfl ?_
    refine gf_iload_n 1 dJ7_fill_53178_12 rfl rfl ?_
    refine gf_iast N dJ7_fill_53178_13 hm.1 hm.2 rfl (by omega) (by omega) ?_
    refine gf_iinc (1) dJ7_fill_53178_14 rfl rfl (Nat.le_of_ble_eq_true rfl) ?_
    refine gf_goto 5 dJ7_fill_53178_17 rfl ?_
    exact gf_hE ((rw1_set h m _ jz vv).trans (by rw [fill_up])) (gf_lw (ih (jz + 1) (by omega)) ⟨rfl, rfl, lvE (nI_1 jz), rfl, trivial⟩)
theorem e_fill (E : gE) {d : Nat} (hd : 0 ≤ d) {m N : Nat} (vv : Int32) (h : hp_T) (hm : hp_tag h m = 14 ∧ hp_len h m = N) (hN : N < 1000000) : ev E mJ7_fill_53178 d [.ref (E.1 + m), .int vv] h (none) (rw1 h m (fa_fill (fun _ => vv) (hp_i h m) N)) := by
  refine ev_of rfl (fun q => absurd q (by decide)) (Nat.le_of_ble_eq_true rfl) ?_
  refine gf_iconst (0) dJ7_fill_53178_0 rfl ?_
  refine gf_istore_n 2 dJ7_fill_53178_1 rfl (Nat.le_of_ble_eq_true rfl) ?_
  refine gf_aload_n 0 dJ7_fill_53178_2 rfl rfl ?_
  refine gf_alen N dJ7_fill_53178_3 hm.1 (by decide) (by decide) hm.2 ?_
  refine gf_istore_n 3 dJ7_fill_53178_4 rfl (Nat.le_of_ble_eq_true rfl) ?_
  refine gf_hE (show h = rw1 h m (fa_fill (fun _ => vv) (hp_i h m) 0) from by rw [fa_fill_0, rw1_id]) ?_
  refine l_fill E h hm hN ?_ N 0 (by omega)
  exact gf_vretE dJ7_fill_53178_20 rfl (rfl)
/-- the quotient, down -/
def fdiv (x y : Int32) : Int32 := if x ^^^ y < 0 ∧ ¬ x / y * y = x then x / y - 1 else x / y
/-! ===== the class itself: what is told in one row ===== -/
theorem e_X11_end (E : gE) {d : Nat} (hd : 0 ≤ d) (n : Int32) (h : hp_T) (hG : gr h) : ev E mX11_end d [.ref (E.1 + 0), .int n] h (some (.int (zb ((¬ n < 0) ∧ (n ≤ hp_i h 150 0))))) (if ((¬ n < 0) ∧ (n ≤ hp_i h 150 0)) then hp_setI h 150 0 n else h) := by
  refine ev_of rfl (fun q => absurd q (by decide)) (Nat.le_of_ble_eq_true rfl) ?_
  refine gf_iload_n 1 dX11_end_0 rfl rfl ?_
  refine gf_if_lt 15 dX11_end_1 rfl (fun zc1 => ?_) (fun zc1 => ?_)
  · refine gf_iconst (0) dX11_end_15 rfl ?_
    exact gf_zretE dX11_end_16 rfl (rfl) ((zb_f (fun q => q.1 zc1)).symm) ((if_neg (fun q => q.1 zc1)).symm)
  · refine gf_iload_n 1 dX11_end_4 rfl rfl ?_
    refine gf_aload_n 0 dX11_end_5 rfl rfl ?_
    refine gf_getR flX11_26 rfl dX11_end_6 (gt_0 hG) (gp_0_2 hG) ?_
    refine gf_getI flX11_97 rfl dX11_end_9 (gt_150 hG) ?_
    refine gf_icmp_le 17 dX11_end_12 rfl (fun zc12 => ?_) (fun zc12 => ?_)
    · refine gf_aload_n 0 dX11_end_17 rfl rfl ?_
      refine gf_getR flX11_26 rfl dX11_end_18 (gt_0 hG) (gp_0_2 hG) ?_
      refine gf_iload_n 1 dX11_end_21 rfl rfl ?_
      refine gf_putI flX11_97 rfl rfl dX11_end_22 (gt_150 hG) ⟨rfl, rfl⟩ ?_
      refine gf_iconst (1) dX11_end_25 rfl ?_
      exact gf_zretE dX11_end_26 rfl (rfl) ((zb_t (⟨zc1, zc12⟩)).symm) ((if_pos (⟨zc1, zc12⟩)).symm)
    · refine gf_iconst (0) dX11_end_15 rfl ?_
      exact gf_zretE dX11_end_16 rfl (rfl) ((zb_f (fun q => zc12 q.2)).symm) ((if_neg (fun q => zc12 q.2)).symm)
theorem e_X11_hazard (E : gE) {d : Nat} (hd : 1 ≤ d) (t n : Int32) (h : hp_T) (hG : gr h) : ev E mX11_hazard d [.ref (E.1 + 0), .int t, .int n] h (some (.int (zb ((0 ≤ t ∧ t ≤ 5) ∧ (0 ≤ n ∧ n ≤ 9))))) (if ((0 ≤ t ∧ t ≤ 5) ∧ (0 ≤ n ∧ n ≤ 9)) then hp_setI h 130 t.toNatClampNeg n else h) := by
  refine ev_of rfl (fun q => absurd q (by decide)) (Nat.le_of_ble_eq_true rfl) ?_
  refine gf_iload_n 1 dX11_hazard_0 rfl rfl ?_
  refine gf_iconst (0) dX11_hazard_1 rfl ?_
  refine gf_iconst (5) dX11_hazard_2 rfl ?_
  refine gf_callS cmX11_within lkX11_105 stX11_within dX11_hazard_3 (d1 := d - 1) (by omega) (e_X11_within E (by omega) _ _ _ h) rfl rfl (Nat.le_of_ble_eq_true rfl) ?_
  refine gf_if_eq 19 dX11_hazard_6 rfl (fun zc6 => ?_) (fun zc6 => ?_)
  · refine gf_iconst (0) dX11_hazard_19 rfl ?_
    exact gf_zretE dX11_hazard_20 rfl (rfl) ((zb_f (fun q => zb_0.mp zc6 q.1)).symm) ((if_neg (fun q => zb_0.mp zc6 q.1)).symm)
  · refine gf_iload_n 2 dX11_hazard_9 rfl rfl ?_
    refine gf_iconst (0) dX11_hazard_10 rfl ?_
    refine gf_bipush (9) dX11_hazard_11 rfl ?_
    refine gf_callS cmX11_within lkX11_105 stX11_within dX11_hazard_13 (d1 := d - 1) (by omega) (e_X11_within E (by omega) _ _ _ h) rfl rfl (Nat.le_of_ble_eq_true rfl) ?_
    refine gf_if_ne 21 dX11_hazard_16 rfl (fun zc16 => ?_) (fun zc16 => ?_)
    · refine gf_aload_n 0 dX11_hazard_21 rfl rfl ?_
      refine gf_getR flX11_10 rfl dX11_hazard_22 (gt_0 hG) (gp_0_0 hG) ?_
      refine gf_getR flX11_136 rfl dX11_hazard_25 (gt_1 hG) (gp_1_11 hG) ?_
      refine gf_iload_n 1 dX11_hazard_28 rfl rfl ?_
      refine gf_iload_n 2 dX11_hazard_29 rfl rfl ?_
      refine gf_iast 6 dX11_hazard_30 (gt_130 hG) (gl_130 hG) (ix_nI (by have q := (zb_1.mp zc6); simp only [fa_le, fa_lt, ti_0] at q; omega)) (ix_lt (by have q := (zb_1.mp zc6); simp only [fa_le, fa_lt, ti_0] at q; omega) (by have q := (zb_1.mp zc6); simp only [fa_le, fa_lt, ti_0, ti_5] at q; omega)) (by decide) ?_
      refine gf_iconst (1) dX11_hazard_31 rfl ?_
      exact gf_zretE dX11_hazard_32 rfl (rfl) ((zb_t (⟨zb_1.mp zc6, zb_1.mp zc16⟩)).symm) ((if_pos (⟨zb_1.mp zc6, zb_1.mp zc16⟩)).symm)
    · refine gf_iconst (0) dX11_hazard_19 rfl ?_
      exact gf_zretE dX11_hazard_20 rfl (rfl) ((zb_f (fun q => zb_0.mp zc16 q.2)).symm) ((if_neg (fun q => zb_0.mp zc16 q.2)).symm)
theorem e_X11_coin (E : gE) {d : Nat} (hd : 2 ≤ d) (t n : Int32) (h : hp_T) (hG : gr h) : ev E mX11_coin d [.ref (E.1 + 0), .int t, .int n] h (some (.int (zb ((0 ≤ t ∧ t ≤ 8) ∧ (0 ≤ n ∧ n ≤ 100000000))))) (if ((0 ≤ t ∧ t ≤ 8) ∧ (0 ≤ n ∧ n ≤ 100000000)) then hp_setI h 134 t.toNatClampNeg n else h) := by
  refine ev_of rfl (fun q => absurd q (by decide)) (Nat.le_of_ble_eq_true rfl) ?_
  refine gf_iload_n 1 dX11_coin_0 rfl rfl ?_
  refine gf_callS cmX11_isOffice lkX11_143 stX11_isOffice dX11_coin_1 (d1 := d - 1) (by omega) (e_X11_isOffice E (by omega) _ h) rfl rfl (Nat.le_of_ble_eq_true rfl) ?_
  refine gf_if_eq 17 dX11_coin_4 rfl (fun zc4 => ?_) (fun zc4 => ?_)
  · refine gf_iconst (0) dX11_coin_17 rfl ?_
    exact gf_zretE dX11_coin_18 rfl (rfl) ((zb_f (fun q => zb_0.mp zc4 q.1)).symm) ((if_neg (fun q => zb_0.mp zc4 q.1)).symm)
  · refine gf_iload_n 2 dX11_coin_7 rfl rfl ?_
    refine gf_iconst (0) dX11_coin_8 rfl ?_
    refine gf_ldc (100000000) kcX11_146 dX11_coin_9 ?_
    refine gf_callS cmX11_within lkX11_105 stX11_within dX11_coin_11 (d1 := d - 1) (by omega) (e_X11_within E (by omega) _ _ _ h) rfl rfl (Nat.le_of_ble_eq_true rfl) ?_
    refine gf_if_ne 19 dX11_coin_14 rfl (fun zc14 => ?_) (fun zc14 => ?_)
    · refine gf_aload_n 0 dX11_coin_19 rfl rfl ?_
      refine gf_getR flX11_10 rfl dX11_coin_20 (gt_0 hG) (gp_0_0 hG) ?_
      refine gf_getR flX11_147 rfl dX11_coin_23 (gt_1 hG) (gp_1_15 hG) ?_
      refine gf_iload_n 1 dX11_coin_26 rfl rfl ?_
      refine gf_iload_n 2 dX11_coin_27 rfl rfl ?_
      refine gf_iast 9 dX11_coin_28 (gt_134 hG) (gl_134 hG) (ix_nI (by have q := (zb_1.mp zc4); simp only [fa_le, fa_lt, ti_0] at q; omega)) (ix_lt (by have q := (zb_1.mp zc4); simp only [fa_le, fa_lt, ti_0] at q; omega) (by have q := (zb_1.mp zc4); simp only [fa_le, fa_lt, ti_0, ti_8] at q; omega)) (by decide) ?_
      refine gf_iconst (1) dX11_coin_29 rfl ?_
      exact gf_zretE dX11_coin_30 rfl (rfl) ((zb_t (⟨zb_1.mp zc4, zb_1.mp zc14⟩)).symm) ((if_pos (⟨zb_1.mp zc4, zb_1.mp zc14⟩)).symm)
    · refine gf_iconst (0) dX11_coin_17 rfl ?_
      exact gf_zretE dX11_coin_18 rfl (rfl) ((zb_f (fun q => zb_0.mp zc14 q.2)).symm) ((if_neg (fun q => zb_0.mp zc14 q.2)).symm)
theorem e_X11_as (E : gE) {d : Nat} (hd : 1 ≤ d) (a : Int32) (h : hp_T) (hG : gr h) : ev E mX11_as d [.ref (E.1 + 0), .int a] h (some (.int (zb ((-1 ≤ a ∧ a ≤ hp_i h 158 0))))) (if ((-1 ≤ a ∧ a ≤ hp_i h 158 0)) then hp_setI h 158 1 a else h) := by
  refine ev_of rfl (fun q => absurd q (by decide)) (Nat.le_of_ble_eq_true rfl) ?_
  refine gf_iload_n 1 dX11_as_0 rfl rfl ?_
  refine gf_iconst (-1) dX11_as_1 rfl ?_
  refine gf_aload_n 0 dX11_as_2 rfl rfl ?_
  refine gf_getR flX11_33 rfl dX11_as_3 (gt_0 hG) (gp_0_3 hG) ?_
  refine gf_getI flX11_193 rfl dX11_as_6 (gt_158 hG) ?_
  refine gf_callS cmX11_within lkX11_105 stX11_within dX11_as_9 (d1 := d - 1) (by omega) (e_X11_within E (by omega) _ _ _ h) rfl rfl (Nat.le_of_ble_eq_true rfl) ?_
  refine gf_if_ne 17 dX11_as_12 rfl (fun zc12 => ?_) (fun zc12 => ?_)
  · refine gf_aload_n 0 dX11_as_17 rfl rfl ?_
    refine gf_getR flX11_33 rfl dX11_as_18 (gt_0 hG) (gp_0_3 hG) ?_
    refine gf_iload_n 1 dX11_as_21 rfl rfl ?_
    refine gf_putI flX11_194 rfl rfl dX11_as_22 (gt_158 hG) ⟨rfl, rfl⟩ ?_
    refine gf_iconst (1) dX11_as_25 rfl ?_
    exact gf_zretE dX11_as_26 rfl (rfl) ((zb_t (zb_1.mp zc12)).symm) ((if_pos (zb_1.mp zc12)).symm)
  · refine gf_iconst (0) dX11_as_15 rfl ?_
    exact gf_zretE dX11_as_16 rfl (rfl) ((zb_f (fun q => zb_0.mp zc12 q)).symm) ((if_neg (fun q => zb_0.mp zc12 q)).symm)
theorem e_X11_plug (E : gE) {d : Nat} (hd : 1 ≤ d) (c b : Int32) (h : hp_T) (hG : gr h) {w g : Nat} (C : cty (hp_i h) w g) (hb : vp_nar .boolean b = b) : ev E mX11_plug d [.ref (E.1 + 0), .int c, .int b] h (some (.int (zb ((0 ≤ c ∧ c < hp_i h 1 2))))) (if ((0 ≤ c ∧ c < hp_i h 1 2)) then hp_setI h 6 c.toNatClampNeg b else h) := by
  refine ev_of rfl (fun q => absurd q (by decide)) (Nat.le_of_ble_eq_true rfl) ?_
  refine gf_aload_n 0 dX11_plug_0 rfl rfl ?_
  refine gf_getR flX11_10 rfl dX11_plug_1 (gt_0 hG) (gp_0_0 hG) ?_
  refine gf_iload_n 1 dX11_plug_4 rfl rfl ?_
  refine gf_callV cmX1_has lkX11_120 imX1_has seX1_has ⟨rfl, by decide⟩ dX11_plug_5 (d1 := d - 1) (by omega) (gt_1 hG) (e_X1_has E (by omega) c h hG) rfl rfl (Nat.le_of_ble_eq_true rfl) ?_
  refine gf_if_ne 13 dX11_plug_8 rfl (fun zc8 => ?_) (fun zc8 => ?_)
  · refine gf_aload_n 0 dX11_plug_13 rfl rfl ?_
    refine gf_getR flX11_10 rfl dX11_plug_14 (gt_0 hG) (gp_0_0 hG) ?_
    refine gf_getR flX11_132 rfl dX11_plug_17 (gt_1 hG) (gp_1_7 hG) ?_
    refine gf_iload_n 1 dX11_plug_20 rfl rfl ?_
    refine gf_iload_n 2 dX11_plug_21 rfl rfl ?_
    refine gf_zast 120 dX11_plug_22 (gt_6 hG) (gl_6 hG) (ix_nI (by have q := (zb_1.mp zc8); simp only [fa_le, fa_lt, ti_0] at q; omega)) (ix_lt (by have q := (zb_1.mp zc8); simp only [fa_le, fa_lt, ti_0] at q; omega) (by have q := (zb_1.mp zc8).2; have e2 := ti_nI (n := w * g) (by have := (cty_n C).2; omega); have e3 := (cty_n C).2; rw [C.2.2.2.1, fa_lt, e2] at q; omega)) (by decide) hb ?_
    refine gf_iconst (1) dX11_plug_23 rfl ?_
    exact gf_zretE dX11_plug_24 rfl (rfl) ((zb_t (zb_1.mp zc8)).symm) ((if_pos (zb_1.mp zc8)).symm)
  · refine gf_iconst (0) dX11_plug_11 rfl ?_
    exact gf_zretE dX11_plug_12 rfl (rfl) ((zb_f (fun q => zb_0.mp zc8 q)).symm) ((if_neg (fun q => zb_0.mp zc8 q)).symm)
theorem e_X11_deal (E : gE) {d : Nat} (hd : 2 ≤ d) (b c p : Int32) (h : hp_T) (hG : gr h) : ev E mX11_deal d [.ref (E.1 + 0), .int b, .int c, .int p] h (some (.int (zb ((0 ≤ b ∧ b ≤ 8) ∧ (0 ≤ c ∧ c ≤ 8) ∧ (¬ b = c) ∧ (0 ≤ p ∧ p ≤ 1000))))) (if ((0 ≤ b ∧ b ≤ 8) ∧ (0 ≤ c ∧ c ≤ 8) ∧ (¬ b = c) ∧ (0 ≤ p ∧ p ≤ 1000)) then hp_setI h (136 + b.toNatClampNeg) c.toNatClampNeg p else h) := by
  refine ev_of rfl (fun q => absurd q (by decide)) (Nat.le_of_ble_eq_true rfl) ?_
  refine gf_iload_n 1 dX11_deal_0 rfl rfl ?_
  refine gf_callS cmX11_isOffice lkX11_143 stX11_isOffice dX11_deal_1 (d1 := d - 1) (by omega) (e_X11_isOffice E (by omega) _ h) rfl rfl (Nat.le_of_ble_eq_true rfl) ?_
  refine gf_if_eq 30 dX11_deal_4 rfl (fun zc4 => ?_) (fun zc4 => ?_)
  · refine gf_iconst (0) dX11_deal_30 rfl ?_
    exact gf_zretE dX11_deal_31 rfl (rfl) ((zb_f (fun q => zb_0.mp zc4 q.1)).symm) ((if_neg (fun q => zb_0.mp zc4 q.1)).symm)
  · refine gf_iload_n 2 dX11_deal_7 rfl rfl ?_
    refine gf_callS cmX11_isOffice lkX11_143 stX11_isOffice dX11_deal_8 (d1 := d - 1) (by omega) (e_X11_isOffice E (by omega) _ h) rfl rfl (Nat.le_of_ble_eq_true rfl) ?_
    refine gf_if_eq 30 dX11_deal_11 rfl (fun zc11 => ?_) (fun zc11 => ?_)
    · refine gf_iconst (0) dX11_deal_30 rfl ?_
      exact gf_zretE dX11_deal_31 rfl (rfl) ((zb_f (fun q => zb_0.mp zc11 q.2.1)).symm) ((if_neg (fun q => zb_0.mp zc11 q.2.1)).symm)
    · refine gf_iload_n 1 dX11_deal_14 rfl rfl ?_
      refine gf_iload_n 2 dX11_deal_15 rfl rfl ?_
      refine gf_icmp_eq 30 dX11_deal_16 rfl (fun zc16 => ?_) (fun zc16 => ?_)
      · refine gf_iconst (0) dX11_deal_30 rfl ?_
        exact gf_zretE dX11_deal_31 rfl (rfl) ((zb_f (fun q => q.2.2.1 zc16)).symm) ((if_neg (fun q => q.2.2.1 zc16)).symm)
      · refine gf_iload_n 3 dX11_deal_19 rfl rfl ?_
        refine gf_iconst (0) dX11_deal_20 rfl ?_
        refine gf_sipush (1000) dX11_deal_21 rfl ?_
        refine gf_callS cmX11_within lkX11_105 stX11_within dX11_deal_24 (d1 := d - 1) (by omega) (e_X11_within E (by omega) _ _ _ h) rfl rfl (Nat.le_of_ble_eq_true rfl) ?_
        refine gf_if_ne 32 dX11_deal_27 rfl (fun zc27 => ?_) (fun zc27 => ?_)
        · refine gf_aload_n 0 dX11_deal_32 rfl rfl ?_
          refine gf_getR flX11_10 rfl dX11_deal_33 (gt_0 hG) (gp_0_0 hG) ?_
          refine gf_getR flX11_156 rfl dX11_deal_36 (gt_1 hG) (gp_1_16 hG) ?_
          refine gf_iload_n 1 dX11_deal_39 rfl rfl ?_
          refine gf_rald 9 dX11_deal_40 (gt_135 hG) (by decide) (by decide) (gl_135 hG) (ix_nI (by have q := (zb_1.mp zc4); simp only [fa_le, fa_lt, ti_0] at q; omega)) (ix_lt (by have q := (zb_1.mp zc4); simp only [fa_le, fa_lt, ti_0] at q; omega) (by have q := (zb_1.mp zc4); simp only [fa_le, fa_lt, ti_0, ti_8] at q; omega)) (by decide) (gq_pt hG (ix_lt (n := 9) (by have q := (zb_1.mp zc4); simp only [fa_le, fa_lt, ti_0] at q; omega) (by have q := (zb_1.mp zc4); simp only [fa_le, fa_lt, ti_0, ti_8] at q; omega))) ?_
          refine gf_iload_n 2 dX11_deal_41 rfl rfl ?_
          refine gf_iload_n 3 dX11_deal_42 rfl rfl ?_
          refine gf_iast 9 dX11_deal_43 (gqt_pt hG (ix_lt (n := 9) (by have q := (zb_1.mp zc4); simp only [fa_le, fa_lt, ti_0] at q; omega) (by have q := (zb_1.mp zc4); simp only [fa_le, fa_lt, ti_0, ti_8] at q; omega))) (gql_pt hG (ix_lt (n := 9) (by have q := (zb_1.mp zc4); simp only [fa_le, fa_lt, ti_0] at q; omega) (by have q := (zb_1.mp zc4); simp only [fa_le, fa_lt, ti_0, ti_8] at q; omega))) (ix_nI (by have q := (zb_1.mp zc11); simp only [fa_le, fa_lt, ti_0] at q; omega)) (ix_lt (by have q := (zb_1.mp zc11); simp only [fa_le, fa_lt, ti_0] at q; omega) (by have q := (zb_1.mp zc11); simp only [fa_le, fa_lt, ti_0, ti_8] at q; omega)) (by decide) ?_
          refine gf_iconst (1) dX11_deal_44 rfl ?_
          exact gf_zretE dX11_deal_45 rfl (rfl) ((zb_t (⟨zb_1.mp zc4, zb_1.mp zc11, zc16, zb_1.mp zc27⟩)).symm) ((if_pos (⟨zb_1.mp zc4, zb_1.mp zc11, zc16, zb_1.mp zc27⟩)).symm)
        · refine gf_iconst (0) dX11_deal_30 rfl ?_
          exact gf_zretE dX11_deal_31 rfl (rfl) ((zb_f (fun q => zb_0.mp zc27 q.2.2.2)).symm) ((if_neg (fun q => zb_0.mp zc27 q.2.2.2)).symm)
theorem e_X11_house (E : gE) {d : Nat} (hd : 1 ≤ d) (c wl tr wo : Int32) (h : hp_T) (hG : gr h) {w g : Nat} (C : cty (hp_i h) w g) : ev E mX11_house d [.ref (E.1 + 0), .int c, .int wl, .int tr, .int wo] h (some (.int (zb ((0 ≤ c ∧ c < hp_i h 1 2) ∧ (0 ≤ wl ∧ wl ≤ 3) ∧ (0 ≤ tr ∧ tr ≤ 5) ∧ (0 ≤ wo ∧ wo ≤ 9999))))) (if ((0 ≤ c ∧ c < hp_i h 1 2) ∧ (0 ≤ wl ∧ wl ≤ 3) ∧ (0 ≤ tr ∧ tr ≤ 5) ∧ (0 ≤ wo ∧ wo ≤ 9999)) then (hp_setI (hp_setI (hp_setI (hp_setI h 2 c.toNatClampNeg 1) 3 c.toNatClampNeg wl) 4 c.toNatClampNeg tr) 5 c.toNatClampNeg wo) else h) := by
  refine ev_of rfl (fun q => absurd q (by decide)) (Nat.le_of_ble_eq_true rfl) ?_
  refine gf_aload_n 0 dX11_house_0 rfl rfl ?_
  refine gf_getR flX11_10 rfl dX11_house_1 (gt_0 hG) (gp_0_0 hG) ?_
  refine gf_iload_n 1 dX11_house_4 rfl rfl ?_
  refine gf_callV cmX1_has lkX11_120 imX1_has seX1_has ⟨rfl, by decide⟩ dX11_house_5 (d1 := d - 1) (by omega) (gt_1 hG) (e_X1_has E (by omega) c h hG) rfl rfl (Nat.le_of_ble_eq_true rfl) ?_
  refine gf_if_eq 46 dX11_house_8 rfl (fun zc8 => ?_) (fun zc8 => ?_)
  · refine gf_iconst (0) dX11_house_46 rfl ?_
    exact gf_zretE dX11_house_47 rfl (rfl) ((zb_f (fun q => zb_0.mp zc8 q.1)).symm) ((if_neg (fun q => zb_0.mp zc8 q.1)).symm)
  · refine gf_iload_n 2 dX11_house_11 rfl rfl ?_
    refine gf_iconst (0) dX11_house_12 rfl ?_
    refine gf_gets (k := 2) (by decide) fsX11_124 dX11_house_13 ?_
    refine gf_salen dX11_house_16 (by decide) ?_
    refine gf_iconst (1) dX11_house_17 rfl ?_
    refine gf_isub dX11_house_18 ?_
    rw [show nI (gf_sl 2) - 1 = (3 : Int32) from by decide]
    refine gf_callS cmX11_within lkX11_105 stX11_within dX11_house_19 (d1 := d - 1) (by omega) (e_X11_within E (by omega) _ _ _ h) rfl rfl (Nat.le_of_ble_eq_true rfl) ?_
    refine gf_if_eq 46 dX11_house_22 rfl (fun zc22 => ?_) (fun zc22 => ?_)
    · refine gf_iconst (0) dX11_house_46 rfl ?_
      exact gf_zretE dX11_house_47 rfl (rfl) ((zb_f (fun q => zb_0.mp zc22 q.2.1)).symm) ((if_neg (fun q => zb_0.mp zc22 q.2.1)).symm)
    · refine gf_iload_n 3 dX11_house_25 rfl rfl ?_
      refine gf_iconst (0) dX11_house_26 rfl ?_
      refine gf_iconst (5) dX11_house_27 rfl ?_
      refine gf_callS cmX11_within lkX11_105 stX11_within dX11_house_28 (d1 := d - 1) (by omega) (e_X11_within E (by omega) _ _ _ h) rfl rfl (Nat.le_of_ble_eq_true rfl) ?_
      refine gf_if_eq 46 dX11_house_31 rfl (fun zc31 => ?_) (fun zc31 => ?_)
      · refine gf_iconst (0) dX11_house_46 rfl ?_
        exact gf_zretE dX11_house_47 rfl (rfl) ((zb_f (fun q => zb_0.mp zc31 q.2.2.1)).symm) ((if_neg (fun q => zb_0.mp zc31 q.2.2.1)).symm)
      · refine gf_iload dX11_house_34 rfl ?_
        refine gf_iconst (0) dX11_house_36 rfl ?_
        refine gf_sipush (9999) dX11_house_37 rfl ?_
        refine gf_callS cmX11_within lkX11_105 stX11_within dX11_house_40 (d1 := d - 1) (by omega) (e_X11_within E (by omega) _ _ _ h) rfl rfl (Nat.le_of_ble_eq_true rfl) ?_
        refine gf_if_ne 48 dX11_house_43 rfl (fun zc43 => ?_) (fun zc43 => ?_)
        · refine gf_aload_n 0 dX11_house_48 rfl rfl ?_
          refine gf_getR flX11_10 rfl dX11_house_49 (gt_0 hG) (gp_0_0 hG) ?_
          refine gf_iload_n 1 dX11_house_52 rfl rfl ?_
          refine gf_iload_n 2 dX11_house_53 rfl rfl ?_
          refine gf_iload_n 3 dX11_house_54 rfl rfl ?_
          refine gf_iload dX11_house_55 rfl ?_
          have hlt : c.toNatClampNeg < 120 := ix_lt (by have q := (zb_1.mp zc8); simp only [fa_le, fa_lt, ti_0] at q; omega) (by have q := (zb_1.mp zc8).2; have e2 := ti_nI (n := w * g) (by have := (cty_n C).2; omega); have e3 := (cty_n C).2; rw [C.2.2.2.1, fa_lt, e2] at q; omega)
          have hce : c = nI c.toNatClampNeg := ix_nI (by have q := (zb_1.mp zc8); simp only [fa_le, fa_lt, ti_0] at q; omega)
          refine gf_callV cmX1_build lkX11_128 imX1_build seX1_build ⟨rfl, by decide⟩ dX11_house_57 (d1 := d - 1) (by omega) (gt_1 hG) (ev_aE (by rw [← hce]) (e_X1_build E (by omega) wl tr wo h hG hlt)) rfl rfl (Nat.le_of_ble_eq_true rfl) ?_
          refine gf_iconst (1) dX11_house_60 rfl ?_
          exact gf_zretE dX11_house_61 rfl (rfl) ((zb_t (⟨zb_1.mp zc8, zb_1.mp zc22, zb_1.mp zc31, zb_1.mp zc43⟩)).symm) ((if_pos (⟨zb_1.mp zc8, zb_1.mp zc22, zb_1.mp zc31, zb_1.mp zc43⟩)).symm)
        · refine gf_iconst (0) dX11_house_46 rfl ?_
          exact gf_zretE dX11_house_47 rfl (rfl) ((zb_f (fun q => zb_0.mp zc43 q.2.2.2)).symm) ((if_neg (fun q => zb_0.mp zc43 q.2.2.2)).symm)
theorem e_X11_fault (E : gE) {d : Nat} (hd : 0 ≤ d) (t : Int32) (h : hp_T) (hG : gr h) : ev E mX11_fault d [.ref (E.1 + 0), .int t] h (some (.int (if t = 0 then hp_i h 150 1 else if t = 1 then hp_i h 150 2 else -1))) h := by
  refine ev_of rfl (fun q => absurd q (by decide)) (Nat.le_of_ble_eq_true rfl) ?_
  refine gf_iload_n 1 dX11_fault_0 rfl rfl ?_
  refine gf_if_ne 12 dX11_fault_1 rfl (fun zc1 => ?_) (fun zc1 => ?_)
  · refine gf_iload_n 1 dX11_fault_12 rfl rfl ?_
    refine gf_iconst (1) dX11_fault_13 rfl ?_
    refine gf_icmp_ne 27 dX11_fault_14 rfl (fun zc14 => ?_) (fun zc14 => ?_)
    · refine gf_iconst (-1) dX11_fault_27 rfl ?_
      exact gf_iretE dX11_fault_28 rfl (((if_neg zc1).trans (if_neg zc14)).symm) (rfl)
    · refine gf_aload_n 0 dX11_fault_17 rfl rfl ?_
      refine gf_getR flX11_26 rfl dX11_fault_18 (gt_0 hG) (gp_0_2 hG) ?_
      refine gf_getI flX11_175 rfl dX11_fault_21 (gt_150 hG) ?_
      refine gf_goto 28 dX11_fault_24 rfl ?_
      exact gf_iretE dX11_fault_28 rfl (((if_neg zc1).trans (if_pos zc14)).symm) (rfl)
  · refine gf_aload_n 0 dX11_fault_4 rfl rfl ?_
    refine gf_getR flX11_26 rfl dX11_fault_5 (gt_0 hG) (gp_0_2 hG) ?_
    refine gf_getI flX11_172 rfl dX11_fault_8 (gt_150 hG) ?_
    exact gf_iretE dX11_fault_11 rfl ((if_pos zc1).symm) (rfl)
theorem e_X11_lost (E : gE) {d : Nat} (hd : 0 ≤ d) (h : hp_T) (hG : gr h) : ev E mX11_lost d [.ref (E.1 + 0)] h (some (.int (if hp_i h 174 0 = 0 then -1 else hp_i h 174 2))) h := by
  refine ev_of rfl (fun q => absurd q (by decide)) (Nat.le_of_ble_eq_true rfl) ?_
  refine gf_aload_n 0 dX11_lost_0 rfl rfl ?_
  refine gf_getR flX11_58 rfl dX11_lost_1 (gt_0 hG) (gp_0_6 hG) ?_
  refine gf_getI flX11_115 rfl dX11_lost_4 (gt_174 hG) ?_
  refine gf_if_eq 20 dX11_lost_7 rfl (fun zc7 => ?_) (fun zc7 => ?_)
  · refine gf_iconst (-1) dX11_lost_20 rfl ?_
    exact gf_iretE dX11_lost_21 rfl ((if_pos zc7).symm) (rfl)
  · refine gf_aload_n 0 dX11_lost_10 rfl rfl ?_
    refine gf_getR flX11_58 rfl dX11_lost_11 (gt_0 hG) (gp_0_6 hG) ?_
    refine gf_getI flX11_274 rfl dX11_lost_14 (gt_174 hG) ?_
    refine gf_goto 21 dX11_lost_17 rfl ?_
    exact gf_iretE dX11_lost_21 rfl ((if_neg zc7).symm) (rfl)
theorem e_X11_settled (E : gE) {d : Nat} (hd : 2 ≤ d) (t : Int32) (h : hp_T) (hG : gr h) : ev E mX11_settled d [.ref (E.1 + 0), .int t] h (some (.int (if ¬ hp_i h 174 0 = 0 ∧ (0 ≤ t ∧ t ≤ 8) then hp_i h 190 t.toNatClampNeg else -1))) h := by
  refine ev_of rfl (fun q => absurd q (by decide)) (Nat.le_of_ble_eq_true rfl) ?_
  refine gf_aload_n 0 dX11_settled_0 rfl rfl ?_
  refine gf_getR flX11_58 rfl dX11_settled_1 (gt_0 hG) (gp_0_6 hG) ?_
  refine gf_getI flX11_115 rfl dX11_settled_4 (gt_174 hG) ?_
  refine gf_if_eq 29 dX11_settled_7 rfl (fun zc7 => ?_) (fun zc7 => ?_)
  · refine gf_iconst (-1) dX11_settled_29 rfl ?_
    exact gf_iretE dX11_settled_30 rfl ((if_neg (fun q => q.1 zc7)).symm) (rfl)
  · refine gf_iload_n 1 dX11_settled_10 rfl rfl ?_
    refine gf_callS cmX11_isOffice lkX11_143 stX11_isOffice dX11_settled_11 (d1 := d - 1) (by omega) (e_X11_isOffice E (by omega) _ h) rfl rfl (Nat.le_of_ble_eq_true rfl) ?_
    refine gf_if_eq 29 dX11_settled_14 rfl (fun zc14 => ?_) (fun zc14 => ?_)
    · refine gf_iconst (-1) dX11_settled_29 rfl ?_
      exact gf_iretE dX11_settled_30 rfl ((if_neg (fun q => zb_0.mp zc14 q.2)).symm) (rfl)
    · refine gf_aload_n 0 dX11_settled_17 rfl rfl ?_
      refine gf_getR flX11_67 rfl dX11_settled_18 (gt_0 hG) (gp_0_7 hG) ?_
      refine gf_getR flX11_286 rfl dX11_settled_21 (gt_186 hG) (gp_186_3 hG) ?_
      refine gf_iload_n 1 dX11_settled_24 rfl rfl ?_
      refine gf_iald 9 dX11_settled_25 (gt_190 hG) (gl_190 hG) (ix_nI (by have q := (zb_1.mp zc14); simp only [fa_le, fa_lt, ti_0] at q; omega)) (ix_lt (by have q := (zb_1.mp zc14); simp only [fa_le, fa_lt, ti_0] at q; omega) (by have q := (zb_1.mp zc14); simp only [fa_le, fa_lt, ti_0, ti_8] at q; omega)) (by decide) ?_
      refine gf_goto 30 dX11_settled_26 rfl ?_
      exact gf_iretE dX11_settled_30 rfl ((if_pos ⟨zc7, zb_1.mp zc14⟩).symm) (rfl)
theorem e_X11_planned (E : gE) {d : Nat} (hd : 1 ≤ d) (t : Int32) {p : Nat} (h : hp_T) (hG : gr h) (hp : hp_i h 243 1 = nI p) (hp3 : p ≤ 3) : ev E mX11_planned d [.ref (E.1 + 0), .int t] h (some (.int (if 0 ≤ t ∧ t ≤ hp_i h 243 1 - 1 then hp_i h 245 t.toNatClampNeg else -1))) h := by
  refine ev_of rfl (fun q => absurd q (by decide)) (Nat.le_of_ble_eq_true rfl) ?_
  refine gf_iload_n 1 dX11_planned_0 rfl rfl ?_
  refine gf_iconst (0) dX11_planned_1 rfl ?_
  refine gf_aload_n 0 dX11_planned_2 rfl rfl ?_
  refine gf_getR flX11_89 rfl dX11_planned_3 (gt_0 hG) (gp_0_11 hG) ?_
  refine gf_getI flX11_324 rfl dX11_planned_6 (gt_243 hG) ?_
  refine gf_iconst (1) dX11_planned_9 rfl ?_
  refine gf_isub dX11_planned_10 ?_
  refine gf_callS cmX11_within lkX11_105 stX11_within dX11_planned_11 (d1 := d - 1) (by omega) (e_X11_within E (by omega) _ _ _ h) rfl rfl (Nat.le_of_ble_eq_true rfl) ?_
  refine gf_if_eq 29 dX11_planned_14 rfl (fun zc14 => ?_) (fun zc14 => ?_)
  · refine gf_iconst (-1) dX11_planned_29 rfl ?_
    exact gf_iretE dX11_planned_30 rfl ((if_neg (zb_0.mp zc14)).symm) (rfl)
  · refine gf_aload_n 0 dX11_planned_17 rfl rfl ?_
    refine gf_getR flX11_89 rfl dX11_planned_18 (gt_0 hG) (gp_0_11 hG) ?_
    refine gf_getR flX11_327 rfl dX11_planned_21 (gt_243 hG) (gp_243_3 hG) ?_
    refine gf_iload_n 1 dX11_planned_24 rfl rfl ?_
    refine gf_iald 3 dX11_planned_25 (gt_245 hG) (gl_245 hG) (ix_nI (by have q := (zb_1.mp zc14).1; simp only [fa_le, ti_0] at q; omega)) (ix_lt (by have q := (zb_1.mp zc14).1; simp only [fa_le, ti_0] at q; omega) (by have q := (zb_1.mp zc14).2; rw [hp, fa_le] at q; have e9 : (nI p - 1).toInt = (p : Int) - 1 := pk_sub_toInt (b := 1) (by omega) (by decide); omega)) (by decide) ?_
    refine gf_goto 30 dX11_planned_26 rfl ?_
    exact gf_iretE dX11_planned_30 rfl ((if_pos (zb_1.mp zc14)).symm) (rfl)
