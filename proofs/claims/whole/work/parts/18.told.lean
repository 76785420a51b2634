/-! ===== the class: a wind is told, an engine comes, the city is laid ===== -/
theorem set_rw1 (h : hp_T) (m k : Nat) (v : Int32) : hp_setI h m k v = rw1 h m (va_up (hp_i h m) k v) := by
  have e := rw1_set h m (hp_i h m) k v
  rw [rw1_id] at e
  exact e
theorem rw1_set2 (h : hp_T) {a b : Nat} (hab : a ≠ b) (f g : Nat → Int32) (k : Nat) (v : Int32) : hp_setI (rw1 (rw1 h a f) b g) a k v = rw1 (rw1 h a (va_up f k v)) b g := by
  unfold hp_setI rw1
  refine congrArg (fun z => (h.1, h.2.1, h.2.2.1, h.2.2.2.1, z, h.2.2.2.2.2.1, h.2.2.2.2.2.2)) ?_
  funext x i
  by_cases e : x = a
  · subst e; simp [up2, va_up, hab]
  · simp [up2, e]
/-- from jz on, v until something is told -/
def wgo (told : Nat → Int32) (v : Int32) : Nat → Nat → (Nat → Int32) → Nat → Int32
  | 0, _, f => f
  | n + 1, jz, f => if told jz = 0 then wgo told v n (jz + 1) (va_up f jz v) else f
theorem l_X1_tellWind (E : gE) {d : Nat} {t0 : Nat} (wy sg : Int32) (h : hp_T) (hG : gr h) : ∀ (kz jz : Nat) (f g : Nat → Int32), jz + kz = 121 → gf E mX1_tellWind d 26 [(0, .ref (E.1 + 1)), (1, .int (nI t0)), (2, .int wy), (3, .int sg), (4, .int (nI (jz)))] [] (rw1 (rw1 h 132 f) 133 g) none (rw1 (rw1 h 132 (wgo (hp_i h 131) wy kz jz f)) 133 (wgo (hp_i h 131) sg kz jz g)) := by
  intro kz
  induction kz with
  | zero =>
    intro jz f g hj
    have hj : jz = 121 := by omega
    subst hj
    refine gf_iload dX1_tellWind_26 rfl ?_
    refine gf_bipush (120) dX1_tellWind_28 rfl ?_
    refine gf_icmp_gt 65 dX1_tellWind_30 rfl (fun _ => ?_) (fun q => absurd (by decide) q)
    exact gf_vretE dX1_tellWind_65 rfl (rfl)
  | succ kz ih =>
    intro jz f g hj
    refine gf_iload dX1_tellWind_26 rfl ?_
    refine gf_bipush (120) dX1_tellWind_28 rfl ?_
    refine gf_icmp_gt 65 dX1_tellWind_30 rfl (fun q => absurd q (by rw [show (120 : Int32) = nI 120 from rfl]; exact nI_nlt (by omega) (by omega))) (fun _ => ?_)
    refine gf_aload_n 0 dX1_tellWind_33 rfl rfl ?_
    refine gf_getR flX1_42 rfl dX1_tellWind_34 (gt_1 hG) (gp_1_12 hG) ?_
    refine gf_iload dX1_tellWind_37 rfl ?_
    refine gf_zald 121 dX1_tellWind_39 (gt_131 hG) (gl_131 hG) rfl (by omega) (by decide) ?_
    refine gf_if_ne 65 dX1_tellWind_40 rfl (fun zc40 => ?_) (fun zc40 => ?_)
    · exact gf_vretE dX1_tellWind_65 rfl (by rw [show wgo (hp_i h 131) wy (kz + 1) jz f = f from if_neg (show ¬ hp_i h 131 jz = 0 from zc40), show wgo (hp_i h 131) sg (kz + 1) jz g = g from if_neg (show ¬ hp_i h 131 jz = 0 from zc40)])
    · refine gf_aload_n 0 dX1_tellWind_43 rfl rfl ?_
      refine gf_getR flX1_45 rfl dX1_tellWind_44 (gt_1 hG) (gp_1_13 hG) ?_
      refine gf_iload dX1_tellWind_47 rfl ?_
      refine gf_iload_n 2 dX1_tellWind_49 rfl rfl ?_
      refine gf_iast 121 dX1_tellWind_50 (gt_132 hG) (gl_132 hG) rfl (by omega) (by decide) ?_
      refine gf_aload_n 0 dX1_tellWind_51 rfl rfl ?_
      refine gf_getR flX1_48 rfl dX1_tellWind_52 (gt_1 hG) (gp_1_14 hG) ?_
      refine gf_iload dX1_tellWind_55 rfl ?_
      refine gf_iload_n 3 dX1_tellWind_57 rfl rfl ?_
      refine gf_iast 121 dX1_tellWind_58 (gt_133 hG) (gl_133 hG) rfl (by omega) (by decide) ?_
      refine gf_iinc (1) dX1_tellWind_59 rfl rfl (Nat.le_of_ble_eq_true rfl) ?_
      refine gf_goto 26 dX1_tellWind_62 rfl ?_
      have e0 : hp_i h 131 jz = 0 := zc40
      have e1 := ih (jz + 1) (va_up f jz wy) (va_up g jz sg) (by omega)
      have e2 : ∀ (vv : Int32) (ff : Nat → Int32), wgo (hp_i h 131) vv (kz + 1) jz ff = wgo (hp_i h 131) vv kz (jz + 1) (va_up ff jz vv) := fun vv ff => if_pos e0
      rw [e2, e2]
      refine gf_hE (h1 := rw1 (rw1 h 132 (va_up f jz wy)) 133 (va_up g jz sg)) (by rw [rw1_set2 h (by decide), rw1_set]) ?_
      exact gf_lw e1 ⟨rfl, rfl, rfl, rfl, lvE (nI_1 jz), trivial⟩
theorem e_X1_tellWind (E : gE) {d : Nat} (hd : 0 ≤ d) {t0 : Nat} (wy sg : Int32) (h : hp_T) (hG : gr h) (ht : 1 ≤ t0 ∧ t0 ≤ 120) : ev E mX1_tellWind d [.ref (E.1 + 1), .int (nI t0), .int wy, .int sg] h (none) (rw1 (rw1 (hp_setI h 131 t0 1) 132 (wgo (hp_i (hp_setI h 131 t0 1) 131) wy (120 - t0) (t0 + 1) (va_up (hp_i h 132) t0 wy))) 133 (wgo (hp_i (hp_setI h 131 t0 1) 131) sg (120 - t0) (t0 + 1) (va_up (hp_i h 133) t0 sg))) := by
  refine ev_of rfl (fun q => absurd q (by decide)) (Nat.le_of_ble_eq_true rfl) ?_
  refine gf_aload_n 0 dX1_tellWind_0 rfl rfl ?_
  refine gf_getR flX1_42 rfl dX1_tellWind_1 (gt_1 hG) (gp_1_12 hG) ?_
  refine gf_iload_n 1 dX1_tellWind_4 rfl rfl ?_
  refine gf_iconst (1) dX1_tellWind_5 rfl ?_
  refine gf_zast 121 dX1_tellWind_6 (gt_131 hG) (gl_131 hG) rfl (by omega) (by decide) rfl ?_
  refine gf_aload_n 0 dX1_tellWind_7 rfl rfl ?_
  refine gf_getR flX1_45 rfl dX1_tellWind_8 (gt_1 hG) (gp_1_13 hG) ?_
  refine gf_iload_n 1 dX1_tellWind_11 rfl rfl ?_
  refine gf_iload_n 2 dX1_tellWind_12 rfl rfl ?_
  refine gf_iast 121 dX1_tellWind_13 (gt_132 hG) (gl_132 hG) rfl (by omega) (by decide) ?_
  refine gf_aload_n 0 dX1_tellWind_14 rfl rfl ?_
  refine gf_getR flX1_48 rfl dX1_tellWind_15 (gt_1 hG) (gp_1_14 hG) ?_
  refine gf_iload_n 1 dX1_tellWind_18 rfl rfl ?_
  refine gf_iload_n 3 dX1_tellWind_19 rfl rfl ?_
  refine gf_iast 121 dX1_tellWind_20 (gt_133 hG) (gl_133 hG) rfl (by omega) (by decide) ?_
  refine gf_iload_n 1 dX1_tellWind_21 rfl rfl ?_
  refine gf_iconst (1) dX1_tellWind_22 rfl ?_
  refine gf_iadd dX1_tellWind_23 ?_
  refine gf_istore dX1_tellWind_24 (Nat.le_of_ble_eq_true rfl) ?_
  refine gf_hE (h1 := rw1 (rw1 (hp_setI h 131 t0 1) 132 (va_up (hp_i h 132) t0 wy)) 133 (va_up (hp_i h 133) t0 sg)) (by rw [set_rw1 _ 133, set_rw1 _ 132]; rfl) ?_
  exact gf_lw (l_X1_tellWind E wy sg (hp_setI h 131 t0 1) hG (120 - t0) (t0 + 1) _ _ (by omega)) ⟨rfl, rfl, rfl, rfl, lvE (nI_1 t0), trivial⟩
theorem e_X3_add (E : gE) {d : Nat} (hd : 0 ≤ d) (o c gg pp : Int32) (h : hp_T) (hG : gr h) {n : Nat} (hN : hp_i h 145 0 = nI n) (hn : n < 12) : ev E mX3_add d [.ref (E.1 + 145), .int o, .int c, .int gg, .int pp] h (none) (hp_setI (hp_setI (hp_setI (hp_setI (hp_setI h 146 n o) 147 n c) 148 n gg) 149 n pp) 145 0 (nI (n + 1))) := by
  refine ev_of rfl (fun q => absurd q (by decide)) (Nat.le_of_ble_eq_true rfl) ?_
  refine gf_aload_n 0 dX3_add_0 rfl rfl ?_
  refine gf_getI flX3_24 rfl dX3_add_1 (gt_145 hG) ?_
  refine gf_bipush (12) dX3_add_4 rfl ?_
  refine gf_icmp_lt 10 dX3_add_6 rfl (fun _ => ?_) (fun q => absurd (by rw [hN, show (12 : Int32) = nI 12 from rfl]; exact nI_lt hn (by decide)) q)
  refine gf_aload_n 0 dX3_add_10 rfl rfl ?_
  refine gf_getR flX3_9 rfl dX3_add_11 (gt_145 hG) (gp_145_1 hG) ?_
  refine gf_aload_n 0 dX3_add_14 rfl rfl ?_
  refine gf_getI flX3_24 rfl dX3_add_15 (gt_145 hG) ?_
  refine gf_iload_n 1 dX3_add_18 rfl rfl ?_
  refine gf_iast 12 dX3_add_19 (gt_146 hG) (gl_146 hG) (j := n) (by simp [hp_i, hp_setI, up2]; exact hN) (by omega) (by decide) ?_
  refine gf_aload_n 0 dX3_add_20 rfl rfl ?_
  refine gf_getR flX3_15 rfl dX3_add_21 (gt_145 hG) (gp_145_2 hG) ?_
  refine gf_aload_n 0 dX3_add_24 rfl rfl ?_
  refine gf_getI flX3_24 rfl dX3_add_25 (gt_145 hG) ?_
  refine gf_iload_n 2 dX3_add_28 rfl rfl ?_
  refine gf_iast 12 dX3_add_29 (gt_147 hG) (gl_147 hG) (j := n) (by simp [hp_i, hp_setI, up2]; exact hN) (by omega) (by decide) ?_
  refine gf_aload_n 0 dX3_add_30 rfl rfl ?_
  refine gf_getR flX3_18 rfl dX3_add_31 (gt_145 hG) (gp_145_3 hG) ?_
  refine gf_aload_n 0 dX3_add_34 rfl rfl ?_
  refine gf_getI flX3_24 rfl dX3_add_35 (gt_145 hG) ?_
  refine gf_iload_n 3 dX3_add_38 rfl rfl ?_
  refine gf_iast 12 dX3_add_39 (gt_148 hG) (gl_148 hG) (j := n) (by simp [hp_i, hp_setI, up2]; exact hN) (by omega) (by decide) ?_
  refine gf_aload_n 0 dX3_add_40 rfl rfl ?_
  refine gf_getR flX3_21 rfl dX3_add_41 (gt_145 hG) (gp_145_4 hG) ?_
  refine gf_aload_n 0 dX3_add_44 rfl rfl ?_
  refine gf_getI flX3_24 rfl dX3_add_45 (gt_145 hG) ?_
  refine gf_iload dX3_add_48 rfl ?_
  refine gf_iast 12 dX3_add_50 (gt_149 hG) (gl_149 hG) (j := n) (by simp [hp_i, hp_setI, up2]; exact hN) (by omega) (by decide) ?_
  refine gf_aload_n 0 dX3_add_51 rfl rfl ?_
  refine gf_dup dX3_add_52 rfl ?_
  refine gf_getI flX3_24 rfl dX3_add_53 (gt_145 hG) ?_
  refine gf_iconst (1) dX3_add_56 rfl ?_
  refine gf_iadd dX3_add_57 ?_
  rw [show hp_i (hp_setI (hp_setI (hp_setI (hp_setI h 146 n o) 147 n c) 148 n gg) 149 n pp) 145 0 + 1 = nI (n + 1) from by rw [show hp_i (hp_setI (hp_setI (hp_setI (hp_setI h 146 n o) 147 n c) 148 n gg) 149 n pp) 145 0 = nI n from by simp [hp_i, hp_setI, up2]; exact hN]; exact nI_1 n]
  refine gf_putI flX3_24 rfl rfl dX3_add_58 (gt_145 hG) ⟨rfl, rfl⟩ ?_
  exact gf_vretE dX3_add_61 rfl (rfl)
def okR (t : Nat) (st : Nat → Int) (g r way : Nat) : Bool := (decide (0 ≤ nI r + (gf_sc t).getD way 0 ∧ nI r + (gf_sc t).getD way 0 ≤ nI g - 1) == decide (0 ≤ (r : Int) + st way ∧ (r : Int) + st way < g)) && (!decide (0 ≤ (r : Int) + st way) || decide (nI r + (gf_sc t).getD way 0 = nI ((r : Int) + st way).toNat))
theorem okR_0 : (List.range 11).all (fun g => (List.range g).all (fun r => (List.range 8).all (fun way => okR 0 rs g r way))) = true := by decide +kernel
theorem okR_1 : (List.range 13).all (fun g => (List.range g).all (fun r => (List.range 8).all (fun way => okR 1 cs g r way))) = true := by decide +kernel
theorem okR_e {t : Nat} {st : Nat → Int} {g r way : Nat} (h : okR t st g r way = true) : ((0 ≤ nI r + (gf_sc t).getD way 0 ∧ nI r + (gf_sc t).getD way 0 ≤ nI g - 1) ↔ (0 ≤ (r : Int) + st way ∧ (r : Int) + st way < g)) ∧ (0 ≤ (r : Int) + st way → nI r + (gf_sc t).getD way 0 = nI ((r : Int) + st way).toNat) := by
  unfold okR at h
  rw [Bool.and_eq_true, beq_iff_eq, Bool.or_eq_true] at h
  obtain ⟨h1, h2⟩ := h
  refine ⟨?_, fun q => ?_⟩
  · have := decide_eq_decide.mp h1
    exact this
  · rcases h2 with h2 | h2
    · rw [decide_eq_true q] at h2
      cases h2
    · exact of_decide_eq_true h2
theorem okR_get {t : Nat} {st : Nat → Int} {N : Nat} (h : (List.range N).all (fun g => (List.range g).all (fun r => (List.range 8).all (fun way => okR t st g r way))) = true) {g r way : Nat} (hg : g < N) (hr : r < g) (hz : way < 8) : okR t st g r way = true := by
  have h1 := List.all_eq_true.mp h g (List.mem_range.mpr hg)
  have h2 := List.all_eq_true.mp h1 r (List.mem_range.mpr hr)
  exact List.all_eq_true.mp h2 way (List.mem_range.mpr hz)
theorem stepR (g : Nat) (hg : g < 11) (r : Nat) (hr : r < g) (way : Nat) (hz : way < 8) : ((0 ≤ nI r + (gf_sc 0).getD way 0 ∧ nI r + (gf_sc 0).getD way 0 ≤ nI g - 1) ↔ (0 ≤ (r : Int) + rs way ∧ (r : Int) + rs way < g)) ∧ (0 ≤ (r : Int) + rs way → nI r + (gf_sc 0).getD way 0 = nI ((r : Int) + rs way).toNat) := okR_e (okR_get okR_0 hg hr hz)
theorem stepC (w : Nat) (hw : w < 13) (c : Nat) (hc : c < w) (way : Nat) (hz : way < 8) : ((0 ≤ nI c + (gf_sc 1).getD way 0 ∧ nI c + (gf_sc 1).getD way 0 ≤ nI w - 1) ↔ (0 ≤ (c : Int) + cs way ∧ (c : Int) + cs way < w)) ∧ (0 ≤ (c : Int) + cs way → nI c + (gf_sc 1).getD way 0 = nI ((c : Int) + cs way).toNat) := okR_e (okR_get okR_1 hw hc hz)
theorem rc_div {w r c : Nat} (hc : c < w) : (r * w + c) / w = r ∧ (r * w + c) % w = c := by
  have h0 : 0 < w := by omega
  refine ⟨?_, ?_⟩
  · rw [Nat.add_comm, Nat.add_mul_div_right _ _ h0, Nat.div_eq_of_lt hc, Nat.zero_add]
  · rw [Nat.add_comm, Nat.add_mul_mod_self_right, Nat.mod_eq_of_lt hc]
theorem rc_lt {w g r c : Nat} (hr : r < g) (hc : c < w) : r * w + c < w * g := by
  have h3 : (r + 1) * w ≤ g * w := Nat.mul_le_mul_right w hr
  rw [Nat.succ_mul] at h3
  rw [Nat.mul_comm w g]
  omega
/-- what a way's row of around is -/
theorem lay_e {w g r c way : Nat} (hw : w < 13) (hg : g < 11) (hr : r < g) (hc : c < w) (hz : way < 8) :
    ((0 ≤ nI r + (gf_sc 0).getD way 0 ∧ nI r + (gf_sc 0).getD way 0 ≤ nI g - 1) ∧ (0 ≤ nI c + (gf_sc 1).getD way 0 ∧ nI c + (gf_sc 1).getD way 0 ≤ nI w - 1) → (nI r + (gf_sc 0).getD way 0) * nI w + (nI c + (gf_sc 1).getD way 0) = enc (nbo w g (r * w + c) way)) ∧
    (¬ ((0 ≤ nI r + (gf_sc 0).getD way 0 ∧ nI r + (gf_sc 0).getD way 0 ≤ nI g - 1) ∧ (0 ≤ nI c + (gf_sc 1).getD way 0 ∧ nI c + (gf_sc 1).getD way 0 ≤ nI w - 1)) → -1 = enc (nbo w g (r * w + c) way)) := by
  obtain ⟨r1, r2⟩ := stepR g hg r hr way hz
  obtain ⟨c1, c2⟩ := stepC w hw c hc way hz
  obtain ⟨e1, e2⟩ := rc_div (r := r) hc
  rw [r1, c1]
  unfold nbo
  rw [e1, e2]
  constructor
  · rintro ⟨⟨a1, a2⟩, a3, a4⟩
    rw [if_pos ⟨a1, a2, a3, a4⟩, r2 a1, c2 a3, pk_mul, nI_add]
    show _ = nI _
    congr 1
    obtain ⟨x, hx⟩ := Int.eq_ofNat_of_zero_le a1
    obtain ⟨y, hy⟩ := Int.eq_ofNat_of_zero_le a3
    rw [hx, hy, ← Int.natCast_mul, ← Int.natCast_add]
    rfl
  · intro q
    rw [if_neg (fun z => q ⟨⟨z.1, z.2.1⟩, z.2.2.1, z.2.2.2⟩)]
    rfl
