/-! ===== the class: acts are written ===== -/
theorem gr_setR {h : hp_T} {a k : Nat} {v : Option Nat} (ha : gr_rl.all (fun q => !(q.1 == a)) = true) (g : gr h) : gr (hp_setR h a k v) := by
  refine ⟨g.1, g.2.1, fun i q hq => ?_⟩
  have h1 := List.all_eq_true.mp ha q (List.mem_of_getElem? hq)
  have h2 : ¬ q.1 = a := fun e => by rw [e] at h1; simp at h1
  show up2 (hp_r h) a k v q.1 q.2.1 = _
  rw [up2_a _ _ h2]
  exact g.2.2 i q hq
theorem gr_r162 {h : hp_T} {k : Nat} {v : Option Nat} (g : gr h) : gr (hp_setR h 162 k v) := gr_setR (by decide +kernel) g
theorem gr_r166 {h : hp_T} {k : Nat} {v : Option Nat} (g : gr h) : gr (hp_setR h 166 k v) := gr_setR (by decide +kernel) g
theorem e_X0_addPolicy (E : gE) {d : Nat} (hd : 2 ≤ d) (c oo sm : Int32) (h : hp_T) (hG : gr h) {n : Nat} (hN : hp_i h 158 0 = nI n) (hn : n < 200) : ev E mX0_addPolicy d [.ref (E.1 + 158), .int c, .int oo, .int sm] h (some (.int (nI (n + 1)))) (hp_setI (hp_setI (hp_setI (hp_setR (hp_setI (hp_setI (hp_setI h 158 0 (nI (n + 1))) 163 (n + 1) 2) 164 (n + 1) 0) 162 (n + 1) none) 160 (n + 1) c) 159 (n + 1) oo) 161 (n + 1) sm) := by
  refine ev_of rfl (fun q => absurd q (by decide)) (Nat.le_of_ble_eq_true rfl) ?_
  refine gf_aload_n 0 dX0_addPolicy_0 rfl rfl ?_
  refine gf_iconst (2) dX0_addPolicy_1 rfl ?_
  refine gf_callV cmX0_add lkX0_40 imX0_add seX0_add ⟨rfl, by decide⟩ dX0_addPolicy_2 (d1 := d - 1) (by omega) (gt_158 hG) (e_X0_add E (by omega) 2 h hG hN hn) rfl rfl (Nat.le_of_ble_eq_true rfl) ?_
  have hG : gr (hp_setR (hp_setI (hp_setI (hp_setI h 158 0 (nI (n + 1))) 163 (n + 1) 2) 164 (n + 1) 0) 162 (n + 1) none) := gr_r162 hG
  refine gf_if_eq 38 dX0_addPolicy_5 rfl (fun q => absurd q (by decide)) (fun _ => ?_)
  refine gf_aload_n 0 dX0_addPolicy_8 rfl rfl ?_
  refine gf_getR flX0_19 rfl dX0_addPolicy_9 (gt_158 hG) (gp_158_3 hG) ?_
  refine gf_aload_n 0 dX0_addPolicy_12 rfl rfl ?_
  refine gf_getI flX0_37 rfl dX0_addPolicy_13 (gt_158 hG) ?_
  refine gf_iload_n 1 dX0_addPolicy_16 rfl rfl ?_
  refine gf_iast 201 dX0_addPolicy_17 (gt_160 hG) (gl_160 hG) (j := n + 1) (by simp [hp_i, hp_setI, hp_setR, up2]) (by omega) (by decide) ?_
  refine gf_aload_n 0 dX0_addPolicy_18 rfl rfl ?_
  refine gf_getR flX0_15 rfl dX0_addPolicy_19 (gt_158 hG) (gp_158_2 hG) ?_
  refine gf_aload_n 0 dX0_addPolicy_22 rfl rfl ?_
  refine gf_getI flX0_37 rfl dX0_addPolicy_23 (gt_158 hG) ?_
  refine gf_iload_n 2 dX0_addPolicy_26 rfl rfl ?_
  refine gf_iast 201 dX0_addPolicy_27 (gt_159 hG) (gl_159 hG) (j := n + 1) (by simp [hp_i, hp_setI, hp_setR, up2]) (by omega) (by decide) ?_
  refine gf_aload_n 0 dX0_addPolicy_28 rfl rfl ?_
  refine gf_getR flX0_22 rfl dX0_addPolicy_29 (gt_158 hG) (gp_158_4 hG) ?_
  refine gf_aload_n 0 dX0_addPolicy_32 rfl rfl ?_
  refine gf_getI flX0_37 rfl dX0_addPolicy_33 (gt_158 hG) ?_
  refine gf_iload_n 3 dX0_addPolicy_36 rfl rfl ?_
  refine gf_iast 201 dX0_addPolicy_37 (gt_161 hG) (gl_161 hG) (j := n + 1) (by simp [hp_i, hp_setI, hp_setR, up2]) (by omega) (by decide) ?_
  refine gf_aload_n 0 dX0_addPolicy_38 rfl rfl ?_
  refine gf_getI flX0_37 rfl dX0_addPolicy_39 (gt_158 hG) ?_
  exact gf_iretE dX0_addPolicy_42 rfl (by simp [hp_i, hp_setI, hp_setR, up2]) (rfl)
theorem e_X0_addTerms (E : gE) {d : Nat} (hd : 2 ≤ d) (oo : Int32) {b : Nat} (h : hp_T) (hG : gr h) {n : Nat} (hN : hp_i h 158 0 = nI n) (hn : n < 200) (hb : hp_tag h b = 10) : ev E mX0_addTerms d [.ref (E.1 + 158), .int oo, .ref (E.1 + b)] h (some (.int (nI (n + 1)))) (hp_setR (hp_setI (hp_setR (hp_setI (hp_setI (hp_setI h 158 0 (nI (n + 1))) 163 (n + 1) 1) 164 (n + 1) 0) 162 (n + 1) none) 159 (n + 1) oo) 162 (n + 1) (some b)) := by
  refine ev_of rfl (fun q => absurd q (by decide)) (Nat.le_of_ble_eq_true rfl) ?_
  refine gf_aload_n 0 dX0_addTerms_0 rfl rfl ?_
  refine gf_iconst (1) dX0_addTerms_1 rfl ?_
  refine gf_callV cmX0_add lkX0_40 imX0_add seX0_add ⟨rfl, by decide⟩ dX0_addTerms_2 (d1 := d - 1) (by omega) (gt_158 hG) (e_X0_add E (by omega) 1 h hG hN hn) rfl rfl (Nat.le_of_ble_eq_true rfl) ?_
  have hG : gr (hp_setR (hp_setI (hp_setI (hp_setI h 158 0 (nI (n + 1))) 163 (n + 1) 1) 164 (n + 1) 0) 162 (n + 1) none) := gr_r162 hG
  refine gf_if_eq 28 dX0_addTerms_5 rfl (fun q => absurd q (by decide)) (fun _ => ?_)
  refine gf_aload_n 0 dX0_addTerms_8 rfl rfl ?_
  refine gf_getR flX0_15 rfl dX0_addTerms_9 (gt_158 hG) (gp_158_2 hG) ?_
  refine gf_aload_n 0 dX0_addTerms_12 rfl rfl ?_
  refine gf_getI flX0_37 rfl dX0_addTerms_13 (gt_158 hG) ?_
  refine gf_iload_n 1 dX0_addTerms_16 rfl rfl ?_
  refine gf_iast 201 dX0_addTerms_17 (gt_159 hG) (gl_159 hG) (j := n + 1) (by simp [hp_i, hp_setI, hp_setR, up2]) (by omega) (by decide) ?_
  refine gf_aload_n 0 dX0_addTerms_18 rfl rfl ?_
  refine gf_getR flX0_27 rfl dX0_addTerms_19 (gt_158 hG) (gp_158_5 hG) ?_
  refine gf_aload_n 0 dX0_addTerms_22 rfl rfl ?_
  refine gf_getI flX0_37 rfl dX0_addTerms_23 (gt_158 hG) ?_
  refine gf_aload_n 2 dX0_addTerms_26 rfl rfl ?_
  refine gf_rast 201 dX0_addTerms_27 (gt_162 hG) (by exact hb) (gl_162 hG) (j := n + 1) (by simp [hp_i, hp_setI, hp_setR, up2]) (by omega) (by decide) ?_
  have hG : gr (hp_setR (hp_setI (hp_setR (hp_setI (hp_setI (hp_setI h 158 0 (nI (n + 1))) 163 (n + 1) 1) 164 (n + 1) 0) 162 (n + 1) none) 159 (n + 1) oo) 162 (n + 1) (some b)) := gr_r162 hG
  refine gf_aload_n 0 dX0_addTerms_28 rfl rfl ?_
  refine gf_getI flX0_37 rfl dX0_addTerms_29 (gt_158 hG) ?_
  exact gf_iretE dX0_addTerms_32 rfl (by simp [hp_i, hp_setI, hp_setR, up2]) (rfl)
theorem e_X0_addVoid (E : gE) {d : Nat} (hd : 2 ≤ d) {a : Nat} (h : hp_T) (hG : gr h) {n : Nat} (hN : hp_i h 158 0 = nI n) (hn : n < 200) (ha : 1 ≤ a ∧ a ≤ n) (hP : ((1 : Int32) ≤ nI a ∧ nI a ≤ hp_i h 158 0) ∧ (¬ hp_i h 163 (nI a).toNatClampNeg = 3) ∧ hp_i h 164 (nI a).toNatClampNeg = 0) : ev E mX0_addVoid d [.ref (E.1 + 158), .int (nI a)] h (some (.int (nI (n + 1)))) (hp_setI (hp_setR (hp_setI (hp_setI (hp_setI h 158 0 (nI (n + 1))) 163 (n + 1) 3) 164 (n + 1) 0) 162 (n + 1) none) 164 a (nI (n + 1))) := by
  refine ev_of rfl (fun q => absurd q (by decide)) (Nat.le_of_ble_eq_true rfl) ?_
  refine gf_aload_n 0 dX0_addVoid_0 rfl rfl ?_
  refine gf_iload_n 1 dX0_addVoid_1 rfl rfl ?_
  refine gf_callV cmX0_mayBeVoid lkX0_44 imX0_mayBeVoid seX0_mayBeVoid ⟨rfl, by decide⟩ dX0_addVoid_2 (d1 := d - 1) (by omega) (gt_158 hG) (e_X0_mayBeVoid E (by omega) (nI a) h hG hN (by omega)) rfl rfl (Nat.le_of_ble_eq_true rfl) ?_
  refine gf_if_eq 26 dX0_addVoid_5 rfl (fun q => absurd q (zb_1.mpr hP)) (fun _ => ?_)
  refine gf_aload_n 0 dX0_addVoid_8 rfl rfl ?_
  refine gf_iconst (3) dX0_addVoid_9 rfl ?_
  refine gf_callV cmX0_add lkX0_40 imX0_add seX0_add ⟨rfl, by decide⟩ dX0_addVoid_10 (d1 := d - 1) (by omega) (gt_158 hG) (e_X0_add E (by omega) 3 h hG hN hn) rfl rfl (Nat.le_of_ble_eq_true rfl) ?_
  have hG : gr (hp_setR (hp_setI (hp_setI (hp_setI h 158 0 (nI (n + 1))) 163 (n + 1) 3) 164 (n + 1) 0) 162 (n + 1) none) := gr_r162 hG
  refine gf_if_eq 26 dX0_addVoid_13 rfl (fun q => absurd q (by decide)) (fun _ => ?_)
  refine gf_aload_n 0 dX0_addVoid_16 rfl rfl ?_
  refine gf_getR flX0_34 rfl dX0_addVoid_17 (gt_158 hG) (gp_158_7 hG) ?_
  refine gf_iload_n 1 dX0_addVoid_20 rfl rfl ?_
  refine gf_aload_n 0 dX0_addVoid_21 rfl rfl ?_
  refine gf_getI flX0_37 rfl dX0_addVoid_22 (gt_158 hG) ?_
  rw [show hp_i (hp_setR (hp_setI (hp_setI (hp_setI h 158 0 (nI (n + 1))) 163 (n + 1) 3) 164 (n + 1) 0) 162 (n + 1) none) 158 0 = nI (n + 1) from by simp [hp_i, hp_setI, hp_setR, up2]]
  refine gf_iast 201 dX0_addVoid_25 (gt_164 hG) (gl_164 hG) rfl (by omega) (by decide) ?_
  refine gf_aload_n 0 dX0_addVoid_26 rfl rfl ?_
  refine gf_getI flX0_37 rfl dX0_addVoid_27 (gt_158 hG) ?_
  exact gf_iretE dX0_addVoid_30 rfl (by simp [hp_i, hp_setI, hp_setR, up2]) (rfl)
/-! ===== the class itself: policies, engines, winds ===== -/
theorem e_X11_wind (E : gE) {d : Nat} (hd : 1 ≤ d) (t wy sg : Int32) (h : hp_T) (hG : gr h) : ev E mX11_wind d [.ref (E.1 + 0), .int t, .int wy, .int sg] h (some (.int (zb ((1 ≤ t ∧ t ≤ 120) ∧ (0 ≤ wy ∧ wy ≤ 7) ∧ (0 ≤ sg ∧ sg ≤ 20))))) (if (1 ≤ t ∧ t ≤ 120) ∧ (0 ≤ wy ∧ wy ≤ 7) ∧ (0 ≤ sg ∧ sg ≤ 20) then (rw1 (rw1 (hp_setI h 131 t.toNatClampNeg 1) 132 (wgo (hp_i (hp_setI h 131 t.toNatClampNeg 1) 131) wy (120 - t.toNatClampNeg) (t.toNatClampNeg + 1) (va_up (hp_i h 132) t.toNatClampNeg wy))) 133 (wgo (hp_i (hp_setI h 131 t.toNatClampNeg 1) 131) sg (120 - t.toNatClampNeg) (t.toNatClampNeg + 1) (va_up (hp_i h 133) t.toNatClampNeg sg))) else h) := by
  refine ev_of rfl (fun q => absurd q (by decide)) (Nat.le_of_ble_eq_true rfl) ?_
  refine gf_iload_n 1 dX11_wind_0 rfl rfl ?_
  refine gf_iconst (1) dX11_wind_1 rfl ?_
  refine gf_bipush (120) dX11_wind_2 rfl ?_
  refine gf_callS cmX11_within lkX11_105 stX11_within dX11_wind_4 (d1 := d - 1) (by omega) (e_X11_within E (by omega) _ _ _ h) rfl rfl (Nat.le_of_ble_eq_true rfl) ?_
  refine gf_if_eq 30 dX11_wind_7 rfl (fun zc7 => ?_) (fun zc7 => ?_)
  · refine gf_iconst (0) dX11_wind_30 rfl ?_
    exact gf_zretE dX11_wind_31 rfl (rfl) ((zb_f (fun q => zb_0.mp zc7 q.1)).symm) ((if_neg (fun q => zb_0.mp zc7 q.1)).symm)
  · refine gf_iload_n 2 dX11_wind_10 rfl rfl ?_
    refine gf_iconst (0) dX11_wind_11 rfl ?_
    refine gf_bipush (7) dX11_wind_12 rfl ?_
    refine gf_callS cmX11_within lkX11_105 stX11_within dX11_wind_14 (d1 := d - 1) (by omega) (e_X11_within E (by omega) _ _ _ h) rfl rfl (Nat.le_of_ble_eq_true rfl) ?_
    refine gf_if_eq 30 dX11_wind_17 rfl (fun zc17 => ?_) (fun zc17 => ?_)
    · refine gf_iconst (0) dX11_wind_30 rfl ?_
      exact gf_zretE dX11_wind_31 rfl (rfl) ((zb_f (fun q => zb_0.mp zc17 q.2.1)).symm) ((if_neg (fun q => zb_0.mp zc17 q.2.1)).symm)
    · refine gf_iload_n 3 dX11_wind_20 rfl rfl ?_
      refine gf_iconst (0) dX11_wind_21 rfl ?_
      refine gf_bipush (20) dX11_wind_22 rfl ?_
      refine gf_callS cmX11_within lkX11_105 stX11_within dX11_wind_24 (d1 := d - 1) (by omega) (e_X11_within E (by omega) _ _ _ h) rfl rfl (Nat.le_of_ble_eq_true rfl) ?_
      refine gf_if_ne 32 dX11_wind_27 rfl (fun zc27 => ?_) (fun zc27 => ?_)
      · refine gf_aload_n 0 dX11_wind_32 rfl rfl ?_
        refine gf_getR flX11_10 rfl dX11_wind_33 (gt_0 hG) (gp_0_0 hG) ?_
        refine gf_iload_n 1 dX11_wind_36 rfl rfl ?_
        refine gf_iload_n 2 dX11_wind_37 rfl rfl ?_
        refine gf_iload_n 3 dX11_wind_38 rfl rfl ?_
        have q := zb_1.mp zc7
        have q0 : 1 ≤ t.toInt ∧ t.toInt ≤ 120 := by simp only [fa_le, ti_1, ti_120] at q; exact q
        have hte : t = nI t.toNatClampNeg := ix_nI (by omega)
        have hl9 : t.toNatClampNeg < 121 := ix_lt (by omega) (by omega)
        have hg9 : t.toInt = (t.toNatClampNeg : Int) := (congrArg Int32.toInt hte).trans (ti_nI (by omega))
        have hlt : 1 ≤ t.toNatClampNeg ∧ t.toNatClampNeg ≤ 120 := ⟨by omega, by omega⟩
        refine gf_callV cmX1_tellWind lkX11_139 imX1_tellWind seX1_tellWind ⟨rfl, by decide⟩ dX11_wind_39 (d1 := d - 1) (by omega) (gt_1 hG) (ev_aE (by rw [← hte]) (e_X1_tellWind E (by omega) (t0 := t.toNatClampNeg) wy sg h hG hlt)) rfl rfl (Nat.le_of_ble_eq_true rfl) ?_
        refine gf_iconst (1) dX11_wind_42 rfl ?_
        exact gf_zretE dX11_wind_43 rfl (rfl) ((zb_t ⟨zb_1.mp zc7, zb_1.mp zc17, zb_1.mp zc27⟩).symm) ((if_pos ⟨zb_1.mp zc7, zb_1.mp zc17, zb_1.mp zc27⟩).symm)
      · refine gf_iconst (0) dX11_wind_30 rfl ?_
        exact gf_zretE dX11_wind_31 rfl (rfl) ((zb_f (fun q => zb_0.mp zc27 q.2.2)).symm) ((if_neg (fun q => zb_0.mp zc27 q.2.2)).symm)
