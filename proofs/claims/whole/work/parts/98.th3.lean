/-! ===== constructors, 3 ===== -/
theorem n_X8_243 (E : gE) {d : Nat} (hd : 3 ≤ d) {h0 : hp_T} (W0 : wS 244 11776 103 (wF wLa zF9 2) h0) : ∃ h1, ev E mX8_init d [.ref (E.1 + 243), .ref (E.1 + 145), .ref (E.1 + 193)] h0 none h1 ∧ (wS 247 11790 108 (wF wLa zF9 2)) h1 := by
  obtain ⟨h1, k1, W1⟩ := n_X8_243_p0 E hd W0
  exact ⟨h1, ev_of rfl (fun _ => rfl) (Nat.le_of_ble_eq_true rfl) k1, W1⟩
theorem n_X11_0_p120 (E : gE) {d : Nat} (hd : 4 ≤ d) {h0 : hp_T} (W0 : wS 193 9431 72 (wF wLa zF9 2) h0) : gq E mX11_init d 120 [(0, .ref (E.1 + 0))] [] h0 none (fun h9 => ∃ hA, h9 = layH 1 1 hA ∧ wS 247 11790 109 (wF wLa zF9 2) hA) := by
  refine gq_st (f := fun _ kk => gf_aload_n 0 dX11_init_120 rfl rfl kk) ?_
  refine gq_st (f := fun _ kk => gf_new 5 (by decide) nw_X11_53 ni_X5 icX5 dX11_init_121 kk) ?_
  rw [W0.1.1]
  have W1 : wS 194 9447 72 (wF wLa zF9 2) (hp_new h0 5 0 (hp_N 5)) := w_new W0 (t := 5) (len := 0) rfl rfl rfl
  generalize hp_new h0 5 0 (hp_N 5) = h1 at W1 ⊢
  refine gq_st (f := fun _ kk => gf_dup dX11_init_124 rfl kk) ?_
  refine gq_st (f := fun _ kk => gf_aload_n 0 dX11_init_125 rfl rfl kk) ?_
  refine gq_st (f := fun _ kk => gf_getR flX11_10 rfl dX11_init_126 (w_tag W1 (by decide) (rfl : gr_tl[0]? = some (11, 0))) (w_ptr W1 (show rF 72 0 0 = some 1 by decide +kernel)) kk) ?_
  refine gq_st (f := fun _ kk => gf_aload_n 0 dX11_init_129 rfl rfl kk) ?_
  refine gq_st (f := fun _ kk => gf_getR flX11_19 rfl dX11_init_130 (w_tag W1 (by decide) (rfl : gr_tl[0]? = some (11, 0))) (w_ptr W1 (show rF 72 0 1 = some 145 by decide +kernel)) kk) ?_
  obtain ⟨h2, k2, W2⟩ := n_X5_193 E (d := d - 1) (by omega) W1
  refine gq_st (f := fun _ kk => gf_callI cmX5_init rfl lkX11_55 imX5_init rfl dX11_init_133 (d1 := d - 1) (by omega) k2 rfl rfl (Nat.le_of_ble_eq_true rfl) kk) ?_
  refine gq_st (f := fun _ kk => gf_putRF flX11_71 rfl rfl rfl rfl dX11_init_136 (w_tag W2 (by decide) (rfl : gr_tl[0]? = some (11, 0))) ⟨rfl, rfl⟩ kk) ?_
  have W3 : wS 205 10443 86 (wF wLa zF9 2) (hp_setR h2 0 8 (some 193)) := w_ref W2 (by decide) rfl rfl
  generalize hp_setR h2 0 8 (some 193) = h3 at W3 ⊢
  refine gq_st (f := fun _ kk => gf_aload_n 0 dX11_init_139 rfl rfl kk) ?_
  refine gq_st (f := fun _ kk => gf_new 2 (by decide) nw_X11_62 ni_X2 icX2 dX11_init_140 kk) ?_
  rw [W3.1.1]
  have W4 : wS 206 10453 86 (wF wLa zF9 2) (hp_new h3 2 0 (hp_N 2)) := w_new W3 (t := 2) (len := 0) rfl rfl rfl
  generalize hp_new h3 2 0 (hp_N 2) = h4 at W4 ⊢
  refine gq_st (f := fun _ kk => gf_dup dX11_init_143 rfl kk) ?_
  refine gq_st (f := fun _ kk => gf_aload_n 0 dX11_init_144 rfl rfl kk) ?_
  refine gq_st (f := fun _ kk => gf_getR flX11_33 rfl dX11_init_145 (w_tag W4 (by decide) (rfl : gr_tl[0]? = some (11, 0))) (w_ptr W4 (show rF 86 0 3 = some 158 by decide +kernel)) kk) ?_
  refine gq_st (f := fun _ kk => gf_aload_n 0 dX11_init_148 rfl rfl kk) ?_
  refine gq_st (f := fun _ kk => gf_getR flX11_40 rfl dX11_init_149 (w_tag W4 (by decide) (rfl : gr_tl[0]? = some (11, 0))) (w_ptr W4 (show rF 86 0 4 = some 165 by decide +kernel)) kk) ?_
  refine gq_st (f := fun _ kk => gf_aload_n 0 dX11_init_152 rfl rfl kk) ?_
  refine gq_st (f := fun _ kk => gf_getR flX11_49 rfl dX11_init_153 (w_tag W4 (by decide) (rfl : gr_tl[0]? = some (11, 0))) (w_ptr W4 (show rF 86 0 5 = some 171 by decide +kernel)) kk) ?_
  obtain ⟨h5, k5, W5⟩ := n_X2_205 E (d := d - 1) (by omega) W4
  refine gq_st (f := fun _ kk => gf_callI cmX2_init rfl lkX11_64 imX2_init rfl dX11_init_156 (d1 := d - 1) (by omega) k5 rfl rfl (Nat.le_of_ble_eq_true rfl) kk) ?_
  refine gq_st (f := fun _ kk => gf_putRF flX11_74 rfl rfl rfl rfl dX11_init_159 (w_tag W5 (by decide) (rfl : gr_tl[0]? = some (11, 0))) ⟨rfl, rfl⟩ kk) ?_
  have W6 : wS 212 11465 96 (wF wLa zF9 2) (hp_setR h5 0 9 (some 205)) := w_ref W5 (by decide) rfl rfl
  generalize hp_setR h5 0 9 (some 205) = h6 at W6 ⊢
  refine gq_st (f := fun _ kk => gf_aload_n 0 dX11_init_162 rfl rfl kk) ?_
  refine gq_st (f := fun _ kk => gf_new 4 (by decide) nw_X11_77 ni_X4 icX4 dX11_init_163 kk) ?_
  rw [W6.1.1]
  have W7 : wS 213 11469 96 (wF wLa zF9 2) (hp_new h6 4 0 (hp_N 4)) := w_new W6 (t := 4) (len := 0) rfl rfl rfl
  generalize hp_new h6 4 0 (hp_N 4) = h7 at W7 ⊢
  refine gq_st (f := fun _ kk => gf_dup dX11_init_166 rfl kk) ?_
  obtain ⟨h8, k8, W8⟩ := n_X4_212 E (d := d - 1) (by omega) W7
  refine gq_st (f := fun _ kk => gf_callIN cmX4_init rfl lkX11_79 imX4_init rfl dX11_init_167 (d1 := d - 1) (by omega) k8 rfl rfl (Nat.le_of_ble_eq_true rfl) kk) ?_
  refine gq_st (f := fun _ kk => gf_putRF flX11_80 rfl rfl rfl rfl dX11_init_170 (w_tag W8 (by decide) (rfl : gr_tl[0]? = some (11, 0))) ⟨rfl, rfl⟩ kk) ?_
  have W9 : wS 243 11766 103 (wF wLa zF9 2) (hp_setR h8 0 10 (some 212)) := w_ref W8 (by decide) rfl rfl
  generalize hp_setR h8 0 10 (some 212) = h9 at W9 ⊢
  refine gq_st (f := fun _ kk => gf_aload_n 0 dX11_init_173 rfl rfl kk) ?_
  refine gq_st (f := fun _ kk => gf_new 8 (by decide) nw_X11_84 ni_X8 icX8 dX11_init_174 kk) ?_
  rw [W9.1.1]
  have W10 : wS 244 11776 103 (wF wLa zF9 2) (hp_new h9 8 0 (hp_N 8)) := w_new W9 (t := 8) (len := 0) rfl rfl rfl
  generalize hp_new h9 8 0 (hp_N 8) = h10 at W10 ⊢
  refine gq_st (f := fun _ kk => gf_dup dX11_init_177 rfl kk) ?_
  refine gq_st (f := fun _ kk => gf_aload_n 0 dX11_init_178 rfl rfl kk) ?_
  refine gq_st (f := fun _ kk => gf_getR flX11_19 rfl dX11_init_179 (w_tag W10 (by decide) (rfl : gr_tl[0]? = some (11, 0))) (w_ptr W10 (show rF 103 0 1 = some 145 by decide +kernel)) kk) ?_
  refine gq_st (f := fun _ kk => gf_aload_n 0 dX11_init_182 rfl rfl kk) ?_
  refine gq_st (f := fun _ kk => gf_getR flX11_71 rfl dX11_init_183 (w_tag W10 (by decide) (rfl : gr_tl[0]? = some (11, 0))) (w_ptr W10 (show rF 103 0 8 = some 193 by decide +kernel)) kk) ?_
  obtain ⟨h11, k11, W11⟩ := n_X8_243 E (d := d - 1) (by omega) W10
  refine gq_st (f := fun _ kk => gf_callI cmX8_init rfl lkX11_86 imX8_init rfl dX11_init_186 (d1 := d - 1) (by omega) k11 rfl rfl (Nat.le_of_ble_eq_true rfl) kk) ?_
  refine gq_st (f := fun _ kk => gf_putRF flX11_89 rfl rfl rfl rfl dX11_init_189 (w_tag W11 (by decide) (rfl : gr_tl[0]? = some (11, 0))) ⟨rfl, rfl⟩ kk) ?_
  have W12 : wS 247 11790 109 (wF wLa zF9 2) (hp_setR h11 0 11 (some 243)) := w_ref W11 (by decide) rfl rfl
  generalize hp_setR h11 0 11 (some 243) = h12 at W12 ⊢
  refine gq_st (f := fun _ kk => gf_aload_n 0 dX11_init_192 rfl rfl kk) ?_
  refine gq_st (f := fun _ kk => gf_getR flX11_10 rfl dX11_init_193 (w_tag W12 (by decide) (rfl : gr_tl[0]? = some (11, 0))) (w_ptr W12 (show rF 109 0 0 = some 1 by decide +kernel)) kk) ?_
  refine gq_st (f := fun _ kk => gf_iconst (1) dX11_init_196 rfl kk) ?_
  refine gq_st (f := fun _ kk => gf_iconst (1) dX11_init_197 rfl kk) ?_
  have gC : grC h12 := w_grC W12 (by decide +kernel)
  refine gq_st (f := fun _ kk => gf_callV cmX1_lay lkX11_93 imX1_lay seX1_lay ⟨rfl, by decide⟩ dX11_init_198 (d1 := d - 1) (by omega) (w_tag W12 (by decide) (rfl : gr_tl[1]? = some (1, 0))) (e_X1_layC E (by omega) (w := 1) (g := 1) h12 gC (by decide) (by decide) (by decide)) rfl rfl (Nat.le_of_ble_eq_true rfl) kk) ?_
  exact ⟨_, gf_vretE dX11_init_201 rfl rfl, h12, rfl, W12⟩
theorem n_X11_0_p0 (E : gE) {d : Nat} (hd : 4 ≤ d) {h0 : hp_T} (W0 : wS 1 12 0 (wF wLa zF9 0) h0) : gq E mX11_init d 0 [(0, .ref (E.1 + 0))] [] h0 none (fun h9 => ∃ hA, h9 = layH 1 1 hA ∧ wS 247 11790 109 (wF wLa zF9 2) hA) := by
  refine gq_st (f := fun _ kk => gf_aload_n 0 dX11_init_0 rfl rfl kk) ?_
  refine gq_st (f := fun _ kk => gf_objInit lkX11_1 kObj.1 kObj.2 dX11_init_1 (by omega) (Nat.le_of_ble_eq_true rfl) kk) ?_
  refine gq_st (f := fun _ kk => gf_aload_n 0 dX11_init_4 rfl rfl kk) ?_
  refine gq_st (f := fun _ kk => gf_new 1 (by decide) nw_X11_7 ni_X1 icX1 dX11_init_5 kk) ?_
  rw [W0.1.1]
  have W1 : wS 2 29 0 (wF wLa zF9 0) (hp_new h0 1 0 (hp_N 1)) := w_new W0 (t := 1) (len := 0) rfl rfl rfl
  generalize hp_new h0 1 0 (hp_N 1) = h1 at W1 ⊢
  refine gq_st (f := fun _ kk => gf_dup dX11_init_8 rfl kk) ?_
  obtain ⟨h2, k2, W2⟩ := n_X1_1 E (d := d - 1) (by omega) W1
  refine gq_st (f := fun _ kk => gf_callIN cmX1_init rfl lkX11_9 imX1_init rfl dX11_init_9 (d1 := d - 1) (by omega) k2 rfl rfl (Nat.le_of_ble_eq_true rfl) kk) ?_
  refine gq_st (f := fun _ kk => gf_putRF flX11_10 rfl rfl rfl rfl dX11_init_12 (w_tag W2 (by decide) (rfl : gr_tl[0]? = some (11, 0))) ⟨rfl, rfl⟩ kk) ?_
  have W3 : wS 145 2417 17 (wF wLa zF9 0) (hp_setR h2 0 0 (some 1)) := w_ref W2 (by decide) rfl rfl
  generalize hp_setR h2 0 0 (some 1) = h3 at W3 ⊢
  refine gq_st (f := fun _ kk => gf_aload_n 0 dX11_init_15 rfl rfl kk) ?_
  refine gq_st (f := fun _ kk => gf_new 3 (by decide) nw_X11_16 ni_X3 icX3 dX11_init_16 kk) ?_
  rw [W3.1.1]
  have W4 : wS 146 2422 17 (wF wLa zF9 0) (hp_new h3 3 0 (hp_N 3)) := w_new W3 (t := 3) (len := 0) rfl rfl rfl
  generalize hp_new h3 3 0 (hp_N 3) = h4 at W4 ⊢
  refine gq_st (f := fun _ kk => gf_dup dX11_init_19 rfl kk) ?_
  obtain ⟨h5, k5, W5⟩ := n_X3_145 E (d := d - 1) (by omega) W4
  refine gq_st (f := fun _ kk => gf_callIN cmX3_init rfl lkX11_18 imX3_init rfl dX11_init_20 (d1 := d - 1) (by omega) k5 rfl rfl (Nat.le_of_ble_eq_true rfl) kk) ?_
  refine gq_st (f := fun _ kk => gf_putRF flX11_19 rfl rfl rfl rfl dX11_init_23 (w_tag W5 (by decide) (rfl : gr_tl[0]? = some (11, 0))) ⟨rfl, rfl⟩ kk) ?_
  have W6 : wS 150 2470 22 (wF wLa zF9 0) (hp_setR h5 0 1 (some 145)) := w_ref W5 (by decide) rfl rfl
  generalize hp_setR h5 0 1 (some 145) = h6 at W6 ⊢
  refine gq_st (f := fun _ kk => gf_aload_n 0 dX11_init_26 rfl rfl kk) ?_
  refine gq_st (f := fun _ kk => gf_new 9 (by decide) nw_X11_23 ni_X9 icX9 dX11_init_27 kk) ?_
  rw [W6.1.1]
  have W7 : wS 151 2484 22 (wF wLa zF9 0) (hp_new h6 9 0 (hp_N 9)) := w_new W6 (t := 9) (len := 0) rfl rfl rfl
  generalize hp_new h6 9 0 (hp_N 9) = h7 at W7 ⊢
  refine gq_st (f := fun _ kk => gf_dup dX11_init_30 rfl kk) ?_
  obtain ⟨h8, k8, W8⟩ := n_X9_150 E (d := d - 1) (by omega) W7
  refine gq_st (f := fun _ kk => gf_callIN cmX9_init rfl lkX11_25 imX9_init rfl dX11_init_31 (d1 := d - 1) (by omega) k8 rfl rfl (Nat.le_of_ble_eq_true rfl) kk) ?_
  refine gq_st (f := fun _ kk => gf_putRF flX11_26 rfl rfl rfl rfl dX11_init_34 (w_tag W8 (by decide) (rfl : gr_tl[0]? = some (11, 0))) ⟨rfl, rfl⟩ kk) ?_
  have W9 : wS 158 5532 30 (wF wLa zF9 1) (hp_setR h8 0 2 (some 150)) := w_ref W8 (by decide) rfl rfl
  generalize hp_setR h8 0 2 (some 150) = h9 at W9 ⊢
  refine gq_st (f := fun _ kk => gf_aload_n 0 dX11_init_37 rfl rfl kk) ?_
  refine gq_st (f := fun _ kk => gf_new 0 (by decide) nw_X11_30 ni_X0 icX0 dX11_init_38 kk) ?_
  rw [W9.1.1]
  have W10 : wS 159 5540 30 (wF wLa zF9 1) (hp_new h9 0 0 (hp_N 0)) := w_new W9 (t := 0) (len := 0) rfl rfl rfl
  generalize hp_new h9 0 0 (hp_N 0) = h10 at W10 ⊢
  refine gq_st (f := fun _ kk => gf_dup dX11_init_41 rfl kk) ?_
  obtain ⟨h11, k11, W11⟩ := n_X0_158 E (d := d - 1) (by omega) W10
  refine gq_st (f := fun _ kk => gf_callIN cmX0_init rfl lkX11_32 imX0_init rfl dX11_init_42 (d1 := d - 1) (by omega) k11 rfl rfl (Nat.le_of_ble_eq_true rfl) kk) ?_
  refine gq_st (f := fun _ kk => gf_putRF flX11_33 rfl rfl rfl rfl dX11_init_45 (w_tag W11 (by decide) (rfl : gr_tl[0]? = some (11, 0))) ⟨rfl, rfl⟩ kk) ?_
  have W12 : wS 165 6746 37 (wF wLa zF9 2) (hp_setR h11 0 3 (some 158)) := w_ref W11 (by decide) rfl rfl
  generalize hp_setR h11 0 3 (some 158) = h12 at W12 ⊢
  refine gq_st (f := fun _ kk => gf_aload_n 0 dX11_init_48 rfl rfl kk) ?_
  refine gq_st (f := fun _ kk => gf_new 7 (by decide) nw_X11_37 ni_X7 icX7 dX11_init_49 kk) ?_
  rw [W12.1.1]
  have W13 : wS 166 6752 37 (wF wLa zF9 2) (hp_new h12 7 0 (hp_N 7)) := w_new W12 (t := 7) (len := 0) rfl rfl rfl
  generalize hp_new h12 7 0 (hp_N 7) = h13 at W13 ⊢
  refine gq_st (f := fun _ kk => gf_dup dX11_init_52 rfl kk) ?_
  obtain ⟨h14, k14, W14⟩ := n_X7_165 E (d := d - 1) (by omega) W13
  refine gq_st (f := fun _ kk => gf_callIN cmX7_init rfl lkX11_39 imX7_init rfl dX11_init_53 (d1 := d - 1) (by omega) k14 rfl rfl (Nat.le_of_ble_eq_true rfl) kk) ?_
  refine gq_st (f := fun _ kk => gf_putRF flX11_40 rfl rfl rfl rfl dX11_init_56 (w_tag W14 (by decide) (rfl : gr_tl[0]? = some (11, 0))) ⟨rfl, rfl⟩ kk) ?_
  have W15 : wS 171 7321 43 (wF wLa zF9 2) (hp_setR h14 0 4 (some 165)) := w_ref W14 (by decide) rfl rfl
  generalize hp_setR h14 0 4 (some 165) = h15 at W15 ⊢
  refine gq_st (f := fun _ kk => gf_aload_n 0 dX11_init_59 rfl rfl kk) ?_
  refine gq_st (f := fun _ kk => gf_new 6 (by decide) nw_X11_44 ni_X6 icX6 dX11_init_60 kk) ?_
  rw [W15.1.1]
  have W16 : wS 172 7326 43 (wF wLa zF9 2) (hp_new h15 6 0 (hp_N 6)) := w_new W15 (t := 6) (len := 0) rfl rfl rfl
  generalize hp_new h15 6 0 (hp_N 6) = h16 at W16 ⊢
  refine gq_st (f := fun _ kk => gf_dup dX11_init_63 rfl kk) ?_
  refine gq_st (f := fun _ kk => gf_aload_n 0 dX11_init_64 rfl rfl kk) ?_
  refine gq_st (f := fun _ kk => gf_getR flX11_10 rfl dX11_init_65 (w_tag W16 (by decide) (rfl : gr_tl[0]? = some (11, 0))) (w_ptr W16 (show rF 43 0 0 = some 1 by decide +kernel)) kk) ?_
  refine gq_st (f := fun _ kk => gf_aload_n 0 dX11_init_68 rfl rfl kk) ?_
  refine gq_st (f := fun _ kk => gf_getR flX11_40 rfl dX11_init_69 (w_tag W16 (by decide) (rfl : gr_tl[0]? = some (11, 0))) (w_ptr W16 (show rF 43 0 4 = some 165 by decide +kernel)) kk) ?_
  obtain ⟨h17, k17, W17⟩ := n_X6_171 E (d := d - 1) (by omega) W16
  refine gq_st (f := fun _ kk => gf_callI cmX6_init rfl lkX11_46 imX6_init rfl dX11_init_72 (d1 := d - 1) (by omega) k17 rfl rfl (Nat.le_of_ble_eq_true rfl) kk) ?_
  refine gq_st (f := fun _ kk => gf_putRF flX11_49 rfl rfl rfl rfl dX11_init_75 (w_tag W17 (by decide) (rfl : gr_tl[0]? = some (11, 0))) ⟨rfl, rfl⟩ kk) ?_
  have W18 : wS 174 7397 48 (wF wLa zF9 2) (hp_setR h17 0 5 (some 171)) := w_ref W17 (by decide) rfl rfl
  generalize hp_setR h17 0 5 (some 171) = h18 at W18 ⊢
  refine gq_st (f := fun _ kk => gf_aload_n 0 dX11_init_78 rfl rfl kk) ?_
  refine gq_st (f := fun _ kk => gf_new 5 (by decide) nw_X11_53 ni_X5 icX5 dX11_init_79 kk) ?_
  rw [W18.1.1]
  have W19 : wS 175 7413 48 (wF wLa zF9 2) (hp_new h18 5 0 (hp_N 5)) := w_new W18 (t := 5) (len := 0) rfl rfl rfl
  generalize hp_new h18 5 0 (hp_N 5) = h19 at W19 ⊢
  refine gq_st (f := fun _ kk => gf_dup dX11_init_82 rfl kk) ?_
  refine gq_st (f := fun _ kk => gf_aload_n 0 dX11_init_83 rfl rfl kk) ?_
  refine gq_st (f := fun _ kk => gf_getR flX11_10 rfl dX11_init_84 (w_tag W19 (by decide) (rfl : gr_tl[0]? = some (11, 0))) (w_ptr W19 (show rF 48 0 0 = some 1 by decide +kernel)) kk) ?_
  refine gq_st (f := fun _ kk => gf_aload_n 0 dX11_init_87 rfl rfl kk) ?_
  refine gq_st (f := fun _ kk => gf_getR flX11_19 rfl dX11_init_88 (w_tag W19 (by decide) (rfl : gr_tl[0]? = some (11, 0))) (w_ptr W19 (show rF 48 0 1 = some 145 by decide +kernel)) kk) ?_
  obtain ⟨h20, k20, W20⟩ := n_X5_174 E (d := d - 1) (by omega) W19
  refine gq_st (f := fun _ kk => gf_callI cmX5_init rfl lkX11_55 imX5_init rfl dX11_init_91 (d1 := d - 1) (by omega) k20 rfl rfl (Nat.le_of_ble_eq_true rfl) kk) ?_
  refine gq_st (f := fun _ kk => gf_putRF flX11_58 rfl rfl rfl rfl dX11_init_94 (w_tag W20 (by decide) (rfl : gr_tl[0]? = some (11, 0))) ⟨rfl, rfl⟩ kk) ?_
  have W21 : wS 186 8409 62 (wF wLa zF9 2) (hp_setR h20 0 6 (some 174)) := w_ref W20 (by decide) rfl rfl
  generalize hp_setR h20 0 6 (some 174) = h21 at W21 ⊢
  refine gq_st (f := fun _ kk => gf_aload_n 0 dX11_init_97 rfl rfl kk) ?_
  refine gq_st (f := fun _ kk => gf_new 2 (by decide) nw_X11_62 ni_X2 icX2 dX11_init_98 kk) ?_
  rw [W21.1.1]
  have W22 : wS 187 8419 62 (wF wLa zF9 2) (hp_new h21 2 0 (hp_N 2)) := w_new W21 (t := 2) (len := 0) rfl rfl rfl
  generalize hp_new h21 2 0 (hp_N 2) = h22 at W22 ⊢
  refine gq_st (f := fun _ kk => gf_dup dX11_init_101 rfl kk) ?_
  refine gq_st (f := fun _ kk => gf_aload_n 0 dX11_init_102 rfl rfl kk) ?_
  refine gq_st (f := fun _ kk => gf_getR flX11_33 rfl dX11_init_103 (w_tag W22 (by decide) (rfl : gr_tl[0]? = some (11, 0))) (w_ptr W22 (show rF 62 0 3 = some 158 by decide +kernel)) kk) ?_
  refine gq_st (f := fun _ kk => gf_aload_n 0 dX11_init_106 rfl rfl kk) ?_
  refine gq_st (f := fun _ kk => gf_getR flX11_40 rfl dX11_init_107 (w_tag W22 (by decide) (rfl : gr_tl[0]? = some (11, 0))) (w_ptr W22 (show rF 62 0 4 = some 165 by decide +kernel)) kk) ?_
  refine gq_st (f := fun _ kk => gf_aload_n 0 dX11_init_110 rfl rfl kk) ?_
  refine gq_st (f := fun _ kk => gf_getR flX11_49 rfl dX11_init_111 (w_tag W22 (by decide) (rfl : gr_tl[0]? = some (11, 0))) (w_ptr W22 (show rF 62 0 5 = some 171 by decide +kernel)) kk) ?_
  obtain ⟨h23, k23, W23⟩ := n_X2_186 E (d := d - 1) (by omega) W22
  refine gq_st (f := fun _ kk => gf_callI cmX2_init rfl lkX11_64 imX2_init rfl dX11_init_114 (d1 := d - 1) (by omega) k23 rfl rfl (Nat.le_of_ble_eq_true rfl) kk) ?_
  refine gq_st (f := fun _ kk => gf_putRF flX11_67 rfl rfl rfl rfl dX11_init_117 (w_tag W23 (by decide) (rfl : gr_tl[0]? = some (11, 0))) ⟨rfl, rfl⟩ kk) ?_
  have W24 : wS 193 9431 72 (wF wLa zF9 2) (hp_setR h23 0 7 (some 186)) := w_ref W23 (by decide) rfl rfl
  generalize hp_setR h23 0 7 (some 186) = h24 at W24 ⊢
  exact n_X11_0_p120 E hd W24
theorem n_X11_0 (E : gE) {d : Nat} (hd : 4 ≤ d) {h0 : hp_T} (W0 : wS 1 12 0 (wF wLa zF9 0) h0) : ∃ h1, ev E mX11_init d [.ref (E.1 + 0)] h0 none h1 ∧ (fun h9 => ∃ hA, h9 = layH 1 1 hA ∧ wS 247 11790 109 (wF wLa zF9 2) hA) h1 := by
  obtain ⟨h1, k1, W1⟩ := n_X11_0_p0 E hd W0
  exact ⟨h1, ev_of rfl (fun _ => rfl) (Nat.le_of_ble_eq_true rfl) k1, W1⟩
theorem n_X12_247_p1188 (E : gE) {d : Nat} (hd : 3 ≤ d) {h0 : hp_T} {f9 : Nat → Nat → Int32} (W0 : wS 332 163074 193 (wF wLb f9 102) h0) : gq E mX12_init d 1188 [(0, .ref (E.1 + 247))] [] h0 none (wS 333 163077 194 (wF wLb f9 102)) := by
  refine gq_st (f := fun _ kk => gf_aload_n 0 dX12_init_1188 rfl rfl kk) ?_
  refine gq_st (f := fun _ kk => gf_iconst (3) dX12_init_1189 rfl kk) ?_
  refine gq_st (f := fun _ kk => gf_newa (atype := .int) 14 3 (by decide) rfl na_int rfl (by decide) dX12_init_1190 kk) ?_
  rw [W0.1.1]
  have W1 : wS 333 163077 193 (wF wLb f9 102) (hp_new h0 14 3 3) := w_new W0 (t := 14) (len := 3) rfl rfl rfl
  generalize hp_new h0 14 3 3 = h1 at W1 ⊢
  refine gq_st (f := fun _ kk => gf_putRF flX12_279 rfl rfl rfl rfl dX12_init_1192 (w_tag W1 (by decide) (rfl : gr_tl[247]? = some (12, 0))) ⟨rfl, rfl⟩ kk) ?_
  have W2 : wS 333 163077 194 (wF wLb f9 102) (hp_setR h1 247 113 (some 332)) := w_ref W1 (by decide) rfl rfl
  generalize hp_setR h1 247 113 (some 332) = h2 at W2 ⊢
  exact ⟨_, gf_vretE dX12_init_1195 rfl rfl, W2⟩
theorem n_X12_247_p1097 (E : gE) {d : Nat} (hd : 3 ≤ d) {h0 : hp_T} {f9 : Nat → Nat → Int32} (W0 : wS 321 162036 182 (wF wLb f9 102) h0) : gq E mX12_init d 1097 [(0, .ref (E.1 + 247))] [] h0 none (wS 333 163077 194 (wF wLb f9 102)) := by
  refine gq_st (f := fun _ kk => gf_aload_n 0 dX12_init_1097 rfl rfl kk) ?_
  refine gq_st (f := fun _ kk => gf_bipush (120) dX12_init_1098 rfl kk) ?_
  refine gq_st (f := fun _ kk => gf_newa (atype := .int) 14 120 (by decide) rfl na_int rfl (by decide) dX12_init_1100 kk) ?_
  rw [W0.1.1]
  have W1 : wS 322 162156 182 (wF wLb f9 102) (hp_new h0 14 120 120) := w_new W0 (t := 14) (len := 120) rfl rfl rfl
  generalize hp_new h0 14 120 120 = h1 at W1 ⊢
  refine gq_st (f := fun _ kk => gf_putRF flX12_246 rfl rfl rfl rfl dX12_init_1102 (w_tag W1 (by decide) (rfl : gr_tl[247]? = some (12, 0))) ⟨rfl, rfl⟩ kk) ?_
  have W2 : wS 322 162156 183 (wF wLb f9 102) (hp_setR h1 247 99 (some 321)) := w_ref W1 (by decide) rfl rfl
  generalize hp_setR h1 247 99 (some 321) = h2 at W2 ⊢
  refine gq_st (f := fun _ kk => gf_aload_n 0 dX12_init_1105 rfl rfl kk) ?_
  refine gq_st (f := fun _ kk => gf_bipush (12) dX12_init_1106 rfl kk) ?_
  refine gq_st (f := fun _ kk => gf_newa (atype := .int) 14 12 (by decide) rfl na_int rfl (by decide) dX12_init_1108 kk) ?_
  rw [W2.1.1]
  have W3 : wS 323 162168 183 (wF wLb f9 102) (hp_new h2 14 12 12) := w_new W2 (t := 14) (len := 12) rfl rfl rfl
  generalize hp_new h2 14 12 12 = h3 at W3 ⊢
  refine gq_st (f := fun _ kk => gf_putRF flX12_249 rfl rfl rfl rfl dX12_init_1110 (w_tag W3 (by decide) (rfl : gr_tl[247]? = some (12, 0))) ⟨rfl, rfl⟩ kk) ?_
  have W4 : wS 323 162168 184 (wF wLb f9 102) (hp_setR h3 247 100 (some 322)) := w_ref W3 (by decide) rfl rfl
  generalize hp_setR h3 247 100 (some 322) = h4 at W4 ⊢
  refine gq_st (f := fun _ kk => gf_aload_n 0 dX12_init_1113 rfl rfl kk) ?_
  refine gq_st (f := fun _ kk => gf_bipush (12) dX12_init_1114 rfl kk) ?_
  refine gq_st (f := fun _ kk => gf_newa (atype := .int) 14 12 (by decide) rfl na_int rfl (by decide) dX12_init_1116 kk) ?_
  rw [W4.1.1]
  have W5 : wS 324 162180 184 (wF wLb f9 102) (hp_new h4 14 12 12) := w_new W4 (t := 14) (len := 12) rfl rfl rfl
  generalize hp_new h4 14 12 12 = h5 at W5 ⊢
  refine gq_st (f := fun _ kk => gf_putRF flX12_252 rfl rfl rfl rfl dX12_init_1118 (w_tag W5 (by decide) (rfl : gr_tl[247]? = some (12, 0))) ⟨rfl, rfl⟩ kk) ?_
  have W6 : wS 324 162180 185 (wF wLb f9 102) (hp_setR h5 247 101 (some 323)) := w_ref W5 (by decide) rfl rfl
  generalize hp_setR h5 247 101 (some 323) = h6 at W6 ⊢
  refine gq_st (f := fun _ kk => gf_aload_n 0 dX12_init_1121 rfl rfl kk) ?_
  refine gq_st (f := fun _ kk => gf_bipush (12) dX12_init_1122 rfl kk) ?_
  refine gq_st (f := fun _ kk => gf_newa (atype := .int) 14 12 (by decide) rfl na_int rfl (by decide) dX12_init_1124 kk) ?_
  rw [W6.1.1]
  have W7 : wS 325 162192 185 (wF wLb f9 102) (hp_new h6 14 12 12) := w_new W6 (t := 14) (len := 12) rfl rfl rfl
  generalize hp_new h6 14 12 12 = h7 at W7 ⊢
  refine gq_st (f := fun _ kk => gf_putRF flX12_255 rfl rfl rfl rfl dX12_init_1126 (w_tag W7 (by decide) (rfl : gr_tl[247]? = some (12, 0))) ⟨rfl, rfl⟩ kk) ?_
  have W8 : wS 325 162192 186 (wF wLb f9 102) (hp_setR h7 247 102 (some 324)) := w_ref W7 (by decide) rfl rfl
  generalize hp_setR h7 247 102 (some 324) = h8 at W8 ⊢
  refine gq_st (f := fun _ kk => gf_aload_n 0 dX12_init_1129 rfl rfl kk) ?_
  refine gq_st (f := fun _ kk => gf_sipush (201) dX12_init_1130 rfl kk) ?_
  refine gq_st (f := fun _ kk => gf_newa (atype := .boolean) 16 201 (by decide) rfl na_boolean rfl (by decide) dX12_init_1133 kk) ?_
  rw [W8.1.1]
  have W9 : wS 326 162393 186 (wF wLb f9 102) (hp_new h8 16 201 201) := w_new W8 (t := 16) (len := 201) rfl rfl rfl
  generalize hp_new h8 16 201 201 = h9 at W9 ⊢
  refine gq_st (f := fun _ kk => gf_putRF flX12_258 rfl rfl rfl rfl dX12_init_1135 (w_tag W9 (by decide) (rfl : gr_tl[247]? = some (12, 0))) ⟨rfl, rfl⟩ kk) ?_
  have W10 : wS 326 162393 187 (wF wLb f9 102) (hp_setR h9 247 104 (some 325)) := w_ref W9 (by decide) rfl rfl
  generalize hp_setR h9 247 104 (some 325) = h10 at W10 ⊢
  refine gq_st (f := fun _ kk => gf_aload_n 0 dX12_init_1138 rfl rfl kk) ?_
  refine gq_st (f := fun _ kk => gf_sipush (201) dX12_init_1139 rfl kk) ?_
  refine gq_st (f := fun _ kk => gf_newa (atype := .int) 14 201 (by decide) rfl na_int rfl (by decide) dX12_init_1142 kk) ?_
  rw [W10.1.1]
  have W11 : wS 327 162594 187 (wF wLb f9 102) (hp_new h10 14 201 201) := w_new W10 (t := 14) (len := 201) rfl rfl rfl
  generalize hp_new h10 14 201 201 = h11 at W11 ⊢
  refine gq_st (f := fun _ kk => gf_putRF flX12_261 rfl rfl rfl rfl dX12_init_1144 (w_tag W11 (by decide) (rfl : gr_tl[247]? = some (12, 0))) ⟨rfl, rfl⟩ kk) ?_
  have W12 : wS 327 162594 188 (wF wLb f9 102) (hp_setR h11 247 105 (some 326)) := w_ref W11 (by decide) rfl rfl
  generalize hp_setR h11 247 105 (some 326) = h12 at W12 ⊢
  refine gq_st (f := fun _ kk => gf_aload_n 0 dX12_init_1147 rfl rfl kk) ?_
  refine gq_st (f := fun _ kk => gf_sipush (201) dX12_init_1148 rfl kk) ?_
  refine gq_st (f := fun _ kk => gf_newa (atype := .int) 14 201 (by decide) rfl na_int rfl (by decide) dX12_init_1151 kk) ?_
  rw [W12.1.1]
  have W13 : wS 328 162795 188 (wF wLb f9 102) (hp_new h12 14 201 201) := w_new W12 (t := 14) (len := 201) rfl rfl rfl
  generalize hp_new h12 14 201 201 = h13 at W13 ⊢
  refine gq_st (f := fun _ kk => gf_putRF flX12_264 rfl rfl rfl rfl dX12_init_1153 (w_tag W13 (by decide) (rfl : gr_tl[247]? = some (12, 0))) ⟨rfl, rfl⟩ kk) ?_
  have W14 : wS 328 162795 189 (wF wLb f9 102) (hp_setR h13 247 106 (some 327)) := w_ref W13 (by decide) rfl rfl
  generalize hp_setR h13 247 106 (some 327) = h14 at W14 ⊢
  refine gq_st (f := fun _ kk => gf_aload_n 0 dX12_init_1156 rfl rfl kk) ?_
  refine gq_st (f := fun _ kk => gf_bipush (9) dX12_init_1157 rfl kk) ?_
  refine gq_st (f := fun _ kk => gf_newa (atype := .int) 14 9 (by decide) rfl na_int rfl (by decide) dX12_init_1159 kk) ?_
  rw [W14.1.1]
  have W15 : wS 329 162804 189 (wF wLb f9 102) (hp_new h14 14 9 9) := w_new W14 (t := 14) (len := 9) rfl rfl rfl
  generalize hp_new h14 14 9 9 = h15 at W15 ⊢
  refine gq_st (f := fun _ kk => gf_putRF flX12_267 rfl rfl rfl rfl dX12_init_1161 (w_tag W15 (by decide) (rfl : gr_tl[247]? = some (12, 0))) ⟨rfl, rfl⟩ kk) ?_
  have W16 : wS 329 162804 190 (wF wLb f9 102) (hp_setR h15 247 107 (some 328)) := w_ref W15 (by decide) rfl rfl
  generalize hp_setR h15 247 107 (some 328) = h16 at W16 ⊢
  refine gq_st (f := fun _ kk => gf_aload_n 0 dX12_init_1164 rfl rfl kk) ?_
  refine gq_st (f := fun _ kk => gf_bipush (90) dX12_init_1165 rfl kk) ?_
  refine gq_st (f := fun _ kk => gf_newa (atype := .long) 15 90 (by decide) rfl na_long rfl (by decide) dX12_init_1167 kk) ?_
  rw [W16.1.1]
  have W17 : wS 330 162894 190 (wF wLb f9 102) (hp_new h16 15 90 90) := w_new W16 (t := 15) (len := 90) rfl rfl rfl
  generalize hp_new h16 15 90 90 = h17 at W17 ⊢
  refine gq_st (f := fun _ kk => gf_putRF flX12_270 rfl rfl rfl rfl dX12_init_1169 (w_tag W17 (by decide) (rfl : gr_tl[247]? = some (12, 0))) ⟨rfl, rfl⟩ kk) ?_
  have W18 : wS 330 162894 191 (wF wLb f9 102) (hp_setR h17 247 108 (some 329)) := w_ref W17 (by decide) rfl rfl
  generalize hp_setR h17 247 108 (some 329) = h18 at W18 ⊢
  refine gq_st (f := fun _ kk => gf_aload_n 0 dX12_init_1172 rfl rfl kk) ?_
  refine gq_st (f := fun _ kk => gf_bipush (90) dX12_init_1173 rfl kk) ?_
  refine gq_st (f := fun _ kk => gf_newa (atype := .long) 15 90 (by decide) rfl na_long rfl (by decide) dX12_init_1175 kk) ?_
  rw [W18.1.1]
  have W19 : wS 331 162984 191 (wF wLb f9 102) (hp_new h18 15 90 90) := w_new W18 (t := 15) (len := 90) rfl rfl rfl
  generalize hp_new h18 15 90 90 = h19 at W19 ⊢
  refine gq_st (f := fun _ kk => gf_putRF flX12_273 rfl rfl rfl rfl dX12_init_1177 (w_tag W19 (by decide) (rfl : gr_tl[247]? = some (12, 0))) ⟨rfl, rfl⟩ kk) ?_
  have W20 : wS 331 162984 192 (wF wLb f9 102) (hp_setR h19 247 109 (some 330)) := w_ref W19 (by decide) rfl rfl
  generalize hp_setR h19 247 109 (some 330) = h20 at W20 ⊢
  refine gq_st (f := fun _ kk => gf_aload_n 0 dX12_init_1180 rfl rfl kk) ?_
  refine gq_st (f := fun _ kk => gf_bipush (90) dX12_init_1181 rfl kk) ?_
  refine gq_st (f := fun _ kk => gf_newa (atype := .long) 15 90 (by decide) rfl na_long rfl (by decide) dX12_init_1183 kk) ?_
  rw [W20.1.1]
  have W21 : wS 332 163074 192 (wF wLb f9 102) (hp_new h20 15 90 90) := w_new W20 (t := 15) (len := 90) rfl rfl rfl
  generalize hp_new h20 15 90 90 = h21 at W21 ⊢
  refine gq_st (f := fun _ kk => gf_putRF flX12_276 rfl rfl rfl rfl dX12_init_1185 (w_tag W21 (by decide) (rfl : gr_tl[247]? = some (12, 0))) ⟨rfl, rfl⟩ kk) ?_
  have W22 : wS 332 163074 193 (wF wLb f9 102) (hp_setR h21 247 110 (some 331)) := w_ref W21 (by decide) rfl rfl
  generalize hp_setR h21 247 110 (some 331) = h22 at W22 ⊢
  exact n_X12_247_p1188 E hd W22
theorem n_X12_247_p1004 (E : gE) {d : Nat} (hd : 3 ≤ d) {h0 : hp_T} {f9 : Nat → Nat → Int32} (W0 : wS 310 160311 171 (wF wLb f9 102) h0) : gq E mX12_init d 1004 [(0, .ref (E.1 + 247))] [] h0 none (wS 333 163077 194 (wF wLb f9 102)) := by
  refine gq_st (f := fun _ kk => gf_aload_n 0 dX12_init_1004 rfl rfl kk) ?_
  refine gq_st (f := fun _ kk => gf_sipush (201) dX12_init_1005 rfl kk) ?_
  refine gq_st (f := fun _ kk => gf_newa (atype := .int) 14 201 (by decide) rfl na_int rfl (by decide) dX12_init_1008 kk) ?_
  rw [W0.1.1]
  have W1 : wS 311 160512 171 (wF wLb f9 102) (hp_new h0 14 201 201) := w_new W0 (t := 14) (len := 201) rfl rfl rfl
  generalize hp_new h0 14 201 201 = h1 at W1 ⊢
  refine gq_st (f := fun _ kk => gf_putRF flX12_213 rfl rfl rfl rfl dX12_init_1010 (w_tag W1 (by decide) (rfl : gr_tl[247]? = some (12, 0))) ⟨rfl, rfl⟩ kk) ?_
  have W2 : wS 311 160512 172 (wF wLb f9 102) (hp_setR h1 247 85 (some 310)) := w_ref W1 (by decide) rfl rfl
  generalize hp_setR h1 247 85 (some 310) = h2 at W2 ⊢
  refine gq_st (f := fun _ kk => gf_aload_n 0 dX12_init_1013 rfl rfl kk) ?_
  refine gq_st (f := fun _ kk => gf_sipush (201) dX12_init_1014 rfl kk) ?_
  refine gq_st (f := fun _ kk => gf_newa (atype := .int) 14 201 (by decide) rfl na_int rfl (by decide) dX12_init_1017 kk) ?_
  rw [W2.1.1]
  have W3 : wS 312 160713 172 (wF wLb f9 102) (hp_new h2 14 201 201) := w_new W2 (t := 14) (len := 201) rfl rfl rfl
  generalize hp_new h2 14 201 201 = h3 at W3 ⊢
  refine gq_st (f := fun _ kk => gf_putRF flX12_216 rfl rfl rfl rfl dX12_init_1019 (w_tag W3 (by decide) (rfl : gr_tl[247]? = some (12, 0))) ⟨rfl, rfl⟩ kk) ?_
  have W4 : wS 312 160713 173 (wF wLb f9 102) (hp_setR h3 247 86 (some 311)) := w_ref W3 (by decide) rfl rfl
  generalize hp_setR h3 247 86 (some 311) = h4 at W4 ⊢
  refine gq_st (f := fun _ kk => gf_aload_n 0 dX12_init_1022 rfl rfl kk) ?_
  refine gq_st (f := fun _ kk => gf_sipush (201) dX12_init_1023 rfl kk) ?_
  refine gq_st (f := fun _ kk => gf_newa (atype := .int) 14 201 (by decide) rfl na_int rfl (by decide) dX12_init_1026 kk) ?_
  rw [W4.1.1]
  have W5 : wS 313 160914 173 (wF wLb f9 102) (hp_new h4 14 201 201) := w_new W4 (t := 14) (len := 201) rfl rfl rfl
  generalize hp_new h4 14 201 201 = h5 at W5 ⊢
  refine gq_st (f := fun _ kk => gf_putRF flX12_219 rfl rfl rfl rfl dX12_init_1028 (w_tag W5 (by decide) (rfl : gr_tl[247]? = some (12, 0))) ⟨rfl, rfl⟩ kk) ?_
  have W6 : wS 313 160914 174 (wF wLb f9 102) (hp_setR h5 247 87 (some 312)) := w_ref W5 (by decide) rfl rfl
  generalize hp_setR h5 247 87 (some 312) = h6 at W6 ⊢
  refine gq_st (f := fun _ kk => gf_aload_n 0 dX12_init_1031 rfl rfl kk) ?_
  refine gq_st (f := fun _ kk => gf_sipush (201) dX12_init_1032 rfl kk) ?_
  refine gq_st (f := fun _ kk => gf_newa (atype := .boolean) 16 201 (by decide) rfl na_boolean rfl (by decide) dX12_init_1035 kk) ?_
  rw [W6.1.1]
  have W7 : wS 314 161115 174 (wF wLb f9 102) (hp_new h6 16 201 201) := w_new W6 (t := 16) (len := 201) rfl rfl rfl
  generalize hp_new h6 16 201 201 = h7 at W7 ⊢
  refine gq_st (f := fun _ kk => gf_putRF flX12_222 rfl rfl rfl rfl dX12_init_1037 (w_tag W7 (by decide) (rfl : gr_tl[247]? = some (12, 0))) ⟨rfl, rfl⟩ kk) ?_
  have W8 : wS 314 161115 175 (wF wLb f9 102) (hp_setR h7 247 88 (some 313)) := w_ref W7 (by decide) rfl rfl
  generalize hp_setR h7 247 88 (some 313) = h8 at W8 ⊢
  refine gq_st (f := fun _ kk => gf_aload_n 0 dX12_init_1040 rfl rfl kk) ?_
  refine gq_st (f := fun _ kk => gf_sipush (201) dX12_init_1041 rfl kk) ?_
  refine gq_st (f := fun _ kk => gf_newa (atype := .long) 15 201 (by decide) rfl na_long rfl (by decide) dX12_init_1044 kk) ?_
  rw [W8.1.1]
  have W9 : wS 315 161316 175 (wF wLb f9 102) (hp_new h8 15 201 201) := w_new W8 (t := 15) (len := 201) rfl rfl rfl
  generalize hp_new h8 15 201 201 = h9 at W9 ⊢
  refine gq_st (f := fun _ kk => gf_putRF flX12_225 rfl rfl rfl rfl dX12_init_1046 (w_tag W9 (by decide) (rfl : gr_tl[247]? = some (12, 0))) ⟨rfl, rfl⟩ kk) ?_
  have W10 : wS 315 161316 176 (wF wLb f9 102) (hp_setR h9 247 89 (some 314)) := w_ref W9 (by decide) rfl rfl
  generalize hp_setR h9 247 89 (some 314) = h10 at W10 ⊢
  refine gq_st (f := fun _ kk => gf_aload_n 0 dX12_init_1049 rfl rfl kk) ?_
  refine gq_st (f := fun _ kk => gf_bipush (120) dX12_init_1050 rfl kk) ?_
  refine gq_st (f := fun _ kk => gf_newa (atype := .boolean) 16 120 (by decide) rfl na_boolean rfl (by decide) dX12_init_1052 kk) ?_
  rw [W10.1.1]
  have W11 : wS 316 161436 176 (wF wLb f9 102) (hp_new h10 16 120 120) := w_new W10 (t := 16) (len := 120) rfl rfl rfl
  generalize hp_new h10 16 120 120 = h11 at W11 ⊢
  refine gq_st (f := fun _ kk => gf_putRF flX12_228 rfl rfl rfl rfl dX12_init_1054 (w_tag W11 (by decide) (rfl : gr_tl[247]? = some (12, 0))) ⟨rfl, rfl⟩ kk) ?_
  have W12 : wS 316 161436 177 (wF wLb f9 102) (hp_setR h11 247 93 (some 315)) := w_ref W11 (by decide) rfl rfl
  generalize hp_setR h11 247 93 (some 315) = h12 at W12 ⊢
  refine gq_st (f := fun _ kk => gf_aload_n 0 dX12_init_1057 rfl rfl kk) ?_
  refine gq_st (f := fun _ kk => gf_bipush (120) dX12_init_1058 rfl kk) ?_
  refine gq_st (f := fun _ kk => gf_newa (atype := .int) 14 120 (by decide) rfl na_int rfl (by decide) dX12_init_1060 kk) ?_
  rw [W12.1.1]
  have W13 : wS 317 161556 177 (wF wLb f9 102) (hp_new h12 14 120 120) := w_new W12 (t := 14) (len := 120) rfl rfl rfl
  generalize hp_new h12 14 120 120 = h13 at W13 ⊢
  refine gq_st (f := fun _ kk => gf_putRF flX12_231 rfl rfl rfl rfl dX12_init_1062 (w_tag W13 (by decide) (rfl : gr_tl[247]? = some (12, 0))) ⟨rfl, rfl⟩ kk) ?_
  have W14 : wS 317 161556 178 (wF wLb f9 102) (hp_setR h13 247 94 (some 316)) := w_ref W13 (by decide) rfl rfl
  generalize hp_setR h13 247 94 (some 316) = h14 at W14 ⊢
  refine gq_st (f := fun _ kk => gf_aload_n 0 dX12_init_1065 rfl rfl kk) ?_
  refine gq_st (f := fun _ kk => gf_bipush (120) dX12_init_1066 rfl kk) ?_
  refine gq_st (f := fun _ kk => gf_newa (atype := .int) 14 120 (by decide) rfl na_int rfl (by decide) dX12_init_1068 kk) ?_
  rw [W14.1.1]
  have W15 : wS 318 161676 178 (wF wLb f9 102) (hp_new h14 14 120 120) := w_new W14 (t := 14) (len := 120) rfl rfl rfl
  generalize hp_new h14 14 120 120 = h15 at W15 ⊢
  refine gq_st (f := fun _ kk => gf_putRF flX12_234 rfl rfl rfl rfl dX12_init_1070 (w_tag W15 (by decide) (rfl : gr_tl[247]? = some (12, 0))) ⟨rfl, rfl⟩ kk) ?_
  have W16 : wS 318 161676 179 (wF wLb f9 102) (hp_setR h15 247 95 (some 317)) := w_ref W15 (by decide) rfl rfl
  generalize hp_setR h15 247 95 (some 317) = h16 at W16 ⊢
  refine gq_st (f := fun _ kk => gf_aload_n 0 dX12_init_1073 rfl rfl kk) ?_
  refine gq_st (f := fun _ kk => gf_bipush (120) dX12_init_1074 rfl kk) ?_
  refine gq_st (f := fun _ kk => gf_newa (atype := .int) 14 120 (by decide) rfl na_int rfl (by decide) dX12_init_1076 kk) ?_
  rw [W16.1.1]
  have W17 : wS 319 161796 179 (wF wLb f9 102) (hp_new h16 14 120 120) := w_new W16 (t := 14) (len := 120) rfl rfl rfl
  generalize hp_new h16 14 120 120 = h17 at W17 ⊢
  refine gq_st (f := fun _ kk => gf_putRF flX12_237 rfl rfl rfl rfl dX12_init_1078 (w_tag W17 (by decide) (rfl : gr_tl[247]? = some (12, 0))) ⟨rfl, rfl⟩ kk) ?_
  have W18 : wS 319 161796 180 (wF wLb f9 102) (hp_setR h17 247 96 (some 318)) := w_ref W17 (by decide) rfl rfl
  generalize hp_setR h17 247 96 (some 318) = h18 at W18 ⊢
  refine gq_st (f := fun _ kk => gf_aload_n 0 dX12_init_1081 rfl rfl kk) ?_
  refine gq_st (f := fun _ kk => gf_bipush (120) dX12_init_1082 rfl kk) ?_
  refine gq_st (f := fun _ kk => gf_newa (atype := .int) 14 120 (by decide) rfl na_int rfl (by decide) dX12_init_1084 kk) ?_
  rw [W18.1.1]
  have W19 : wS 320 161916 180 (wF wLb f9 102) (hp_new h18 14 120 120) := w_new W18 (t := 14) (len := 120) rfl rfl rfl
  generalize hp_new h18 14 120 120 = h19 at W19 ⊢
  refine gq_st (f := fun _ kk => gf_putRF flX12_240 rfl rfl rfl rfl dX12_init_1086 (w_tag W19 (by decide) (rfl : gr_tl[247]? = some (12, 0))) ⟨rfl, rfl⟩ kk) ?_
  have W20 : wS 320 161916 181 (wF wLb f9 102) (hp_setR h19 247 97 (some 319)) := w_ref W19 (by decide) rfl rfl
  generalize hp_setR h19 247 97 (some 319) = h20 at W20 ⊢
  refine gq_st (f := fun _ kk => gf_aload_n 0 dX12_init_1089 rfl rfl kk) ?_
  refine gq_st (f := fun _ kk => gf_bipush (120) dX12_init_1090 rfl kk) ?_
  refine gq_st (f := fun _ kk => gf_newa (atype := .int) 14 120 (by decide) rfl na_int rfl (by decide) dX12_init_1092 kk) ?_
  rw [W20.1.1]
  have W21 : wS 321 162036 181 (wF wLb f9 102) (hp_new h20 14 120 120) := w_new W20 (t := 14) (len := 120) rfl rfl rfl
  generalize hp_new h20 14 120 120 = h21 at W21 ⊢
  refine gq_st (f := fun _ kk => gf_putRF flX12_243 rfl rfl rfl rfl dX12_init_1094 (w_tag W21 (by decide) (rfl : gr_tl[247]? = some (12, 0))) ⟨rfl, rfl⟩ kk) ?_
  have W22 : wS 321 162036 182 (wF wLb f9 102) (hp_setR h21 247 98 (some 320)) := w_ref W21 (by decide) rfl rfl
  generalize hp_setR h21 247 98 (some 320) = h22 at W22 ⊢
  exact n_X12_247_p1097 E hd W22
theorem n_X12_247_p915 (E : gE) {d : Nat} (hd : 3 ≤ d) {h0 : hp_T} {f9 : Nat → Nat → Int32} (W0 : wS 299 158735 160 (wF wLb f9 102) h0) : gq E mX12_init d 915 [(0, .ref (E.1 + 247))] [] h0 none (wS 333 163077 194 (wF wLb f9 102)) := by
  refine gq_st (f := fun _ kk => gf_aload_n 0 dX12_init_915 rfl rfl kk) ?_
  refine gq_st (f := fun _ kk => gf_sipush (700) dX12_init_916 rfl kk) ?_
  refine gq_st (f := fun _ kk => gf_newa (atype := .long) 15 700 (by decide) rfl na_long rfl (by decide) dX12_init_919 kk) ?_
  rw [W0.1.1]
  have W1 : wS 300 159435 160 (wF wLb f9 102) (hp_new h0 15 700 700) := w_new W0 (t := 15) (len := 700) rfl rfl rfl
  generalize hp_new h0 15 700 700 = h1 at W1 ⊢
  refine gq_st (f := fun _ kk => gf_putRF flX12_179 rfl rfl rfl rfl dX12_init_921 (w_tag W1 (by decide) (rfl : gr_tl[247]? = some (12, 0))) ⟨rfl, rfl⟩ kk) ?_
  have W2 : wS 300 159435 161 (wF wLb f9 102) (hp_setR h1 247 69 (some 299)) := w_ref W1 (by decide) rfl rfl
  generalize hp_setR h1 247 69 (some 299) = h2 at W2 ⊢
  refine gq_st (f := fun _ kk => gf_aload_n 0 dX12_init_924 rfl rfl kk) ?_
  refine gq_st (f := fun _ kk => gf_bipush (120) dX12_init_925 rfl kk) ?_
  refine gq_st (f := fun _ kk => gf_newa (atype := .int) 14 120 (by decide) rfl na_int rfl (by decide) dX12_init_927 kk) ?_
  rw [W2.1.1]
  have W3 : wS 301 159555 161 (wF wLb f9 102) (hp_new h2 14 120 120) := w_new W2 (t := 14) (len := 120) rfl rfl rfl
  generalize hp_new h2 14 120 120 = h3 at W3 ⊢
  refine gq_st (f := fun _ kk => gf_putRF flX12_183 rfl rfl rfl rfl dX12_init_929 (w_tag W3 (by decide) (rfl : gr_tl[247]? = some (12, 0))) ⟨rfl, rfl⟩ kk) ?_
  have W4 : wS 301 159555 162 (wF wLb f9 102) (hp_setR h3 247 75 (some 300)) := w_ref W3 (by decide) rfl rfl
  generalize hp_setR h3 247 75 (some 300) = h4 at W4 ⊢
  refine gq_st (f := fun _ kk => gf_aload_n 0 dX12_init_932 rfl rfl kk) ?_
  refine gq_st (f := fun _ kk => gf_bipush (120) dX12_init_933 rfl kk) ?_
  refine gq_st (f := fun _ kk => gf_newa (atype := .int) 14 120 (by decide) rfl na_int rfl (by decide) dX12_init_935 kk) ?_
  rw [W4.1.1]
  have W5 : wS 302 159675 162 (wF wLb f9 102) (hp_new h4 14 120 120) := w_new W4 (t := 14) (len := 120) rfl rfl rfl
  generalize hp_new h4 14 120 120 = h5 at W5 ⊢
  refine gq_st (f := fun _ kk => gf_putRF flX12_186 rfl rfl rfl rfl dX12_init_937 (w_tag W5 (by decide) (rfl : gr_tl[247]? = some (12, 0))) ⟨rfl, rfl⟩ kk) ?_
  have W6 : wS 302 159675 163 (wF wLb f9 102) (hp_setR h5 247 76 (some 301)) := w_ref W5 (by decide) rfl rfl
  generalize hp_setR h5 247 76 (some 301) = h6 at W6 ⊢
  refine gq_st (f := fun _ kk => gf_aload_n 0 dX12_init_940 rfl rfl kk) ?_
  refine gq_st (f := fun _ kk => gf_bipush (120) dX12_init_941 rfl kk) ?_
  refine gq_st (f := fun _ kk => gf_newa (atype := .int) 14 120 (by decide) rfl na_int rfl (by decide) dX12_init_943 kk) ?_
  rw [W6.1.1]
  have W7 : wS 303 159795 163 (wF wLb f9 102) (hp_new h6 14 120 120) := w_new W6 (t := 14) (len := 120) rfl rfl rfl
  generalize hp_new h6 14 120 120 = h7 at W7 ⊢
  refine gq_st (f := fun _ kk => gf_putRF flX12_189 rfl rfl rfl rfl dX12_init_945 (w_tag W7 (by decide) (rfl : gr_tl[247]? = some (12, 0))) ⟨rfl, rfl⟩ kk) ?_
  have W8 : wS 303 159795 164 (wF wLb f9 102) (hp_setR h7 247 77 (some 302)) := w_ref W7 (by decide) rfl rfl
  generalize hp_setR h7 247 77 (some 302) = h8 at W8 ⊢
  refine gq_st (f := fun _ kk => gf_aload_n 0 dX12_init_948 rfl rfl kk) ?_
  refine gq_st (f := fun _ kk => gf_bipush (120) dX12_init_949 rfl kk) ?_
  refine gq_st (f := fun _ kk => gf_newa (atype := .int) 14 120 (by decide) rfl na_int rfl (by decide) dX12_init_951 kk) ?_
  rw [W8.1.1]
  have W9 : wS 304 159915 164 (wF wLb f9 102) (hp_new h8 14 120 120) := w_new W8 (t := 14) (len := 120) rfl rfl rfl
  generalize hp_new h8 14 120 120 = h9 at W9 ⊢
  refine gq_st (f := fun _ kk => gf_putRF flX12_192 rfl rfl rfl rfl dX12_init_953 (w_tag W9 (by decide) (rfl : gr_tl[247]? = some (12, 0))) ⟨rfl, rfl⟩ kk) ?_
  have W10 : wS 304 159915 165 (wF wLb f9 102) (hp_setR h9 247 78 (some 303)) := w_ref W9 (by decide) rfl rfl
  generalize hp_setR h9 247 78 (some 303) = h10 at W10 ⊢
  refine gq_st (f := fun _ kk => gf_aload_n 0 dX12_init_956 rfl rfl kk) ?_
  refine gq_st (f := fun _ kk => gf_bipush (120) dX12_init_957 rfl kk) ?_
  refine gq_st (f := fun _ kk => gf_newa (atype := .int) 14 120 (by decide) rfl na_int rfl (by decide) dX12_init_959 kk) ?_
  rw [W10.1.1]
  have W11 : wS 305 160035 165 (wF wLb f9 102) (hp_new h10 14 120 120) := w_new W10 (t := 14) (len := 120) rfl rfl rfl
  generalize hp_new h10 14 120 120 = h11 at W11 ⊢
  refine gq_st (f := fun _ kk => gf_putRF flX12_195 rfl rfl rfl rfl dX12_init_961 (w_tag W11 (by decide) (rfl : gr_tl[247]? = some (12, 0))) ⟨rfl, rfl⟩ kk) ?_
  have W12 : wS 305 160035 166 (wF wLb f9 102) (hp_setR h11 247 79 (some 304)) := w_ref W11 (by decide) rfl rfl
  generalize hp_setR h11 247 79 (some 304) = h12 at W12 ⊢
  refine gq_st (f := fun _ kk => gf_aload_n 0 dX12_init_964 rfl rfl kk) ?_
  refine gq_st (f := fun _ kk => gf_bipush (120) dX12_init_965 rfl kk) ?_
  refine gq_st (f := fun _ kk => gf_newa (atype := .boolean) 16 120 (by decide) rfl na_boolean rfl (by decide) dX12_init_967 kk) ?_
  rw [W12.1.1]
  have W13 : wS 306 160155 166 (wF wLb f9 102) (hp_new h12 16 120 120) := w_new W12 (t := 16) (len := 120) rfl rfl rfl
  generalize hp_new h12 16 120 120 = h13 at W13 ⊢
  refine gq_st (f := fun _ kk => gf_putRF flX12_198 rfl rfl rfl rfl dX12_init_969 (w_tag W13 (by decide) (rfl : gr_tl[247]? = some (12, 0))) ⟨rfl, rfl⟩ kk) ?_
  have W14 : wS 306 160155 167 (wF wLb f9 102) (hp_setR h13 247 80 (some 305)) := w_ref W13 (by decide) rfl rfl
  generalize hp_setR h13 247 80 (some 305) = h14 at W14 ⊢
  refine gq_st (f := fun _ kk => gf_aload_n 0 dX12_init_972 rfl rfl kk) ?_
  refine gq_st (f := fun _ kk => gf_bipush (120) dX12_init_973 rfl kk) ?_
  refine gq_st (f := fun _ kk => gf_newa (atype := .int) 14 120 (by decide) rfl na_int rfl (by decide) dX12_init_975 kk) ?_
  rw [W14.1.1]
  have W15 : wS 307 160275 167 (wF wLb f9 102) (hp_new h14 14 120 120) := w_new W14 (t := 14) (len := 120) rfl rfl rfl
  generalize hp_new h14 14 120 120 = h15 at W15 ⊢
  refine gq_st (f := fun _ kk => gf_putRF flX12_201 rfl rfl rfl rfl dX12_init_977 (w_tag W15 (by decide) (rfl : gr_tl[247]? = some (12, 0))) ⟨rfl, rfl⟩ kk) ?_
  have W16 : wS 307 160275 168 (wF wLb f9 102) (hp_setR h15 247 81 (some 306)) := w_ref W15 (by decide) rfl rfl
  generalize hp_setR h15 247 81 (some 306) = h16 at W16 ⊢
  refine gq_st (f := fun _ kk => gf_aload_n 0 dX12_init_980 rfl rfl kk) ?_
  refine gq_st (f := fun _ kk => gf_bipush (12) dX12_init_981 rfl kk) ?_
  refine gq_st (f := fun _ kk => gf_newa (atype := .int) 14 12 (by decide) rfl na_int rfl (by decide) dX12_init_983 kk) ?_
  rw [W16.1.1]
  have W17 : wS 308 160287 168 (wF wLb f9 102) (hp_new h16 14 12 12) := w_new W16 (t := 14) (len := 12) rfl rfl rfl
  generalize hp_new h16 14 12 12 = h17 at W17 ⊢
  refine gq_st (f := fun _ kk => gf_putRF flX12_204 rfl rfl rfl rfl dX12_init_985 (w_tag W17 (by decide) (rfl : gr_tl[247]? = some (12, 0))) ⟨rfl, rfl⟩ kk) ?_
  have W18 : wS 308 160287 169 (wF wLb f9 102) (hp_setR h17 247 82 (some 307)) := w_ref W17 (by decide) rfl rfl
  generalize hp_setR h17 247 82 (some 307) = h18 at W18 ⊢
  refine gq_st (f := fun _ kk => gf_aload_n 0 dX12_init_988 rfl rfl kk) ?_
  refine gq_st (f := fun _ kk => gf_bipush (12) dX12_init_989 rfl kk) ?_
  refine gq_st (f := fun _ kk => gf_newa (atype := .int) 14 12 (by decide) rfl na_int rfl (by decide) dX12_init_991 kk) ?_
  rw [W18.1.1]
  have W19 : wS 309 160299 169 (wF wLb f9 102) (hp_new h18 14 12 12) := w_new W18 (t := 14) (len := 12) rfl rfl rfl
  generalize hp_new h18 14 12 12 = h19 at W19 ⊢
  refine gq_st (f := fun _ kk => gf_putRF flX12_207 rfl rfl rfl rfl dX12_init_993 (w_tag W19 (by decide) (rfl : gr_tl[247]? = some (12, 0))) ⟨rfl, rfl⟩ kk) ?_
  have W20 : wS 309 160299 170 (wF wLb f9 102) (hp_setR h19 247 83 (some 308)) := w_ref W19 (by decide) rfl rfl
  generalize hp_setR h19 247 83 (some 308) = h20 at W20 ⊢
  refine gq_st (f := fun _ kk => gf_aload_n 0 dX12_init_996 rfl rfl kk) ?_
  refine gq_st (f := fun _ kk => gf_bipush (12) dX12_init_997 rfl kk) ?_
  refine gq_st (f := fun _ kk => gf_newa (atype := .int) 14 12 (by decide) rfl na_int rfl (by decide) dX12_init_999 kk) ?_
  rw [W20.1.1]
  have W21 : wS 310 160311 170 (wF wLb f9 102) (hp_new h20 14 12 12) := w_new W20 (t := 14) (len := 12) rfl rfl rfl
  generalize hp_new h20 14 12 12 = h21 at W21 ⊢
  refine gq_st (f := fun _ kk => gf_putRF flX12_210 rfl rfl rfl rfl dX12_init_1001 (w_tag W21 (by decide) (rfl : gr_tl[247]? = some (12, 0))) ⟨rfl, rfl⟩ kk) ?_
  have W22 : wS 310 160311 171 (wF wLb f9 102) (hp_setR h21 247 84 (some 309)) := w_ref W21 (by decide) rfl rfl
  generalize hp_setR h21 247 84 (some 309) = h22 at W22 ⊢
  exact n_X12_247_p1004 E hd W22
