/-! ===== constructors, 1 ===== -/
theorem n_X1_1_p88 (E : gE) {d : Nat} (hd : 3 ≤ d) {h0 : hp_T} (W0 : wS 132 2076 11 (wF wLa zF9 0) h0) : gq E mX1_init d 88 [(0, .ref (E.1 + 1))] [] h0 none (wS 145 2417 16 (wF wLa zF9 0)) := by
  refine gq_st (f := fun _ kk => gf_aload_n 0 dX1_init_88 rfl rfl kk) ?_
  refine gq_st (f := fun _ kk => gf_bipush (121) dX1_init_89 rfl kk) ?_
  refine gq_st (f := fun _ kk => gf_newa (atype := .int) 14 121 (by decide) rfl na_int rfl (by decide) dX1_init_91 kk) ?_
  rw [W0.1.1]
  have W1 : wS 133 2197 11 (wF wLa zF9 0) (hp_new h0 14 121 121) := w_new W0 (t := 14) (len := 121) rfl rfl rfl
  generalize hp_new h0 14 121 121 = h1 at W1 ⊢
  refine gq_st (f := fun _ kk => gf_putRF flX1_45 rfl rfl rfl rfl dX1_init_93 (w_tag W1 (by decide) (rfl : gr_tl[1]? = some (1, 0))) ⟨rfl, rfl⟩ kk) ?_
  have W2 : wS 133 2197 12 (wF wLa zF9 0) (hp_setR h1 1 13 (some 132)) := w_ref W1 (by decide) rfl rfl
  generalize hp_setR h1 1 13 (some 132) = h2 at W2 ⊢
  refine gq_st (f := fun _ kk => gf_aload_n 0 dX1_init_96 rfl rfl kk) ?_
  refine gq_st (f := fun _ kk => gf_bipush (121) dX1_init_97 rfl kk) ?_
  refine gq_st (f := fun _ kk => gf_newa (atype := .int) 14 121 (by decide) rfl na_int rfl (by decide) dX1_init_99 kk) ?_
  rw [W2.1.1]
  have W3 : wS 134 2318 12 (wF wLa zF9 0) (hp_new h2 14 121 121) := w_new W2 (t := 14) (len := 121) rfl rfl rfl
  generalize hp_new h2 14 121 121 = h3 at W3 ⊢
  refine gq_st (f := fun _ kk => gf_putRF flX1_48 rfl rfl rfl rfl dX1_init_101 (w_tag W3 (by decide) (rfl : gr_tl[1]? = some (1, 0))) ⟨rfl, rfl⟩ kk) ?_
  have W4 : wS 134 2318 13 (wF wLa zF9 0) (hp_setR h3 1 14 (some 133)) := w_ref W3 (by decide) rfl rfl
  generalize hp_setR h3 1 14 (some 133) = h4 at W4 ⊢
  refine gq_st (f := fun _ kk => gf_aload_n 0 dX1_init_104 rfl rfl kk) ?_
  refine gq_st (f := fun _ kk => gf_bipush (9) dX1_init_105 rfl kk) ?_
  refine gq_st (f := fun _ kk => gf_newa (atype := .int) 14 9 (by decide) rfl na_int rfl (by decide) dX1_init_107 kk) ?_
  rw [W4.1.1]
  have W5 : wS 135 2327 13 (wF wLa zF9 0) (hp_new h4 14 9 9) := w_new W4 (t := 14) (len := 9) rfl rfl rfl
  generalize hp_new h4 14 9 9 = h5 at W5 ⊢
  refine gq_st (f := fun _ kk => gf_putRF flX1_51 rfl rfl rfl rfl dX1_init_109 (w_tag W5 (by decide) (rfl : gr_tl[1]? = some (1, 0))) ⟨rfl, rfl⟩ kk) ?_
  have W6 : wS 135 2327 14 (wF wLa zF9 0) (hp_setR h5 1 15 (some 134)) := w_ref W5 (by decide) rfl rfl
  generalize hp_setR h5 1 15 (some 134) = h6 at W6 ⊢
  refine gq_st (f := fun _ kk => gf_aload_n 0 dX1_init_112 rfl rfl kk) ?_
  refine gq_st (f := fun _ kk => gf_bipush (9) dX1_init_113 rfl kk) ?_
  refine gq_st (f := fun _ kk => gf_bipush (9) dX1_init_115 rfl kk) ?_
  refine gq_st (f := fun _ kk => gf_mna 18 14 9 9 (Or.inl ⟨rfl, rfl⟩) (ms_18 nw_X1_34) na_int rfl rfl (by decide) (by decide) dX1_init_117 kk) ?_
  rw [W6.1.1]
  have W7 : wS 145 2417 15 (wF wLa zF9 0) (hp_mn h6 18 14 9 9) := w_mn W6 (t := 18) (t2 := 14) (N := 9) (K := 9) rfl rfl rfl (by decide +kernel) rfl rfl
  generalize hp_mn h6 18 14 9 9 = h7 at W7 ⊢
  refine gq_st (f := fun _ kk => gf_putRF flX1_54 rfl rfl rfl rfl dX1_init_121 (w_tag W7 (by decide) (rfl : gr_tl[1]? = some (1, 0))) ⟨rfl, rfl⟩ kk) ?_
  have W8 : wS 145 2417 16 (wF wLa zF9 0) (hp_setR h7 1 16 (some 135)) := w_ref W7 (by decide) rfl rfl
  generalize hp_setR h7 1 16 (some 135) = h8 at W8 ⊢
  exact ⟨_, gf_vretE dX1_init_124 rfl rfl, W8⟩
theorem n_X1_1_p0 (E : gE) {d : Nat} (hd : 3 ≤ d) {h0 : hp_T} (W0 : wS 2 29 0 (wF wLa zF9 0) h0) : gq E mX1_init d 0 [(0, .ref (E.1 + 1))] [] h0 none (wS 145 2417 16 (wF wLa zF9 0)) := by
  refine gq_st (f := fun _ kk => gf_aload_n 0 dX1_init_0 rfl rfl kk) ?_
  refine gq_st (f := fun _ kk => gf_objInit lkX1_3 kObj.1 kObj.2 dX1_init_1 (by omega) (Nat.le_of_ble_eq_true rfl) kk) ?_
  refine gq_st (f := fun _ kk => gf_aload_n 0 dX1_init_4 rfl rfl kk) ?_
  refine gq_st (f := fun _ kk => gf_bipush (120) dX1_init_5 rfl kk) ?_
  refine gq_st (f := fun _ kk => gf_newa (atype := .boolean) 16 120 (by decide) rfl na_boolean rfl (by decide) dX1_init_7 kk) ?_
  rw [W0.1.1]
  have W1 : wS 3 149 0 (wF wLa zF9 0) (hp_new h0 16 120 120) := w_new W0 (t := 16) (len := 120) rfl rfl rfl
  generalize hp_new h0 16 120 120 = h1 at W1 ⊢
  refine gq_st (f := fun _ kk => gf_putRF flX1_9 rfl rfl rfl rfl dX1_init_9 (w_tag W1 (by decide) (rfl : gr_tl[1]? = some (1, 0))) ⟨rfl, rfl⟩ kk) ?_
  have W2 : wS 3 149 1 (wF wLa zF9 0) (hp_setR h1 1 3 (some 2)) := w_ref W1 (by decide) rfl rfl
  generalize hp_setR h1 1 3 (some 2) = h2 at W2 ⊢
  refine gq_st (f := fun _ kk => gf_aload_n 0 dX1_init_12 rfl rfl kk) ?_
  refine gq_st (f := fun _ kk => gf_bipush (120) dX1_init_13 rfl kk) ?_
  refine gq_st (f := fun _ kk => gf_newa (atype := .int) 14 120 (by decide) rfl na_int rfl (by decide) dX1_init_15 kk) ?_
  rw [W2.1.1]
  have W3 : wS 4 269 1 (wF wLa zF9 0) (hp_new h2 14 120 120) := w_new W2 (t := 14) (len := 120) rfl rfl rfl
  generalize hp_new h2 14 120 120 = h3 at W3 ⊢
  refine gq_st (f := fun _ kk => gf_putRF flX1_15 rfl rfl rfl rfl dX1_init_17 (w_tag W3 (by decide) (rfl : gr_tl[1]? = some (1, 0))) ⟨rfl, rfl⟩ kk) ?_
  have W4 : wS 4 269 2 (wF wLa zF9 0) (hp_setR h3 1 4 (some 3)) := w_ref W3 (by decide) rfl rfl
  generalize hp_setR h3 1 4 (some 3) = h4 at W4 ⊢
  refine gq_st (f := fun _ kk => gf_aload_n 0 dX1_init_20 rfl rfl kk) ?_
  refine gq_st (f := fun _ kk => gf_bipush (120) dX1_init_21 rfl kk) ?_
  refine gq_st (f := fun _ kk => gf_newa (atype := .int) 14 120 (by decide) rfl na_int rfl (by decide) dX1_init_23 kk) ?_
  rw [W4.1.1]
  have W5 : wS 5 389 2 (wF wLa zF9 0) (hp_new h4 14 120 120) := w_new W4 (t := 14) (len := 120) rfl rfl rfl
  generalize hp_new h4 14 120 120 = h5 at W5 ⊢
  refine gq_st (f := fun _ kk => gf_putRF flX1_19 rfl rfl rfl rfl dX1_init_25 (w_tag W5 (by decide) (rfl : gr_tl[1]? = some (1, 0))) ⟨rfl, rfl⟩ kk) ?_
  have W6 : wS 5 389 3 (wF wLa zF9 0) (hp_setR h5 1 5 (some 4)) := w_ref W5 (by decide) rfl rfl
  generalize hp_setR h5 1 5 (some 4) = h6 at W6 ⊢
  refine gq_st (f := fun _ kk => gf_aload_n 0 dX1_init_28 rfl rfl kk) ?_
  refine gq_st (f := fun _ kk => gf_bipush (120) dX1_init_29 rfl kk) ?_
  refine gq_st (f := fun _ kk => gf_newa (atype := .int) 14 120 (by decide) rfl na_int rfl (by decide) dX1_init_31 kk) ?_
  rw [W6.1.1]
  have W7 : wS 6 509 3 (wF wLa zF9 0) (hp_new h6 14 120 120) := w_new W6 (t := 14) (len := 120) rfl rfl rfl
  generalize hp_new h6 14 120 120 = h7 at W7 ⊢
  refine gq_st (f := fun _ kk => gf_putRF flX1_22 rfl rfl rfl rfl dX1_init_33 (w_tag W7 (by decide) (rfl : gr_tl[1]? = some (1, 0))) ⟨rfl, rfl⟩ kk) ?_
  have W8 : wS 6 509 4 (wF wLa zF9 0) (hp_setR h7 1 6 (some 5)) := w_ref W7 (by decide) rfl rfl
  generalize hp_setR h7 1 6 (some 5) = h8 at W8 ⊢
  refine gq_st (f := fun _ kk => gf_aload_n 0 dX1_init_36 rfl rfl kk) ?_
  refine gq_st (f := fun _ kk => gf_bipush (120) dX1_init_37 rfl kk) ?_
  refine gq_st (f := fun _ kk => gf_newa (atype := .boolean) 16 120 (by decide) rfl na_boolean rfl (by decide) dX1_init_39 kk) ?_
  rw [W8.1.1]
  have W9 : wS 7 629 4 (wF wLa zF9 0) (hp_new h8 16 120 120) := w_new W8 (t := 16) (len := 120) rfl rfl rfl
  generalize hp_new h8 16 120 120 = h9 at W9 ⊢
  refine gq_st (f := fun _ kk => gf_putRF flX1_25 rfl rfl rfl rfl dX1_init_41 (w_tag W9 (by decide) (rfl : gr_tl[1]? = some (1, 0))) ⟨rfl, rfl⟩ kk) ?_
  have W10 : wS 7 629 5 (wF wLa zF9 0) (hp_setR h9 1 7 (some 6)) := w_ref W9 (by decide) rfl rfl
  generalize hp_setR h9 1 7 (some 6) = h10 at W10 ⊢
  refine gq_st (f := fun _ kk => gf_aload_n 0 dX1_init_44 rfl rfl kk) ?_
  refine gq_st (f := fun _ kk => gf_bipush (120) dX1_init_45 rfl kk) ?_
  refine gq_st (f := fun _ kk => gf_newa (atype := .int) 14 120 (by decide) rfl na_int rfl (by decide) dX1_init_47 kk) ?_
  rw [W10.1.1]
  have W11 : wS 8 749 5 (wF wLa zF9 0) (hp_new h10 14 120 120) := w_new W10 (t := 14) (len := 120) rfl rfl rfl
  generalize hp_new h10 14 120 120 = h11 at W11 ⊢
  refine gq_st (f := fun _ kk => gf_putRF flX1_28 rfl rfl rfl rfl dX1_init_49 (w_tag W11 (by decide) (rfl : gr_tl[1]? = some (1, 0))) ⟨rfl, rfl⟩ kk) ?_
  have W12 : wS 8 749 6 (wF wLa zF9 0) (hp_setR h11 1 8 (some 7)) := w_ref W11 (by decide) rfl rfl
  generalize hp_setR h11 1 8 (some 7) = h12 at W12 ⊢
  refine gq_st (f := fun _ kk => gf_aload_n 0 dX1_init_52 rfl rfl kk) ?_
  refine gq_st (f := fun _ kk => gf_bipush (120) dX1_init_53 rfl kk) ?_
  refine gq_st (f := fun _ kk => gf_newa (atype := .int) 14 120 (by decide) rfl na_int rfl (by decide) dX1_init_55 kk) ?_
  rw [W12.1.1]
  have W13 : wS 9 869 6 (wF wLa zF9 0) (hp_new h12 14 120 120) := w_new W12 (t := 14) (len := 120) rfl rfl rfl
  generalize hp_new h12 14 120 120 = h13 at W13 ⊢
  refine gq_st (f := fun _ kk => gf_putRF flX1_31 rfl rfl rfl rfl dX1_init_57 (w_tag W13 (by decide) (rfl : gr_tl[1]? = some (1, 0))) ⟨rfl, rfl⟩ kk) ?_
  have W14 : wS 9 869 7 (wF wLa zF9 0) (hp_setR h13 1 9 (some 8)) := w_ref W13 (by decide) rfl rfl
  generalize hp_setR h13 1 9 (some 8) = h14 at W14 ⊢
  refine gq_st (f := fun _ kk => gf_aload_n 0 dX1_init_60 rfl rfl kk) ?_
  refine gq_st (f := fun _ kk => gf_bipush (120) dX1_init_61 rfl kk) ?_
  refine gq_st (f := fun _ kk => gf_bipush (8) dX1_init_63 rfl kk) ?_
  refine gq_st (f := fun _ kk => gf_mna 18 14 120 8 (Or.inl ⟨rfl, rfl⟩) (ms_18 nw_X1_34) na_int rfl rfl (by decide) (by decide) dX1_init_65 kk) ?_
  rw [W14.1.1]
  have W15 : wS 130 1949 8 (wF wLa zF9 0) (hp_mn h14 18 14 120 8) := w_mn W14 (t := 18) (t2 := 14) (N := 120) (K := 8) rfl rfl rfl (by decide +kernel) rfl rfl
  generalize hp_mn h14 18 14 120 8 = h15 at W15 ⊢
  refine gq_st (f := fun _ kk => gf_putRF flX1_36 rfl rfl rfl rfl dX1_init_69 (w_tag W15 (by decide) (rfl : gr_tl[1]? = some (1, 0))) ⟨rfl, rfl⟩ kk) ?_
  have W16 : wS 130 1949 9 (wF wLa zF9 0) (hp_setR h15 1 10 (some 9)) := w_ref W15 (by decide) rfl rfl
  generalize hp_setR h15 1 10 (some 9) = h16 at W16 ⊢
  refine gq_st (f := fun _ kk => gf_aload_n 0 dX1_init_72 rfl rfl kk) ?_
  refine gq_st (f := fun _ kk => gf_bipush (6) dX1_init_73 rfl kk) ?_
  refine gq_st (f := fun _ kk => gf_newa (atype := .int) 14 6 (by decide) rfl na_int rfl (by decide) dX1_init_75 kk) ?_
  rw [W16.1.1]
  have W17 : wS 131 1955 9 (wF wLa zF9 0) (hp_new h16 14 6 6) := w_new W16 (t := 14) (len := 6) rfl rfl rfl
  generalize hp_new h16 14 6 6 = h17 at W17 ⊢
  refine gq_st (f := fun _ kk => gf_putRF flX1_39 rfl rfl rfl rfl dX1_init_77 (w_tag W17 (by decide) (rfl : gr_tl[1]? = some (1, 0))) ⟨rfl, rfl⟩ kk) ?_
  have W18 : wS 131 1955 10 (wF wLa zF9 0) (hp_setR h17 1 11 (some 130)) := w_ref W17 (by decide) rfl rfl
  generalize hp_setR h17 1 11 (some 130) = h18 at W18 ⊢
  refine gq_st (f := fun _ kk => gf_aload_n 0 dX1_init_80 rfl rfl kk) ?_
  refine gq_st (f := fun _ kk => gf_bipush (121) dX1_init_81 rfl kk) ?_
  refine gq_st (f := fun _ kk => gf_newa (atype := .boolean) 16 121 (by decide) rfl na_boolean rfl (by decide) dX1_init_83 kk) ?_
  rw [W18.1.1]
  have W19 : wS 132 2076 10 (wF wLa zF9 0) (hp_new h18 16 121 121) := w_new W18 (t := 16) (len := 121) rfl rfl rfl
  generalize hp_new h18 16 121 121 = h19 at W19 ⊢
  refine gq_st (f := fun _ kk => gf_putRF flX1_42 rfl rfl rfl rfl dX1_init_85 (w_tag W19 (by decide) (rfl : gr_tl[1]? = some (1, 0))) ⟨rfl, rfl⟩ kk) ?_
  have W20 : wS 132 2076 11 (wF wLa zF9 0) (hp_setR h19 1 12 (some 131)) := w_ref W19 (by decide) rfl rfl
  generalize hp_setR h19 1 12 (some 131) = h20 at W20 ⊢
  exact n_X1_1_p88 E hd W20
theorem n_X1_1 (E : gE) {d : Nat} (hd : 3 ≤ d) {h0 : hp_T} (W0 : wS 2 29 0 (wF wLa zF9 0) h0) : ∃ h1, ev E mX1_init d [.ref (E.1 + 1)] h0 none h1 ∧ (wS 145 2417 16 (wF wLa zF9 0)) h1 := by
  obtain ⟨h1, k1, W1⟩ := n_X1_1_p0 E hd W0
  exact ⟨h1, ev_of rfl (fun _ => rfl) (Nat.le_of_ble_eq_true rfl) k1, W1⟩
theorem n_X3_145_p0 (E : gE) {d : Nat} (hd : 3 ≤ d) {h0 : hp_T} (W0 : wS 146 2422 17 (wF wLa zF9 0) h0) : gq E mX3_init d 0 [(0, .ref (E.1 + 145))] [] h0 none (wS 150 2470 21 (wF wLa zF9 0)) := by
  refine gq_st (f := fun _ kk => gf_aload_n 0 dX3_init_0 rfl rfl kk) ?_
  refine gq_st (f := fun _ kk => gf_objInit lkX3_3 kObj.1 kObj.2 dX3_init_1 (by omega) (Nat.le_of_ble_eq_true rfl) kk) ?_
  refine gq_st (f := fun _ kk => gf_aload_n 0 dX3_init_4 rfl rfl kk) ?_
  refine gq_st (f := fun _ kk => gf_bipush (12) dX3_init_5 rfl kk) ?_
  refine gq_st (f := fun _ kk => gf_newa (atype := .int) 14 12 (by decide) rfl na_int rfl (by decide) dX3_init_7 kk) ?_
  rw [W0.1.1]
  have W1 : wS 147 2434 17 (wF wLa zF9 0) (hp_new h0 14 12 12) := w_new W0 (t := 14) (len := 12) rfl rfl rfl
  generalize hp_new h0 14 12 12 = h1 at W1 ⊢
  refine gq_st (f := fun _ kk => gf_putRF flX3_9 rfl rfl rfl rfl dX3_init_9 (w_tag W1 (by decide) (rfl : gr_tl[145]? = some (3, 0))) ⟨rfl, rfl⟩ kk) ?_
  have W2 : wS 147 2434 18 (wF wLa zF9 0) (hp_setR h1 145 1 (some 146)) := w_ref W1 (by decide) rfl rfl
  generalize hp_setR h1 145 1 (some 146) = h2 at W2 ⊢
  refine gq_st (f := fun _ kk => gf_aload_n 0 dX3_init_12 rfl rfl kk) ?_
  refine gq_st (f := fun _ kk => gf_bipush (12) dX3_init_13 rfl kk) ?_
  refine gq_st (f := fun _ kk => gf_newa (atype := .int) 14 12 (by decide) rfl na_int rfl (by decide) dX3_init_15 kk) ?_
  rw [W2.1.1]
  have W3 : wS 148 2446 18 (wF wLa zF9 0) (hp_new h2 14 12 12) := w_new W2 (t := 14) (len := 12) rfl rfl rfl
  generalize hp_new h2 14 12 12 = h3 at W3 ⊢
  refine gq_st (f := fun _ kk => gf_putRF flX3_15 rfl rfl rfl rfl dX3_init_17 (w_tag W3 (by decide) (rfl : gr_tl[145]? = some (3, 0))) ⟨rfl, rfl⟩ kk) ?_
  have W4 : wS 148 2446 19 (wF wLa zF9 0) (hp_setR h3 145 2 (some 147)) := w_ref W3 (by decide) rfl rfl
  generalize hp_setR h3 145 2 (some 147) = h4 at W4 ⊢
  refine gq_st (f := fun _ kk => gf_aload_n 0 dX3_init_20 rfl rfl kk) ?_
  refine gq_st (f := fun _ kk => gf_bipush (12) dX3_init_21 rfl kk) ?_
  refine gq_st (f := fun _ kk => gf_newa (atype := .int) 14 12 (by decide) rfl na_int rfl (by decide) dX3_init_23 kk) ?_
  rw [W4.1.1]
  have W5 : wS 149 2458 19 (wF wLa zF9 0) (hp_new h4 14 12 12) := w_new W4 (t := 14) (len := 12) rfl rfl rfl
  generalize hp_new h4 14 12 12 = h5 at W5 ⊢
  refine gq_st (f := fun _ kk => gf_putRF flX3_18 rfl rfl rfl rfl dX3_init_25 (w_tag W5 (by decide) (rfl : gr_tl[145]? = some (3, 0))) ⟨rfl, rfl⟩ kk) ?_
  have W6 : wS 149 2458 20 (wF wLa zF9 0) (hp_setR h5 145 3 (some 148)) := w_ref W5 (by decide) rfl rfl
  generalize hp_setR h5 145 3 (some 148) = h6 at W6 ⊢
  refine gq_st (f := fun _ kk => gf_aload_n 0 dX3_init_28 rfl rfl kk) ?_
  refine gq_st (f := fun _ kk => gf_bipush (12) dX3_init_29 rfl kk) ?_
  refine gq_st (f := fun _ kk => gf_newa (atype := .int) 14 12 (by decide) rfl na_int rfl (by decide) dX3_init_31 kk) ?_
  rw [W6.1.1]
  have W7 : wS 150 2470 20 (wF wLa zF9 0) (hp_new h6 14 12 12) := w_new W6 (t := 14) (len := 12) rfl rfl rfl
  generalize hp_new h6 14 12 12 = h7 at W7 ⊢
  refine gq_st (f := fun _ kk => gf_putRF flX3_21 rfl rfl rfl rfl dX3_init_33 (w_tag W7 (by decide) (rfl : gr_tl[145]? = some (3, 0))) ⟨rfl, rfl⟩ kk) ?_
  have W8 : wS 150 2470 21 (wF wLa zF9 0) (hp_setR h7 145 4 (some 149)) := w_ref W7 (by decide) rfl rfl
  generalize hp_setR h7 145 4 (some 149) = h8 at W8 ⊢
  exact ⟨_, gf_vretE dX3_init_36 rfl rfl, W8⟩
theorem n_X3_145 (E : gE) {d : Nat} (hd : 3 ≤ d) {h0 : hp_T} (W0 : wS 146 2422 17 (wF wLa zF9 0) h0) : ∃ h1, ev E mX3_init d [.ref (E.1 + 145)] h0 none h1 ∧ (wS 150 2470 21 (wF wLa zF9 0)) h1 := by
  obtain ⟨h1, k1, W1⟩ := n_X3_145_p0 E hd W0
  exact ⟨h1, ev_of rfl (fun _ => rfl) (Nat.le_of_ble_eq_true rfl) k1, W1⟩
theorem n_X9_150_p0 (E : gE) {d : Nat} (hd : 3 ≤ d) {h0 : hp_T} (W0 : wS 151 2484 22 (wF wLa zF9 0) h0) : gq E mX9_init d 0 [(0, .ref (E.1 + 150))] [] h0 none (wS 158 5532 29 (wF wLa zF9 1)) := by
  refine gq_st (f := fun _ kk => gf_aload_n 0 dX9_init_0 rfl rfl kk) ?_
  refine gq_st (f := fun _ kk => gf_objInit lkX9_3 kObj.1 kObj.2 dX9_init_1 (by omega) (Nat.le_of_ble_eq_true rfl) kk) ?_
  refine gq_st (f := fun _ kk => gf_aload_n 0 dX9_init_4 rfl rfl kk) ?_
  refine gq_st (f := fun _ kk => gf_iconst (-1) dX9_init_5 rfl kk) ?_
  refine gq_st (f := fun _ kk => gf_putI flX9_9 rfl rfl dX9_init_6 (w_tag W0 (by decide) (rfl : gr_tl[150]? = some (9, 0))) ⟨rfl, rfl⟩ kk) ?_
  have W1 : wS 151 2484 22 (wF wLa zF9 1) (hp_setI h0 150 2 (-1)) := w_int W0 (by decide) rfl rfl
  generalize hp_setI h0 150 2 (-1) = h1 at W1 ⊢
  refine gq_st (f := fun _ kk => gf_aload_n 0 dX9_init_9 rfl rfl kk) ?_
  refine gq_st (f := fun _ kk => gf_sipush (600) dX9_init_10 rfl kk) ?_
  refine gq_st (f := fun _ kk => gf_newa (atype := .int) 14 600 (by decide) rfl na_int rfl (by decide) dX9_init_13 kk) ?_
  rw [W1.1.1]
  have W2 : wS 152 3084 22 (wF wLa zF9 1) (hp_new h1 14 600 600) := w_new W1 (t := 14) (len := 600) rfl rfl rfl
  generalize hp_new h1 14 600 600 = h2 at W2 ⊢
  refine gq_st (f := fun _ kk => gf_putRF flX9_15 rfl rfl rfl rfl dX9_init_15 (w_tag W2 (by decide) (rfl : gr_tl[150]? = some (9, 0))) ⟨rfl, rfl⟩ kk) ?_
  have W3 : wS 152 3084 23 (wF wLa zF9 1) (hp_setR h2 150 5 (some 151)) := w_ref W2 (by decide) rfl rfl
  generalize hp_setR h2 150 5 (some 151) = h3 at W3 ⊢
  refine gq_st (f := fun _ kk => gf_aload_n 0 dX9_init_18 rfl rfl kk) ?_
  refine gq_st (f := fun _ kk => gf_bipush (24) dX9_init_19 rfl kk) ?_
  refine gq_st (f := fun _ kk => gf_newa (atype := .int) 14 24 (by decide) rfl na_int rfl (by decide) dX9_init_21 kk) ?_
  rw [W3.1.1]
  have W4 : wS 153 3108 23 (wF wLa zF9 1) (hp_new h3 14 24 24) := w_new W3 (t := 14) (len := 24) rfl rfl rfl
  generalize hp_new h3 14 24 24 = h4 at W4 ⊢
  refine gq_st (f := fun _ kk => gf_putRF flX9_19 rfl rfl rfl rfl dX9_init_23 (w_tag W4 (by decide) (rfl : gr_tl[150]? = some (9, 0))) ⟨rfl, rfl⟩ kk) ?_
  have W5 : wS 153 3108 24 (wF wLa zF9 1) (hp_setR h4 150 6 (some 152)) := w_ref W4 (by decide) rfl rfl
  generalize hp_setR h4 150 6 (some 152) = h5 at W5 ⊢
  refine gq_st (f := fun _ kk => gf_aload_n 0 dX9_init_26 rfl rfl kk) ?_
  refine gq_st (f := fun _ kk => gf_bipush (24) dX9_init_27 rfl kk) ?_
  refine gq_st (f := fun _ kk => gf_newa (atype := .int) 14 24 (by decide) rfl na_int rfl (by decide) dX9_init_29 kk) ?_
  rw [W5.1.1]
  have W6 : wS 154 3132 24 (wF wLa zF9 1) (hp_new h5 14 24 24) := w_new W5 (t := 14) (len := 24) rfl rfl rfl
  generalize hp_new h5 14 24 24 = h6 at W6 ⊢
  refine gq_st (f := fun _ kk => gf_putRF flX9_22 rfl rfl rfl rfl dX9_init_31 (w_tag W6 (by decide) (rfl : gr_tl[150]? = some (9, 0))) ⟨rfl, rfl⟩ kk) ?_
  have W7 : wS 154 3132 25 (wF wLa zF9 1) (hp_setR h6 150 7 (some 153)) := w_ref W6 (by decide) rfl rfl
  generalize hp_setR h6 150 7 (some 153) = h7 at W7 ⊢
  refine gq_st (f := fun _ kk => gf_aload_n 0 dX9_init_34 rfl rfl kk) ?_
  refine gq_st (f := fun _ kk => gf_sipush (600) dX9_init_35 rfl kk) ?_
  refine gq_st (f := fun _ kk => gf_newa (atype := .int) 14 600 (by decide) rfl na_int rfl (by decide) dX9_init_38 kk) ?_
  rw [W7.1.1]
  have W8 : wS 155 3732 25 (wF wLa zF9 1) (hp_new h7 14 600 600) := w_new W7 (t := 14) (len := 600) rfl rfl rfl
  generalize hp_new h7 14 600 600 = h8 at W8 ⊢
  refine gq_st (f := fun _ kk => gf_putRF flX9_25 rfl rfl rfl rfl dX9_init_40 (w_tag W8 (by decide) (rfl : gr_tl[150]? = some (9, 0))) ⟨rfl, rfl⟩ kk) ?_
  have W9 : wS 155 3732 26 (wF wLa zF9 1) (hp_setR h8 150 8 (some 154)) := w_ref W8 (by decide) rfl rfl
  generalize hp_setR h8 150 8 (some 154) = h9 at W9 ⊢
  refine gq_st (f := fun _ kk => gf_aload_n 0 dX9_init_43 rfl rfl kk) ?_
  refine gq_st (f := fun _ kk => gf_sipush (600) dX9_init_44 rfl kk) ?_
  refine gq_st (f := fun _ kk => gf_newa (atype := .int) 14 600 (by decide) rfl na_int rfl (by decide) dX9_init_47 kk) ?_
  rw [W9.1.1]
  have W10 : wS 156 4332 26 (wF wLa zF9 1) (hp_new h9 14 600 600) := w_new W9 (t := 14) (len := 600) rfl rfl rfl
  generalize hp_new h9 14 600 600 = h10 at W10 ⊢
  refine gq_st (f := fun _ kk => gf_putRF flX9_28 rfl rfl rfl rfl dX9_init_49 (w_tag W10 (by decide) (rfl : gr_tl[150]? = some (9, 0))) ⟨rfl, rfl⟩ kk) ?_
  have W11 : wS 156 4332 27 (wF wLa zF9 1) (hp_setR h10 150 9 (some 155)) := w_ref W10 (by decide) rfl rfl
  generalize hp_setR h10 150 9 (some 155) = h11 at W11 ⊢
  refine gq_st (f := fun _ kk => gf_aload_n 0 dX9_init_52 rfl rfl kk) ?_
  refine gq_st (f := fun _ kk => gf_sipush (600) dX9_init_53 rfl kk) ?_
  refine gq_st (f := fun _ kk => gf_newa (atype := .int) 14 600 (by decide) rfl na_int rfl (by decide) dX9_init_56 kk) ?_
  rw [W11.1.1]
  have W12 : wS 157 4932 27 (wF wLa zF9 1) (hp_new h11 14 600 600) := w_new W11 (t := 14) (len := 600) rfl rfl rfl
  generalize hp_new h11 14 600 600 = h12 at W12 ⊢
  refine gq_st (f := fun _ kk => gf_putRF flX9_31 rfl rfl rfl rfl dX9_init_58 (w_tag W12 (by decide) (rfl : gr_tl[150]? = some (9, 0))) ⟨rfl, rfl⟩ kk) ?_
  have W13 : wS 157 4932 28 (wF wLa zF9 1) (hp_setR h12 150 10 (some 156)) := w_ref W12 (by decide) rfl rfl
  generalize hp_setR h12 150 10 (some 156) = h13 at W13 ⊢
  refine gq_st (f := fun _ kk => gf_aload_n 0 dX9_init_61 rfl rfl kk) ?_
  refine gq_st (f := fun _ kk => gf_sipush (600) dX9_init_62 rfl kk) ?_
  refine gq_st (f := fun _ kk => gf_newa (atype := .int) 14 600 (by decide) rfl na_int rfl (by decide) dX9_init_65 kk) ?_
  rw [W13.1.1]
  have W14 : wS 158 5532 28 (wF wLa zF9 1) (hp_new h13 14 600 600) := w_new W13 (t := 14) (len := 600) rfl rfl rfl
  generalize hp_new h13 14 600 600 = h14 at W14 ⊢
  refine gq_st (f := fun _ kk => gf_putRF flX9_34 rfl rfl rfl rfl dX9_init_67 (w_tag W14 (by decide) (rfl : gr_tl[150]? = some (9, 0))) ⟨rfl, rfl⟩ kk) ?_
  have W15 : wS 158 5532 29 (wF wLa zF9 1) (hp_setR h14 150 11 (some 157)) := w_ref W14 (by decide) rfl rfl
  generalize hp_setR h14 150 11 (some 157) = h15 at W15 ⊢
  exact ⟨_, gf_vretE dX9_init_70 rfl rfl, W15⟩
theorem n_X9_150 (E : gE) {d : Nat} (hd : 3 ≤ d) {h0 : hp_T} (W0 : wS 151 2484 22 (wF wLa zF9 0) h0) : ∃ h1, ev E mX9_init d [.ref (E.1 + 150)] h0 none h1 ∧ (wS 158 5532 29 (wF wLa zF9 1)) h1 := by
  obtain ⟨h1, k1, W1⟩ := n_X9_150_p0 E hd W0
  exact ⟨h1, ev_of rfl (fun _ => rfl) (Nat.le_of_ble_eq_true rfl) k1, W1⟩
theorem n_X0_158_p0 (E : gE) {d : Nat} (hd : 3 ≤ d) {h0 : hp_T} (W0 : wS 159 5540 30 (wF wLa zF9 1) h0) : gq E mX0_init d 0 [(0, .ref (E.1 + 158))] [] h0 none (wS 165 6746 36 (wF wLa zF9 2)) := by
  refine gq_st (f := fun _ kk => gf_aload_n 0 dX0_init_0 rfl rfl kk) ?_
  refine gq_st (f := fun _ kk => gf_objInit lkX0_3 kObj.1 kObj.2 dX0_init_1 (by omega) (Nat.le_of_ble_eq_true rfl) kk) ?_
  refine gq_st (f := fun _ kk => gf_aload_n 0 dX0_init_4 rfl rfl kk) ?_
  refine gq_st (f := fun _ kk => gf_iconst (-1) dX0_init_5 rfl kk) ?_
  refine gq_st (f := fun _ kk => gf_putI flX0_9 rfl rfl dX0_init_6 (w_tag W0 (by decide) (rfl : gr_tl[158]? = some (0, 0))) ⟨rfl, rfl⟩ kk) ?_
  have W1 : wS 159 5540 30 (wF wLa zF9 2) (hp_setI h0 158 1 (-1)) := w_int W0 (by decide) rfl rfl
  generalize hp_setI h0 158 1 (-1) = h1 at W1 ⊢
  refine gq_st (f := fun _ kk => gf_aload_n 0 dX0_init_9 rfl rfl kk) ?_
  refine gq_st (f := fun _ kk => gf_sipush (201) dX0_init_10 rfl kk) ?_
  refine gq_st (f := fun _ kk => gf_newa (atype := .int) 14 201 (by decide) rfl na_int rfl (by decide) dX0_init_13 kk) ?_
  rw [W1.1.1]
  have W2 : wS 160 5741 30 (wF wLa zF9 2) (hp_new h1 14 201 201) := w_new W1 (t := 14) (len := 201) rfl rfl rfl
  generalize hp_new h1 14 201 201 = h2 at W2 ⊢
  refine gq_st (f := fun _ kk => gf_putRF flX0_15 rfl rfl rfl rfl dX0_init_15 (w_tag W2 (by decide) (rfl : gr_tl[158]? = some (0, 0))) ⟨rfl, rfl⟩ kk) ?_
  have W3 : wS 160 5741 31 (wF wLa zF9 2) (hp_setR h2 158 2 (some 159)) := w_ref W2 (by decide) rfl rfl
  generalize hp_setR h2 158 2 (some 159) = h3 at W3 ⊢
  refine gq_st (f := fun _ kk => gf_aload_n 0 dX0_init_18 rfl rfl kk) ?_
  refine gq_st (f := fun _ kk => gf_sipush (201) dX0_init_19 rfl kk) ?_
  refine gq_st (f := fun _ kk => gf_newa (atype := .int) 14 201 (by decide) rfl na_int rfl (by decide) dX0_init_22 kk) ?_
  rw [W3.1.1]
  have W4 : wS 161 5942 31 (wF wLa zF9 2) (hp_new h3 14 201 201) := w_new W3 (t := 14) (len := 201) rfl rfl rfl
  generalize hp_new h3 14 201 201 = h4 at W4 ⊢
  refine gq_st (f := fun _ kk => gf_putRF flX0_19 rfl rfl rfl rfl dX0_init_24 (w_tag W4 (by decide) (rfl : gr_tl[158]? = some (0, 0))) ⟨rfl, rfl⟩ kk) ?_
  have W5 : wS 161 5942 32 (wF wLa zF9 2) (hp_setR h4 158 3 (some 160)) := w_ref W4 (by decide) rfl rfl
  generalize hp_setR h4 158 3 (some 160) = h5 at W5 ⊢
  refine gq_st (f := fun _ kk => gf_aload_n 0 dX0_init_27 rfl rfl kk) ?_
  refine gq_st (f := fun _ kk => gf_sipush (201) dX0_init_28 rfl kk) ?_
  refine gq_st (f := fun _ kk => gf_newa (atype := .int) 14 201 (by decide) rfl na_int rfl (by decide) dX0_init_31 kk) ?_
  rw [W5.1.1]
  have W6 : wS 162 6143 32 (wF wLa zF9 2) (hp_new h5 14 201 201) := w_new W5 (t := 14) (len := 201) rfl rfl rfl
  generalize hp_new h5 14 201 201 = h6 at W6 ⊢
  refine gq_st (f := fun _ kk => gf_putRF flX0_22 rfl rfl rfl rfl dX0_init_33 (w_tag W6 (by decide) (rfl : gr_tl[158]? = some (0, 0))) ⟨rfl, rfl⟩ kk) ?_
  have W7 : wS 162 6143 33 (wF wLa zF9 2) (hp_setR h6 158 4 (some 161)) := w_ref W6 (by decide) rfl rfl
  generalize hp_setR h6 158 4 (some 161) = h7 at W7 ⊢
  refine gq_st (f := fun _ kk => gf_aload_n 0 dX0_init_36 rfl rfl kk) ?_
  refine gq_st (f := fun _ kk => gf_sipush (201) dX0_init_37 rfl kk) ?_
  refine gq_st (f := fun _ kk => gf_newT 201 nw_X0_25 rfl (by decide) dX0_init_40 kk) ?_
  rw [W7.1.1]
  have W8 : wS 163 6344 33 (wF wLa zF9 2) (hp_new h7 17 201 201) := w_new W7 (t := 17) (len := 201) rfl rfl rfl
  generalize hp_new h7 17 201 201 = h8 at W8 ⊢
  refine gq_st (f := fun _ kk => gf_putRF flX0_27 rfl rfl rfl rfl dX0_init_43 (w_tag W8 (by decide) (rfl : gr_tl[158]? = some (0, 0))) ⟨rfl, rfl⟩ kk) ?_
  have W9 : wS 163 6344 34 (wF wLa zF9 2) (hp_setR h8 158 5 (some 162)) := w_ref W8 (by decide) rfl rfl
  generalize hp_setR h8 158 5 (some 162) = h9 at W9 ⊢
  refine gq_st (f := fun _ kk => gf_aload_n 0 dX0_init_46 rfl rfl kk) ?_
  refine gq_st (f := fun _ kk => gf_sipush (201) dX0_init_47 rfl kk) ?_
  refine gq_st (f := fun _ kk => gf_newa (atype := .int) 14 201 (by decide) rfl na_int rfl (by decide) dX0_init_50 kk) ?_
  rw [W9.1.1]
  have W10 : wS 164 6545 34 (wF wLa zF9 2) (hp_new h9 14 201 201) := w_new W9 (t := 14) (len := 201) rfl rfl rfl
  generalize hp_new h9 14 201 201 = h10 at W10 ⊢
  refine gq_st (f := fun _ kk => gf_putRF flX0_31 rfl rfl rfl rfl dX0_init_52 (w_tag W10 (by decide) (rfl : gr_tl[158]? = some (0, 0))) ⟨rfl, rfl⟩ kk) ?_
  have W11 : wS 164 6545 35 (wF wLa zF9 2) (hp_setR h10 158 6 (some 163)) := w_ref W10 (by decide) rfl rfl
  generalize hp_setR h10 158 6 (some 163) = h11 at W11 ⊢
  refine gq_st (f := fun _ kk => gf_aload_n 0 dX0_init_55 rfl rfl kk) ?_
  refine gq_st (f := fun _ kk => gf_sipush (201) dX0_init_56 rfl kk) ?_
  refine gq_st (f := fun _ kk => gf_newa (atype := .int) 14 201 (by decide) rfl na_int rfl (by decide) dX0_init_59 kk) ?_
  rw [W11.1.1]
  have W12 : wS 165 6746 35 (wF wLa zF9 2) (hp_new h11 14 201 201) := w_new W11 (t := 14) (len := 201) rfl rfl rfl
  generalize hp_new h11 14 201 201 = h12 at W12 ⊢
  refine gq_st (f := fun _ kk => gf_putRF flX0_34 rfl rfl rfl rfl dX0_init_61 (w_tag W12 (by decide) (rfl : gr_tl[158]? = some (0, 0))) ⟨rfl, rfl⟩ kk) ?_
  have W13 : wS 165 6746 36 (wF wLa zF9 2) (hp_setR h12 158 7 (some 164)) := w_ref W12 (by decide) rfl rfl
  generalize hp_setR h12 158 7 (some 164) = h13 at W13 ⊢
  exact ⟨_, gf_vretE dX0_init_64 rfl rfl, W13⟩
theorem n_X0_158 (E : gE) {d : Nat} (hd : 3 ≤ d) {h0 : hp_T} (W0 : wS 159 5540 30 (wF wLa zF9 1) h0) : ∃ h1, ev E mX0_init d [.ref (E.1 + 158)] h0 none h1 ∧ (wS 165 6746 36 (wF wLa zF9 2)) h1 := by
  obtain ⟨h1, k1, W1⟩ := n_X0_158_p0 E hd W0
  exact ⟨h1, ev_of rfl (fun _ => rfl) (Nat.le_of_ble_eq_true rfl) k1, W1⟩
theorem n_X7_165_p0 (E : gE) {d : Nat} (hd : 3 ≤ d) {h0 : hp_T} (W0 : wS 166 6752 37 (wF wLa zF9 2) h0) : gq E mX7_init d 0 [(0, .ref (E.1 + 165))] [] h0 none (wS 171 7321 42 (wF wLa zF9 2)) := by
  refine gq_st (f := fun _ kk => gf_aload_n 0 dX7_init_0 rfl rfl kk) ?_
  refine gq_st (f := fun _ kk => gf_objInit lkX7_3 kObj.1 kObj.2 dX7_init_1 (by omega) (Nat.le_of_ble_eq_true rfl) kk) ?_
  refine gq_st (f := fun _ kk => gf_aload_n 0 dX7_init_4 rfl rfl kk) ?_
  refine gq_st (f := fun _ kk => gf_bipush (9) dX7_init_5 rfl kk) ?_
  refine gq_st (f := fun _ kk => gf_newT 9 nw_X7_9 rfl (by decide) dX7_init_7 kk) ?_
  rw [W0.1.1]
  have W1 : wS 167 6761 37 (wF wLa zF9 2) (hp_new h0 17 9 9) := w_new W0 (t := 17) (len := 9) rfl rfl rfl
  generalize hp_new h0 17 9 9 = h1 at W1 ⊢
  refine gq_st (f := fun _ kk => gf_putRF flX7_11 rfl rfl rfl rfl dX7_init_10 (w_tag W1 (by decide) (rfl : gr_tl[165]? = some (7, 0))) ⟨rfl, rfl⟩ kk) ?_
  have W2 : wS 167 6761 38 (wF wLa zF9 2) (hp_setR h1 165 1 (some 166)) := w_ref W1 (by decide) rfl rfl
  generalize hp_setR h1 165 1 (some 166) = h2 at W2 ⊢
  refine gq_st (f := fun _ kk => gf_aload_n 0 dX7_init_13 rfl rfl kk) ?_
  refine gq_st (f := fun _ kk => gf_sipush (200) dX7_init_14 rfl kk) ?_
  refine gq_st (f := fun _ kk => gf_newa (atype := .int) 14 200 (by decide) rfl na_int rfl (by decide) dX7_init_17 kk) ?_
  rw [W2.1.1]
  have W3 : wS 168 6961 38 (wF wLa zF9 2) (hp_new h2 14 200 200) := w_new W2 (t := 14) (len := 200) rfl rfl rfl
  generalize hp_new h2 14 200 200 = h3 at W3 ⊢
  refine gq_st (f := fun _ kk => gf_putRF flX7_17 rfl rfl rfl rfl dX7_init_19 (w_tag W3 (by decide) (rfl : gr_tl[165]? = some (7, 0))) ⟨rfl, rfl⟩ kk) ?_
  have W4 : wS 168 6961 39 (wF wLa zF9 2) (hp_setR h3 165 2 (some 167)) := w_ref W3 (by decide) rfl rfl
  generalize hp_setR h3 165 2 (some 167) = h4 at W4 ⊢
  refine gq_st (f := fun _ kk => gf_aload_n 0 dX7_init_22 rfl rfl kk) ?_
  refine gq_st (f := fun _ kk => gf_bipush (120) dX7_init_23 rfl kk) ?_
  refine gq_st (f := fun _ kk => gf_newa (atype := .int) 14 120 (by decide) rfl na_int rfl (by decide) dX7_init_25 kk) ?_
  rw [W4.1.1]
  have W5 : wS 169 7081 39 (wF wLa zF9 2) (hp_new h4 14 120 120) := w_new W4 (t := 14) (len := 120) rfl rfl rfl
  generalize hp_new h4 14 120 120 = h5 at W5 ⊢
  refine gq_st (f := fun _ kk => gf_putRF flX7_21 rfl rfl rfl rfl dX7_init_27 (w_tag W5 (by decide) (rfl : gr_tl[165]? = some (7, 0))) ⟨rfl, rfl⟩ kk) ?_
  have W6 : wS 169 7081 40 (wF wLa zF9 2) (hp_setR h5 165 3 (some 168)) := w_ref W5 (by decide) rfl rfl
  generalize hp_setR h5 165 3 (some 168) = h6 at W6 ⊢
  refine gq_st (f := fun _ kk => gf_aload_n 0 dX7_init_30 rfl rfl kk) ?_
  refine gq_st (f := fun _ kk => gf_bipush (120) dX7_init_31 rfl kk) ?_
  refine gq_st (f := fun _ kk => gf_newa (atype := .int) 14 120 (by decide) rfl na_int rfl (by decide) dX7_init_33 kk) ?_
  rw [W6.1.1]
  have W7 : wS 170 7201 40 (wF wLa zF9 2) (hp_new h6 14 120 120) := w_new W6 (t := 14) (len := 120) rfl rfl rfl
  generalize hp_new h6 14 120 120 = h7 at W7 ⊢
  refine gq_st (f := fun _ kk => gf_putRF flX7_24 rfl rfl rfl rfl dX7_init_35 (w_tag W7 (by decide) (rfl : gr_tl[165]? = some (7, 0))) ⟨rfl, rfl⟩ kk) ?_
  have W8 : wS 170 7201 41 (wF wLa zF9 2) (hp_setR h7 165 4 (some 169)) := w_ref W7 (by decide) rfl rfl
  generalize hp_setR h7 165 4 (some 169) = h8 at W8 ⊢
  refine gq_st (f := fun _ kk => gf_aload_n 0 dX7_init_38 rfl rfl kk) ?_
  refine gq_st (f := fun _ kk => gf_bipush (120) dX7_init_39 rfl kk) ?_
  refine gq_st (f := fun _ kk => gf_newa (atype := .int) 14 120 (by decide) rfl na_int rfl (by decide) dX7_init_41 kk) ?_
  rw [W8.1.1]
  have W9 : wS 171 7321 41 (wF wLa zF9 2) (hp_new h8 14 120 120) := w_new W8 (t := 14) (len := 120) rfl rfl rfl
  generalize hp_new h8 14 120 120 = h9 at W9 ⊢
  refine gq_st (f := fun _ kk => gf_putRF flX7_27 rfl rfl rfl rfl dX7_init_43 (w_tag W9 (by decide) (rfl : gr_tl[165]? = some (7, 0))) ⟨rfl, rfl⟩ kk) ?_
  have W10 : wS 171 7321 42 (wF wLa zF9 2) (hp_setR h9 165 5 (some 170)) := w_ref W9 (by decide) rfl rfl
  generalize hp_setR h9 165 5 (some 170) = h10 at W10 ⊢
  exact ⟨_, gf_vretE dX7_init_46 rfl rfl, W10⟩
theorem n_X7_165 (E : gE) {d : Nat} (hd : 3 ≤ d) {h0 : hp_T} (W0 : wS 166 6752 37 (wF wLa zF9 2) h0) : ∃ h1, ev E mX7_init d [.ref (E.1 + 165)] h0 none h1 ∧ (wS 171 7321 42 (wF wLa zF9 2)) h1 := by
  obtain ⟨h1, k1, W1⟩ := n_X7_165_p0 E hd W0
  exact ⟨h1, ev_of rfl (fun _ => rfl) (Nat.le_of_ble_eq_true rfl) k1, W1⟩
theorem n_X6_171_p0 (E : gE) {d : Nat} (hd : 3 ≤ d) {h0 : hp_T} (W0 : wS 172 7326 43 (wF wLa zF9 2) h0) : gq E mX6_init d 0 [(0, .ref (E.1 + 171)), (1, .ref (E.1 + 1)), (2, .ref (E.1 + 165))] [] h0 none (wS 174 7397 47 (wF wLa zF9 2)) := by
  refine gq_st (f := fun _ kk => gf_aload_n 0 dX6_init_0 rfl rfl kk) ?_
  refine gq_st (f := fun _ kk => gf_objInit lkX6_3 kObj.1 kObj.2 dX6_init_1 (by omega) (Nat.le_of_ble_eq_true rfl) kk) ?_
  refine gq_st (f := fun _ kk => gf_aload_n 0 dX6_init_4 rfl rfl kk) ?_
  refine gq_st (f := fun _ kk => gf_bipush (7) dX6_init_5 rfl kk) ?_
  refine gq_st (f := fun _ kk => gf_newa (atype := .int) 14 7 (by decide) rfl na_int rfl (by decide) dX6_init_7 kk) ?_
  rw [W0.1.1]
  have W1 : wS 173 7333 43 (wF wLa zF9 2) (hp_new h0 14 7 7) := w_new W0 (t := 14) (len := 7) rfl rfl rfl
  generalize hp_new h0 14 7 7 = h1 at W1 ⊢
  refine gq_st (f := fun _ kk => gf_putRF flX6_9 rfl rfl rfl rfl dX6_init_9 (w_tag W1 (by decide) (rfl : gr_tl[171]? = some (6, 0))) ⟨rfl, rfl⟩ kk) ?_
  have W2 : wS 173 7333 44 (wF wLa zF9 2) (hp_setR h1 171 2 (some 172)) := w_ref W1 (by decide) rfl rfl
  generalize hp_setR h1 171 2 (some 172) = h2 at W2 ⊢
  refine gq_st (f := fun _ kk => gf_aload_n 0 dX6_init_12 rfl rfl kk) ?_
  refine gq_st (f := fun _ kk => gf_bipush (64) dX6_init_13 rfl kk) ?_
  refine gq_st (f := fun _ kk => gf_newa (atype := .int) 14 64 (by decide) rfl na_int rfl (by decide) dX6_init_15 kk) ?_
  rw [W2.1.1]
  have W3 : wS 174 7397 44 (wF wLa zF9 2) (hp_new h2 14 64 64) := w_new W2 (t := 14) (len := 64) rfl rfl rfl
  generalize hp_new h2 14 64 64 = h3 at W3 ⊢
  refine gq_st (f := fun _ kk => gf_putRF flX6_15 rfl rfl rfl rfl dX6_init_17 (w_tag W3 (by decide) (rfl : gr_tl[171]? = some (6, 0))) ⟨rfl, rfl⟩ kk) ?_
  have W4 : wS 174 7397 45 (wF wLa zF9 2) (hp_setR h3 171 3 (some 173)) := w_ref W3 (by decide) rfl rfl
  generalize hp_setR h3 171 3 (some 173) = h4 at W4 ⊢
  refine gq_st (f := fun _ kk => gf_aload_n 0 dX6_init_20 rfl rfl kk) ?_
  refine gq_st (f := fun _ kk => gf_aload_n 1 dX6_init_21 rfl rfl kk) ?_
  refine gq_st (f := fun _ kk => gf_putRF flX6_18 rfl rfl rfl rfl dX6_init_22 (w_tag W4 (by decide) (rfl : gr_tl[171]? = some (6, 0))) ⟨rfl, rfl⟩ kk) ?_
  have W5 : wS 174 7397 46 (wF wLa zF9 2) (hp_setR h4 171 0 (some 1)) := w_ref W4 (by decide) rfl rfl
  generalize hp_setR h4 171 0 (some 1) = h5 at W5 ⊢
  refine gq_st (f := fun _ kk => gf_aload_n 0 dX6_init_25 rfl rfl kk) ?_
  refine gq_st (f := fun _ kk => gf_aload_n 2 dX6_init_26 rfl rfl kk) ?_
  refine gq_st (f := fun _ kk => gf_putRF flX6_22 rfl rfl rfl rfl dX6_init_27 (w_tag W5 (by decide) (rfl : gr_tl[171]? = some (6, 0))) ⟨rfl, rfl⟩ kk) ?_
  have W6 : wS 174 7397 47 (wF wLa zF9 2) (hp_setR h5 171 1 (some 165)) := w_ref W5 (by decide) rfl rfl
  generalize hp_setR h5 171 1 (some 165) = h6 at W6 ⊢
  exact ⟨_, gf_vretE dX6_init_30 rfl rfl, W6⟩
theorem n_X6_171 (E : gE) {d : Nat} (hd : 3 ≤ d) {h0 : hp_T} (W0 : wS 172 7326 43 (wF wLa zF9 2) h0) : ∃ h1, ev E mX6_init d [.ref (E.1 + 171), .ref (E.1 + 1), .ref (E.1 + 165)] h0 none h1 ∧ (wS 174 7397 47 (wF wLa zF9 2)) h1 := by
  obtain ⟨h1, k1, W1⟩ := n_X6_171_p0 E hd W0
  exact ⟨h1, ev_of rfl (fun _ => rfl) (Nat.le_of_ble_eq_true rfl) k1, W1⟩
theorem n_X5_174_p84 (E : gE) {d : Nat} (hd : 3 ≤ d) {h0 : hp_T} (W0 : wS 185 8397 58 (wF wLa zF9 2) h0) : gq E mX5_init d 84 [(0, .ref (E.1 + 174)), (1, .ref (E.1 + 1)), (2, .ref (E.1 + 145))] [] h0 none (wS 186 8409 61 (wF wLa zF9 2)) := by
  refine gq_st (f := fun _ kk => gf_aload_n 0 dX5_init_84 rfl rfl kk) ?_
  refine gq_st (f := fun _ kk => gf_bipush (12) dX5_init_85 rfl kk) ?_
  refine gq_st (f := fun _ kk => gf_newa (atype := .int) 14 12 (by decide) rfl na_int rfl (by decide) dX5_init_87 kk) ?_
  rw [W0.1.1]
  have W1 : wS 186 8409 58 (wF wLa zF9 2) (hp_new h0 14 12 12) := w_new W0 (t := 14) (len := 12) rfl rfl rfl
  generalize hp_new h0 14 12 12 = h1 at W1 ⊢
  refine gq_st (f := fun _ kk => gf_putRF flX5_43 rfl rfl rfl rfl dX5_init_89 (w_tag W1 (by decide) (rfl : gr_tl[174]? = some (5, 0))) ⟨rfl, rfl⟩ kk) ?_
  have W2 : wS 186 8409 59 (wF wLa zF9 2) (hp_setR h1 174 15 (some 185)) := w_ref W1 (by decide) rfl rfl
  generalize hp_setR h1 174 15 (some 185) = h2 at W2 ⊢
  refine gq_st (f := fun _ kk => gf_aload_n 0 dX5_init_92 rfl rfl kk) ?_
  refine gq_st (f := fun _ kk => gf_aload_n 1 dX5_init_93 rfl rfl kk) ?_
  refine gq_st (f := fun _ kk => gf_putRF flX5_46 rfl rfl rfl rfl dX5_init_94 (w_tag W2 (by decide) (rfl : gr_tl[174]? = some (5, 0))) ⟨rfl, rfl⟩ kk) ?_
  have W3 : wS 186 8409 60 (wF wLa zF9 2) (hp_setR h2 174 5 (some 1)) := w_ref W2 (by decide) rfl rfl
  generalize hp_setR h2 174 5 (some 1) = h3 at W3 ⊢
  refine gq_st (f := fun _ kk => gf_aload_n 0 dX5_init_97 rfl rfl kk) ?_
  refine gq_st (f := fun _ kk => gf_aload_n 2 dX5_init_98 rfl rfl kk) ?_
  refine gq_st (f := fun _ kk => gf_putRF flX5_50 rfl rfl rfl rfl dX5_init_99 (w_tag W3 (by decide) (rfl : gr_tl[174]? = some (5, 0))) ⟨rfl, rfl⟩ kk) ?_
  have W4 : wS 186 8409 61 (wF wLa zF9 2) (hp_setR h3 174 6 (some 145)) := w_ref W3 (by decide) rfl rfl
  generalize hp_setR h3 174 6 (some 145) = h4 at W4 ⊢
  exact ⟨_, gf_vretE dX5_init_102 rfl rfl, W4⟩
