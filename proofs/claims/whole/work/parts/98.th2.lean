/-! ===== constructors, 2 ===== -/
theorem n_X5_174_p0 (E : gE) {d : Nat} (hd : 3 ≤ d) {h0 : hp_T} (W0 : wS 175 7413 48 (wF wLa zF9 2) h0) : gq E mX5_init d 0 [(0, .ref (E.1 + 174)), (1, .ref (E.1 + 1)), (2, .ref (E.1 + 145))] [] h0 none (wS 186 8409 61 (wF wLa zF9 2)) := by
  refine gq_st (f := fun _ kk => gf_aload_n 0 dX5_init_0 rfl rfl kk) ?_
  refine gq_st (f := fun _ kk => gf_objInit lkX5_3 kObj.1 kObj.2 dX5_init_1 (by omega) (Nat.le_of_ble_eq_true rfl) kk) ?_
  refine gq_st (f := fun _ kk => gf_aload_n 0 dX5_init_4 rfl rfl kk) ?_
  refine gq_st (f := fun _ kk => gf_bipush (120) dX5_init_5 rfl kk) ?_
  refine gq_st (f := fun _ kk => gf_newa (atype := .boolean) 16 120 (by decide) rfl na_boolean rfl (by decide) dX5_init_7 kk) ?_
  rw [W0.1.1]
  have W1 : wS 176 7533 48 (wF wLa zF9 2) (hp_new h0 16 120 120) := w_new W0 (t := 16) (len := 120) rfl rfl rfl
  generalize hp_new h0 16 120 120 = h1 at W1 ⊢
  refine gq_st (f := fun _ kk => gf_putRF flX5_9 rfl rfl rfl rfl dX5_init_9 (w_tag W1 (by decide) (rfl : gr_tl[174]? = some (5, 0))) ⟨rfl, rfl⟩ kk) ?_
  have W2 : wS 176 7533 49 (wF wLa zF9 2) (hp_setR h1 174 3 (some 175)) := w_ref W1 (by decide) rfl rfl
  generalize hp_setR h1 174 3 (some 175) = h2 at W2 ⊢
  refine gq_st (f := fun _ kk => gf_aload_n 0 dX5_init_12 rfl rfl kk) ?_
  refine gq_st (f := fun _ kk => gf_bipush (120) dX5_init_13 rfl kk) ?_
  refine gq_st (f := fun _ kk => gf_newa (atype := .int) 14 120 (by decide) rfl na_int rfl (by decide) dX5_init_15 kk) ?_
  rw [W2.1.1]
  have W3 : wS 177 7653 49 (wF wLa zF9 2) (hp_new h2 14 120 120) := w_new W2 (t := 14) (len := 120) rfl rfl rfl
  generalize hp_new h2 14 120 120 = h3 at W3 ⊢
  refine gq_st (f := fun _ kk => gf_putRF flX5_15 rfl rfl rfl rfl dX5_init_17 (w_tag W3 (by decide) (rfl : gr_tl[174]? = some (5, 0))) ⟨rfl, rfl⟩ kk) ?_
  have W4 : wS 177 7653 50 (wF wLa zF9 2) (hp_setR h3 174 4 (some 176)) := w_ref W3 (by decide) rfl rfl
  generalize hp_setR h3 174 4 (some 176) = h4 at W4 ⊢
  refine gq_st (f := fun _ kk => gf_aload_n 0 dX5_init_20 rfl rfl kk) ?_
  refine gq_st (f := fun _ kk => gf_bipush (120) dX5_init_21 rfl kk) ?_
  refine gq_st (f := fun _ kk => gf_newa (atype := .int) 14 120 (by decide) rfl na_int rfl (by decide) dX5_init_23 kk) ?_
  rw [W4.1.1]
  have W5 : wS 178 7773 50 (wF wLa zF9 2) (hp_new h4 14 120 120) := w_new W4 (t := 14) (len := 120) rfl rfl rfl
  generalize hp_new h4 14 120 120 = h5 at W5 ⊢
  refine gq_st (f := fun _ kk => gf_putRF flX5_19 rfl rfl rfl rfl dX5_init_25 (w_tag W5 (by decide) (rfl : gr_tl[174]? = some (5, 0))) ⟨rfl, rfl⟩ kk) ?_
  have W6 : wS 178 7773 51 (wF wLa zF9 2) (hp_setR h5 174 7 (some 177)) := w_ref W5 (by decide) rfl rfl
  generalize hp_setR h5 174 7 (some 177) = h6 at W6 ⊢
  refine gq_st (f := fun _ kk => gf_aload_n 0 dX5_init_28 rfl rfl kk) ?_
  refine gq_st (f := fun _ kk => gf_bipush (120) dX5_init_29 rfl kk) ?_
  refine gq_st (f := fun _ kk => gf_newa (atype := .int) 14 120 (by decide) rfl na_int rfl (by decide) dX5_init_31 kk) ?_
  rw [W6.1.1]
  have W7 : wS 179 7893 51 (wF wLa zF9 2) (hp_new h6 14 120 120) := w_new W6 (t := 14) (len := 120) rfl rfl rfl
  generalize hp_new h6 14 120 120 = h7 at W7 ⊢
  refine gq_st (f := fun _ kk => gf_putRF flX5_22 rfl rfl rfl rfl dX5_init_33 (w_tag W7 (by decide) (rfl : gr_tl[174]? = some (5, 0))) ⟨rfl, rfl⟩ kk) ?_
  have W8 : wS 179 7893 52 (wF wLa zF9 2) (hp_setR h7 174 8 (some 178)) := w_ref W7 (by decide) rfl rfl
  generalize hp_setR h7 174 8 (some 178) = h8 at W8 ⊢
  refine gq_st (f := fun _ kk => gf_aload_n 0 dX5_init_36 rfl rfl kk) ?_
  refine gq_st (f := fun _ kk => gf_bipush (120) dX5_init_37 rfl kk) ?_
  refine gq_st (f := fun _ kk => gf_newa (atype := .int) 14 120 (by decide) rfl na_int rfl (by decide) dX5_init_39 kk) ?_
  rw [W8.1.1]
  have W9 : wS 180 8013 52 (wF wLa zF9 2) (hp_new h8 14 120 120) := w_new W8 (t := 14) (len := 120) rfl rfl rfl
  generalize hp_new h8 14 120 120 = h9 at W9 ⊢
  refine gq_st (f := fun _ kk => gf_putRF flX5_25 rfl rfl rfl rfl dX5_init_41 (w_tag W9 (by decide) (rfl : gr_tl[174]? = some (5, 0))) ⟨rfl, rfl⟩ kk) ?_
  have W10 : wS 180 8013 53 (wF wLa zF9 2) (hp_setR h9 174 9 (some 179)) := w_ref W9 (by decide) rfl rfl
  generalize hp_setR h9 174 9 (some 179) = h10 at W10 ⊢
  refine gq_st (f := fun _ kk => gf_aload_n 0 dX5_init_44 rfl rfl kk) ?_
  refine gq_st (f := fun _ kk => gf_bipush (120) dX5_init_45 rfl kk) ?_
  refine gq_st (f := fun _ kk => gf_newa (atype := .int) 14 120 (by decide) rfl na_int rfl (by decide) dX5_init_47 kk) ?_
  rw [W10.1.1]
  have W11 : wS 181 8133 53 (wF wLa zF9 2) (hp_new h10 14 120 120) := w_new W10 (t := 14) (len := 120) rfl rfl rfl
  generalize hp_new h10 14 120 120 = h11 at W11 ⊢
  refine gq_st (f := fun _ kk => gf_putRF flX5_28 rfl rfl rfl rfl dX5_init_49 (w_tag W11 (by decide) (rfl : gr_tl[174]? = some (5, 0))) ⟨rfl, rfl⟩ kk) ?_
  have W12 : wS 181 8133 54 (wF wLa zF9 2) (hp_setR h11 174 10 (some 180)) := w_ref W11 (by decide) rfl rfl
  generalize hp_setR h11 174 10 (some 180) = h12 at W12 ⊢
  refine gq_st (f := fun _ kk => gf_aload_n 0 dX5_init_52 rfl rfl kk) ?_
  refine gq_st (f := fun _ kk => gf_bipush (120) dX5_init_53 rfl kk) ?_
  refine gq_st (f := fun _ kk => gf_newa (atype := .int) 14 120 (by decide) rfl na_int rfl (by decide) dX5_init_55 kk) ?_
  rw [W12.1.1]
  have W13 : wS 182 8253 54 (wF wLa zF9 2) (hp_new h12 14 120 120) := w_new W12 (t := 14) (len := 120) rfl rfl rfl
  generalize hp_new h12 14 120 120 = h13 at W13 ⊢
  refine gq_st (f := fun _ kk => gf_putRF flX5_31 rfl rfl rfl rfl dX5_init_57 (w_tag W13 (by decide) (rfl : gr_tl[174]? = some (5, 0))) ⟨rfl, rfl⟩ kk) ?_
  have W14 : wS 182 8253 55 (wF wLa zF9 2) (hp_setR h13 174 11 (some 181)) := w_ref W13 (by decide) rfl rfl
  generalize hp_setR h13 174 11 (some 181) = h14 at W14 ⊢
  refine gq_st (f := fun _ kk => gf_aload_n 0 dX5_init_60 rfl rfl kk) ?_
  refine gq_st (f := fun _ kk => gf_bipush (120) dX5_init_61 rfl kk) ?_
  refine gq_st (f := fun _ kk => gf_newa (atype := .boolean) 16 120 (by decide) rfl na_boolean rfl (by decide) dX5_init_63 kk) ?_
  rw [W14.1.1]
  have W15 : wS 183 8373 55 (wF wLa zF9 2) (hp_new h14 16 120 120) := w_new W14 (t := 16) (len := 120) rfl rfl rfl
  generalize hp_new h14 16 120 120 = h15 at W15 ⊢
  refine gq_st (f := fun _ kk => gf_putRF flX5_34 rfl rfl rfl rfl dX5_init_65 (w_tag W15 (by decide) (rfl : gr_tl[174]? = some (5, 0))) ⟨rfl, rfl⟩ kk) ?_
  have W16 : wS 183 8373 56 (wF wLa zF9 2) (hp_setR h15 174 12 (some 182)) := w_ref W15 (by decide) rfl rfl
  generalize hp_setR h15 174 12 (some 182) = h16 at W16 ⊢
  refine gq_st (f := fun _ kk => gf_aload_n 0 dX5_init_68 rfl rfl kk) ?_
  refine gq_st (f := fun _ kk => gf_bipush (12) dX5_init_69 rfl kk) ?_
  refine gq_st (f := fun _ kk => gf_newa (atype := .int) 14 12 (by decide) rfl na_int rfl (by decide) dX5_init_71 kk) ?_
  rw [W16.1.1]
  have W17 : wS 184 8385 56 (wF wLa zF9 2) (hp_new h16 14 12 12) := w_new W16 (t := 14) (len := 12) rfl rfl rfl
  generalize hp_new h16 14 12 12 = h17 at W17 ⊢
  refine gq_st (f := fun _ kk => gf_putRF flX5_37 rfl rfl rfl rfl dX5_init_73 (w_tag W17 (by decide) (rfl : gr_tl[174]? = some (5, 0))) ⟨rfl, rfl⟩ kk) ?_
  have W18 : wS 184 8385 57 (wF wLa zF9 2) (hp_setR h17 174 13 (some 183)) := w_ref W17 (by decide) rfl rfl
  generalize hp_setR h17 174 13 (some 183) = h18 at W18 ⊢
  refine gq_st (f := fun _ kk => gf_aload_n 0 dX5_init_76 rfl rfl kk) ?_
  refine gq_st (f := fun _ kk => gf_bipush (12) dX5_init_77 rfl kk) ?_
  refine gq_st (f := fun _ kk => gf_newa (atype := .int) 14 12 (by decide) rfl na_int rfl (by decide) dX5_init_79 kk) ?_
  rw [W18.1.1]
  have W19 : wS 185 8397 57 (wF wLa zF9 2) (hp_new h18 14 12 12) := w_new W18 (t := 14) (len := 12) rfl rfl rfl
  generalize hp_new h18 14 12 12 = h19 at W19 ⊢
  refine gq_st (f := fun _ kk => gf_putRF flX5_40 rfl rfl rfl rfl dX5_init_81 (w_tag W19 (by decide) (rfl : gr_tl[174]? = some (5, 0))) ⟨rfl, rfl⟩ kk) ?_
  have W20 : wS 185 8397 58 (wF wLa zF9 2) (hp_setR h19 174 14 (some 184)) := w_ref W19 (by decide) rfl rfl
  generalize hp_setR h19 174 14 (some 184) = h20 at W20 ⊢
  exact n_X5_174_p84 E hd W20
theorem n_X5_174 (E : gE) {d : Nat} (hd : 3 ≤ d) {h0 : hp_T} (W0 : wS 175 7413 48 (wF wLa zF9 2) h0) : ∃ h1, ev E mX5_init d [.ref (E.1 + 174), .ref (E.1 + 1), .ref (E.1 + 145)] h0 none h1 ∧ (wS 186 8409 61 (wF wLa zF9 2)) h1 := by
  obtain ⟨h1, k1, W1⟩ := n_X5_174_p0 E hd W0
  exact ⟨h1, ev_of rfl (fun _ => rfl) (Nat.le_of_ble_eq_true rfl) k1, W1⟩
theorem n_X2_186_p0 (E : gE) {d : Nat} (hd : 3 ≤ d) {h0 : hp_T} (W0 : wS 187 8419 62 (wF wLa zF9 2) h0) : gq E mX2_init d 0 [(0, .ref (E.1 + 186)), (1, .ref (E.1 + 158)), (2, .ref (E.1 + 165)), (3, .ref (E.1 + 171))] [] h0 none (wS 193 9431 71 (wF wLa zF9 2)) := by
  refine gq_st (f := fun _ kk => gf_aload_n 0 dX2_init_0 rfl rfl kk) ?_
  refine gq_st (f := fun _ kk => gf_objInit lkX2_3 kObj.1 kObj.2 dX2_init_1 (by omega) (Nat.le_of_ble_eq_true rfl) kk) ?_
  refine gq_st (f := fun _ kk => gf_aload_n 0 dX2_init_4 rfl rfl kk) ?_
  refine gq_st (f := fun _ kk => gf_sipush (201) dX2_init_5 rfl kk) ?_
  refine gq_st (f := fun _ kk => gf_newa (atype := .boolean) 16 201 (by decide) rfl na_boolean rfl (by decide) dX2_init_8 kk) ?_
  rw [W0.1.1]
  have W1 : wS 188 8620 62 (wF wLa zF9 2) (hp_new h0 16 201 201) := w_new W0 (t := 16) (len := 201) rfl rfl rfl
  generalize hp_new h0 16 201 201 = h1 at W1 ⊢
  refine gq_st (f := fun _ kk => gf_putRF flX2_9 rfl rfl rfl rfl dX2_init_10 (w_tag W1 (by decide) (rfl : gr_tl[186]? = some (2, 0))) ⟨rfl, rfl⟩ kk) ?_
  have W2 : wS 188 8620 63 (wF wLa zF9 2) (hp_setR h1 186 0 (some 187)) := w_ref W1 (by decide) rfl rfl
  generalize hp_setR h1 186 0 (some 187) = h2 at W2 ⊢
  refine gq_st (f := fun _ kk => gf_aload_n 0 dX2_init_13 rfl rfl kk) ?_
  refine gq_st (f := fun _ kk => gf_sipush (201) dX2_init_14 rfl kk) ?_
  refine gq_st (f := fun _ kk => gf_newa (atype := .int) 14 201 (by decide) rfl na_int rfl (by decide) dX2_init_17 kk) ?_
  rw [W2.1.1]
  have W3 : wS 189 8821 63 (wF wLa zF9 2) (hp_new h2 14 201 201) := w_new W2 (t := 14) (len := 201) rfl rfl rfl
  generalize hp_new h2 14 201 201 = h3 at W3 ⊢
  refine gq_st (f := fun _ kk => gf_putRF flX2_15 rfl rfl rfl rfl dX2_init_19 (w_tag W3 (by decide) (rfl : gr_tl[186]? = some (2, 0))) ⟨rfl, rfl⟩ kk) ?_
  have W4 : wS 189 8821 64 (wF wLa zF9 2) (hp_setR h3 186 1 (some 188)) := w_ref W3 (by decide) rfl rfl
  generalize hp_setR h3 186 1 (some 188) = h4 at W4 ⊢
  refine gq_st (f := fun _ kk => gf_aload_n 0 dX2_init_22 rfl rfl kk) ?_
  refine gq_st (f := fun _ kk => gf_sipush (201) dX2_init_23 rfl kk) ?_
  refine gq_st (f := fun _ kk => gf_newa (atype := .int) 14 201 (by decide) rfl na_int rfl (by decide) dX2_init_26 kk) ?_
  rw [W4.1.1]
  have W5 : wS 190 9022 64 (wF wLa zF9 2) (hp_new h4 14 201 201) := w_new W4 (t := 14) (len := 201) rfl rfl rfl
  generalize hp_new h4 14 201 201 = h5 at W5 ⊢
  refine gq_st (f := fun _ kk => gf_putRF flX2_19 rfl rfl rfl rfl dX2_init_28 (w_tag W5 (by decide) (rfl : gr_tl[186]? = some (2, 0))) ⟨rfl, rfl⟩ kk) ?_
  have W6 : wS 190 9022 65 (wF wLa zF9 2) (hp_setR h5 186 2 (some 189)) := w_ref W5 (by decide) rfl rfl
  generalize hp_setR h5 186 2 (some 189) = h6 at W6 ⊢
  refine gq_st (f := fun _ kk => gf_aload_n 0 dX2_init_31 rfl rfl kk) ?_
  refine gq_st (f := fun _ kk => gf_bipush (9) dX2_init_32 rfl kk) ?_
  refine gq_st (f := fun _ kk => gf_newa (atype := .int) 14 9 (by decide) rfl na_int rfl (by decide) dX2_init_34 kk) ?_
  rw [W6.1.1]
  have W7 : wS 191 9031 65 (wF wLa zF9 2) (hp_new h6 14 9 9) := w_new W6 (t := 14) (len := 9) rfl rfl rfl
  generalize hp_new h6 14 9 9 = h7 at W7 ⊢
  refine gq_st (f := fun _ kk => gf_putRF flX2_22 rfl rfl rfl rfl dX2_init_36 (w_tag W7 (by decide) (rfl : gr_tl[186]? = some (2, 0))) ⟨rfl, rfl⟩ kk) ?_
  have W8 : wS 191 9031 66 (wF wLa zF9 2) (hp_setR h7 186 3 (some 190)) := w_ref W7 (by decide) rfl rfl
  generalize hp_setR h7 186 3 (some 190) = h8 at W8 ⊢
  refine gq_st (f := fun _ kk => gf_aload_n 0 dX2_init_39 rfl rfl kk) ?_
  refine gq_st (f := fun _ kk => gf_sipush (200) dX2_init_40 rfl kk) ?_
  refine gq_st (f := fun _ kk => gf_newa (atype := .int) 14 200 (by decide) rfl na_int rfl (by decide) dX2_init_43 kk) ?_
  rw [W8.1.1]
  have W9 : wS 192 9231 66 (wF wLa zF9 2) (hp_new h8 14 200 200) := w_new W8 (t := 14) (len := 200) rfl rfl rfl
  generalize hp_new h8 14 200 200 = h9 at W9 ⊢
  refine gq_st (f := fun _ kk => gf_putRF flX2_25 rfl rfl rfl rfl dX2_init_45 (w_tag W9 (by decide) (rfl : gr_tl[186]? = some (2, 0))) ⟨rfl, rfl⟩ kk) ?_
  have W10 : wS 192 9231 67 (wF wLa zF9 2) (hp_setR h9 186 7 (some 191)) := w_ref W9 (by decide) rfl rfl
  generalize hp_setR h9 186 7 (some 191) = h10 at W10 ⊢
  refine gq_st (f := fun _ kk => gf_aload_n 0 dX2_init_48 rfl rfl kk) ?_
  refine gq_st (f := fun _ kk => gf_sipush (200) dX2_init_49 rfl kk) ?_
  refine gq_st (f := fun _ kk => gf_newa (atype := .long) 15 200 (by decide) rfl na_long rfl (by decide) dX2_init_52 kk) ?_
  rw [W10.1.1]
  have W11 : wS 193 9431 67 (wF wLa zF9 2) (hp_new h10 15 200 200) := w_new W10 (t := 15) (len := 200) rfl rfl rfl
  generalize hp_new h10 15 200 200 = h11 at W11 ⊢
  refine gq_st (f := fun _ kk => gf_putRF flX2_28 rfl rfl rfl rfl dX2_init_54 (w_tag W11 (by decide) (rfl : gr_tl[186]? = some (2, 0))) ⟨rfl, rfl⟩ kk) ?_
  have W12 : wS 193 9431 68 (wF wLa zF9 2) (hp_setR h11 186 8 (some 192)) := w_ref W11 (by decide) rfl rfl
  generalize hp_setR h11 186 8 (some 192) = h12 at W12 ⊢
  refine gq_st (f := fun _ kk => gf_aload_n 0 dX2_init_57 rfl rfl kk) ?_
  refine gq_st (f := fun _ kk => gf_aload_n 1 dX2_init_58 rfl rfl kk) ?_
  refine gq_st (f := fun _ kk => gf_putRF flX2_32 rfl rfl rfl rfl dX2_init_59 (w_tag W12 (by decide) (rfl : gr_tl[186]? = some (2, 0))) ⟨rfl, rfl⟩ kk) ?_
  have W13 : wS 193 9431 69 (wF wLa zF9 2) (hp_setR h12 186 4 (some 158)) := w_ref W12 (by decide) rfl rfl
  generalize hp_setR h12 186 4 (some 158) = h13 at W13 ⊢
  refine gq_st (f := fun _ kk => gf_aload_n 0 dX2_init_62 rfl rfl kk) ?_
  refine gq_st (f := fun _ kk => gf_aload_n 2 dX2_init_63 rfl rfl kk) ?_
  refine gq_st (f := fun _ kk => gf_putRF flX2_36 rfl rfl rfl rfl dX2_init_64 (w_tag W13 (by decide) (rfl : gr_tl[186]? = some (2, 0))) ⟨rfl, rfl⟩ kk) ?_
  have W14 : wS 193 9431 70 (wF wLa zF9 2) (hp_setR h13 186 5 (some 165)) := w_ref W13 (by decide) rfl rfl
  generalize hp_setR h13 186 5 (some 165) = h14 at W14 ⊢
  refine gq_st (f := fun _ kk => gf_aload_n 0 dX2_init_67 rfl rfl kk) ?_
  refine gq_st (f := fun _ kk => gf_aload_n 3 dX2_init_68 rfl rfl kk) ?_
  refine gq_st (f := fun _ kk => gf_putRF flX2_40 rfl rfl rfl rfl dX2_init_69 (w_tag W14 (by decide) (rfl : gr_tl[186]? = some (2, 0))) ⟨rfl, rfl⟩ kk) ?_
  have W15 : wS 193 9431 71 (wF wLa zF9 2) (hp_setR h14 186 6 (some 171)) := w_ref W14 (by decide) rfl rfl
  generalize hp_setR h14 186 6 (some 171) = h15 at W15 ⊢
  exact ⟨_, gf_vretE dX2_init_72 rfl rfl, W15⟩
theorem n_X2_186 (E : gE) {d : Nat} (hd : 3 ≤ d) {h0 : hp_T} (W0 : wS 187 8419 62 (wF wLa zF9 2) h0) : ∃ h1, ev E mX2_init d [.ref (E.1 + 186), .ref (E.1 + 158), .ref (E.1 + 165), .ref (E.1 + 171)] h0 none h1 ∧ (wS 193 9431 71 (wF wLa zF9 2)) h1 := by
  obtain ⟨h1, k1, W1⟩ := n_X2_186_p0 E hd W0
  exact ⟨h1, ev_of rfl (fun _ => rfl) (Nat.le_of_ble_eq_true rfl) k1, W1⟩
theorem n_X5_193_p84 (E : gE) {d : Nat} (hd : 3 ≤ d) {h0 : hp_T} (W0 : wS 204 10431 82 (wF wLa zF9 2) h0) : gq E mX5_init d 84 [(0, .ref (E.1 + 193)), (1, .ref (E.1 + 1)), (2, .ref (E.1 + 145))] [] h0 none (wS 205 10443 85 (wF wLa zF9 2)) := by
  refine gq_st (f := fun _ kk => gf_aload_n 0 dX5_init_84 rfl rfl kk) ?_
  refine gq_st (f := fun _ kk => gf_bipush (12) dX5_init_85 rfl kk) ?_
  refine gq_st (f := fun _ kk => gf_newa (atype := .int) 14 12 (by decide) rfl na_int rfl (by decide) dX5_init_87 kk) ?_
  rw [W0.1.1]
  have W1 : wS 205 10443 82 (wF wLa zF9 2) (hp_new h0 14 12 12) := w_new W0 (t := 14) (len := 12) rfl rfl rfl
  generalize hp_new h0 14 12 12 = h1 at W1 ⊢
  refine gq_st (f := fun _ kk => gf_putRF flX5_43 rfl rfl rfl rfl dX5_init_89 (w_tag W1 (by decide) (rfl : gr_tl[193]? = some (5, 0))) ⟨rfl, rfl⟩ kk) ?_
  have W2 : wS 205 10443 83 (wF wLa zF9 2) (hp_setR h1 193 15 (some 204)) := w_ref W1 (by decide) rfl rfl
  generalize hp_setR h1 193 15 (some 204) = h2 at W2 ⊢
  refine gq_st (f := fun _ kk => gf_aload_n 0 dX5_init_92 rfl rfl kk) ?_
  refine gq_st (f := fun _ kk => gf_aload_n 1 dX5_init_93 rfl rfl kk) ?_
  refine gq_st (f := fun _ kk => gf_putRF flX5_46 rfl rfl rfl rfl dX5_init_94 (w_tag W2 (by decide) (rfl : gr_tl[193]? = some (5, 0))) ⟨rfl, rfl⟩ kk) ?_
  have W3 : wS 205 10443 84 (wF wLa zF9 2) (hp_setR h2 193 5 (some 1)) := w_ref W2 (by decide) rfl rfl
  generalize hp_setR h2 193 5 (some 1) = h3 at W3 ⊢
  refine gq_st (f := fun _ kk => gf_aload_n 0 dX5_init_97 rfl rfl kk) ?_
  refine gq_st (f := fun _ kk => gf_aload_n 2 dX5_init_98 rfl rfl kk) ?_
  refine gq_st (f := fun _ kk => gf_putRF flX5_50 rfl rfl rfl rfl dX5_init_99 (w_tag W3 (by decide) (rfl : gr_tl[193]? = some (5, 0))) ⟨rfl, rfl⟩ kk) ?_
  have W4 : wS 205 10443 85 (wF wLa zF9 2) (hp_setR h3 193 6 (some 145)) := w_ref W3 (by decide) rfl rfl
  generalize hp_setR h3 193 6 (some 145) = h4 at W4 ⊢
  exact ⟨_, gf_vretE dX5_init_102 rfl rfl, W4⟩
theorem n_X5_193_p0 (E : gE) {d : Nat} (hd : 3 ≤ d) {h0 : hp_T} (W0 : wS 194 9447 72 (wF wLa zF9 2) h0) : gq E mX5_init d 0 [(0, .ref (E.1 + 193)), (1, .ref (E.1 + 1)), (2, .ref (E.1 + 145))] [] h0 none (wS 205 10443 85 (wF wLa zF9 2)) := by
  refine gq_st (f := fun _ kk => gf_aload_n 0 dX5_init_0 rfl rfl kk) ?_
  refine gq_st (f := fun _ kk => gf_objInit lkX5_3 kObj.1 kObj.2 dX5_init_1 (by omega) (Nat.le_of_ble_eq_true rfl) kk) ?_
  refine gq_st (f := fun _ kk => gf_aload_n 0 dX5_init_4 rfl rfl kk) ?_
  refine gq_st (f := fun _ kk => gf_bipush (120) dX5_init_5 rfl kk) ?_
  refine gq_st (f := fun _ kk => gf_newa (atype := .boolean) 16 120 (by decide) rfl na_boolean rfl (by decide) dX5_init_7 kk) ?_
  rw [W0.1.1]
  have W1 : wS 195 9567 72 (wF wLa zF9 2) (hp_new h0 16 120 120) := w_new W0 (t := 16) (len := 120) rfl rfl rfl
  generalize hp_new h0 16 120 120 = h1 at W1 ⊢
  refine gq_st (f := fun _ kk => gf_putRF flX5_9 rfl rfl rfl rfl dX5_init_9 (w_tag W1 (by decide) (rfl : gr_tl[193]? = some (5, 0))) ⟨rfl, rfl⟩ kk) ?_
  have W2 : wS 195 9567 73 (wF wLa zF9 2) (hp_setR h1 193 3 (some 194)) := w_ref W1 (by decide) rfl rfl
  generalize hp_setR h1 193 3 (some 194) = h2 at W2 ⊢
  refine gq_st (f := fun _ kk => gf_aload_n 0 dX5_init_12 rfl rfl kk) ?_
  refine gq_st (f := fun _ kk => gf_bipush (120) dX5_init_13 rfl kk) ?_
  refine gq_st (f := fun _ kk => gf_newa (atype := .int) 14 120 (by decide) rfl na_int rfl (by decide) dX5_init_15 kk) ?_
  rw [W2.1.1]
  have W3 : wS 196 9687 73 (wF wLa zF9 2) (hp_new h2 14 120 120) := w_new W2 (t := 14) (len := 120) rfl rfl rfl
  generalize hp_new h2 14 120 120 = h3 at W3 ⊢
  refine gq_st (f := fun _ kk => gf_putRF flX5_15 rfl rfl rfl rfl dX5_init_17 (w_tag W3 (by decide) (rfl : gr_tl[193]? = some (5, 0))) ⟨rfl, rfl⟩ kk) ?_
  have W4 : wS 196 9687 74 (wF wLa zF9 2) (hp_setR h3 193 4 (some 195)) := w_ref W3 (by decide) rfl rfl
  generalize hp_setR h3 193 4 (some 195) = h4 at W4 ⊢
  refine gq_st (f := fun _ kk => gf_aload_n 0 dX5_init_20 rfl rfl kk) ?_
  refine gq_st (f := fun _ kk => gf_bipush (120) dX5_init_21 rfl kk) ?_
  refine gq_st (f := fun _ kk => gf_newa (atype := .int) 14 120 (by decide) rfl na_int rfl (by decide) dX5_init_23 kk) ?_
  rw [W4.1.1]
  have W5 : wS 197 9807 74 (wF wLa zF9 2) (hp_new h4 14 120 120) := w_new W4 (t := 14) (len := 120) rfl rfl rfl
  generalize hp_new h4 14 120 120 = h5 at W5 ⊢
  refine gq_st (f := fun _ kk => gf_putRF flX5_19 rfl rfl rfl rfl dX5_init_25 (w_tag W5 (by decide) (rfl : gr_tl[193]? = some (5, 0))) ⟨rfl, rfl⟩ kk) ?_
  have W6 : wS 197 9807 75 (wF wLa zF9 2) (hp_setR h5 193 7 (some 196)) := w_ref W5 (by decide) rfl rfl
  generalize hp_setR h5 193 7 (some 196) = h6 at W6 ⊢
  refine gq_st (f := fun _ kk => gf_aload_n 0 dX5_init_28 rfl rfl kk) ?_
  refine gq_st (f := fun _ kk => gf_bipush (120) dX5_init_29 rfl kk) ?_
  refine gq_st (f := fun _ kk => gf_newa (atype := .int) 14 120 (by decide) rfl na_int rfl (by decide) dX5_init_31 kk) ?_
  rw [W6.1.1]
  have W7 : wS 198 9927 75 (wF wLa zF9 2) (hp_new h6 14 120 120) := w_new W6 (t := 14) (len := 120) rfl rfl rfl
  generalize hp_new h6 14 120 120 = h7 at W7 ⊢
  refine gq_st (f := fun _ kk => gf_putRF flX5_22 rfl rfl rfl rfl dX5_init_33 (w_tag W7 (by decide) (rfl : gr_tl[193]? = some (5, 0))) ⟨rfl, rfl⟩ kk) ?_
  have W8 : wS 198 9927 76 (wF wLa zF9 2) (hp_setR h7 193 8 (some 197)) := w_ref W7 (by decide) rfl rfl
  generalize hp_setR h7 193 8 (some 197) = h8 at W8 ⊢
  refine gq_st (f := fun _ kk => gf_aload_n 0 dX5_init_36 rfl rfl kk) ?_
  refine gq_st (f := fun _ kk => gf_bipush (120) dX5_init_37 rfl kk) ?_
  refine gq_st (f := fun _ kk => gf_newa (atype := .int) 14 120 (by decide) rfl na_int rfl (by decide) dX5_init_39 kk) ?_
  rw [W8.1.1]
  have W9 : wS 199 10047 76 (wF wLa zF9 2) (hp_new h8 14 120 120) := w_new W8 (t := 14) (len := 120) rfl rfl rfl
  generalize hp_new h8 14 120 120 = h9 at W9 ⊢
  refine gq_st (f := fun _ kk => gf_putRF flX5_25 rfl rfl rfl rfl dX5_init_41 (w_tag W9 (by decide) (rfl : gr_tl[193]? = some (5, 0))) ⟨rfl, rfl⟩ kk) ?_
  have W10 : wS 199 10047 77 (wF wLa zF9 2) (hp_setR h9 193 9 (some 198)) := w_ref W9 (by decide) rfl rfl
  generalize hp_setR h9 193 9 (some 198) = h10 at W10 ⊢
  refine gq_st (f := fun _ kk => gf_aload_n 0 dX5_init_44 rfl rfl kk) ?_
  refine gq_st (f := fun _ kk => gf_bipush (120) dX5_init_45 rfl kk) ?_
  refine gq_st (f := fun _ kk => gf_newa (atype := .int) 14 120 (by decide) rfl na_int rfl (by decide) dX5_init_47 kk) ?_
  rw [W10.1.1]
  have W11 : wS 200 10167 77 (wF wLa zF9 2) (hp_new h10 14 120 120) := w_new W10 (t := 14) (len := 120) rfl rfl rfl
  generalize hp_new h10 14 120 120 = h11 at W11 ⊢
  refine gq_st (f := fun _ kk => gf_putRF flX5_28 rfl rfl rfl rfl dX5_init_49 (w_tag W11 (by decide) (rfl : gr_tl[193]? = some (5, 0))) ⟨rfl, rfl⟩ kk) ?_
  have W12 : wS 200 10167 78 (wF wLa zF9 2) (hp_setR h11 193 10 (some 199)) := w_ref W11 (by decide) rfl rfl
  generalize hp_setR h11 193 10 (some 199) = h12 at W12 ⊢
  refine gq_st (f := fun _ kk => gf_aload_n 0 dX5_init_52 rfl rfl kk) ?_
  refine gq_st (f := fun _ kk => gf_bipush (120) dX5_init_53 rfl kk) ?_
  refine gq_st (f := fun _ kk => gf_newa (atype := .int) 14 120 (by decide) rfl na_int rfl (by decide) dX5_init_55 kk) ?_
  rw [W12.1.1]
  have W13 : wS 201 10287 78 (wF wLa zF9 2) (hp_new h12 14 120 120) := w_new W12 (t := 14) (len := 120) rfl rfl rfl
  generalize hp_new h12 14 120 120 = h13 at W13 ⊢
  refine gq_st (f := fun _ kk => gf_putRF flX5_31 rfl rfl rfl rfl dX5_init_57 (w_tag W13 (by decide) (rfl : gr_tl[193]? = some (5, 0))) ⟨rfl, rfl⟩ kk) ?_
  have W14 : wS 201 10287 79 (wF wLa zF9 2) (hp_setR h13 193 11 (some 200)) := w_ref W13 (by decide) rfl rfl
  generalize hp_setR h13 193 11 (some 200) = h14 at W14 ⊢
  refine gq_st (f := fun _ kk => gf_aload_n 0 dX5_init_60 rfl rfl kk) ?_
  refine gq_st (f := fun _ kk => gf_bipush (120) dX5_init_61 rfl kk) ?_
  refine gq_st (f := fun _ kk => gf_newa (atype := .boolean) 16 120 (by decide) rfl na_boolean rfl (by decide) dX5_init_63 kk) ?_
  rw [W14.1.1]
  have W15 : wS 202 10407 79 (wF wLa zF9 2) (hp_new h14 16 120 120) := w_new W14 (t := 16) (len := 120) rfl rfl rfl
  generalize hp_new h14 16 120 120 = h15 at W15 ⊢
  refine gq_st (f := fun _ kk => gf_putRF flX5_34 rfl rfl rfl rfl dX5_init_65 (w_tag W15 (by decide) (rfl : gr_tl[193]? = some (5, 0))) ⟨rfl, rfl⟩ kk) ?_
  have W16 : wS 202 10407 80 (wF wLa zF9 2) (hp_setR h15 193 12 (some 201)) := w_ref W15 (by decide) rfl rfl
  generalize hp_setR h15 193 12 (some 201) = h16 at W16 ⊢
  refine gq_st (f := fun _ kk => gf_aload_n 0 dX5_init_68 rfl rfl kk) ?_
  refine gq_st (f := fun _ kk => gf_bipush (12) dX5_init_69 rfl kk) ?_
  refine gq_st (f := fun _ kk => gf_newa (atype := .int) 14 12 (by decide) rfl na_int rfl (by decide) dX5_init_71 kk) ?_
  rw [W16.1.1]
  have W17 : wS 203 10419 80 (wF wLa zF9 2) (hp_new h16 14 12 12) := w_new W16 (t := 14) (len := 12) rfl rfl rfl
  generalize hp_new h16 14 12 12 = h17 at W17 ⊢
  refine gq_st (f := fun _ kk => gf_putRF flX5_37 rfl rfl rfl rfl dX5_init_73 (w_tag W17 (by decide) (rfl : gr_tl[193]? = some (5, 0))) ⟨rfl, rfl⟩ kk) ?_
  have W18 : wS 203 10419 81 (wF wLa zF9 2) (hp_setR h17 193 13 (some 202)) := w_ref W17 (by decide) rfl rfl
  generalize hp_setR h17 193 13 (some 202) = h18 at W18 ⊢
  refine gq_st (f := fun _ kk => gf_aload_n 0 dX5_init_76 rfl rfl kk) ?_
  refine gq_st (f := fun _ kk => gf_bipush (12) dX5_init_77 rfl kk) ?_
  refine gq_st (f := fun _ kk => gf_newa (atype := .int) 14 12 (by decide) rfl na_int rfl (by decide) dX5_init_79 kk) ?_
  rw [W18.1.1]
  have W19 : wS 204 10431 81 (wF wLa zF9 2) (hp_new h18 14 12 12) := w_new W18 (t := 14) (len := 12) rfl rfl rfl
  generalize hp_new h18 14 12 12 = h19 at W19 ⊢
  refine gq_st (f := fun _ kk => gf_putRF flX5_40 rfl rfl rfl rfl dX5_init_81 (w_tag W19 (by decide) (rfl : gr_tl[193]? = some (5, 0))) ⟨rfl, rfl⟩ kk) ?_
  have W20 : wS 204 10431 82 (wF wLa zF9 2) (hp_setR h19 193 14 (some 203)) := w_ref W19 (by decide) rfl rfl
  generalize hp_setR h19 193 14 (some 203) = h20 at W20 ⊢
  exact n_X5_193_p84 E hd W20
theorem n_X5_193 (E : gE) {d : Nat} (hd : 3 ≤ d) {h0 : hp_T} (W0 : wS 194 9447 72 (wF wLa zF9 2) h0) : ∃ h1, ev E mX5_init d [.ref (E.1 + 193), .ref (E.1 + 1), .ref (E.1 + 145)] h0 none h1 ∧ (wS 205 10443 85 (wF wLa zF9 2)) h1 := by
  obtain ⟨h1, k1, W1⟩ := n_X5_193_p0 E hd W0
  exact ⟨h1, ev_of rfl (fun _ => rfl) (Nat.le_of_ble_eq_true rfl) k1, W1⟩
theorem n_X2_205_p0 (E : gE) {d : Nat} (hd : 3 ≤ d) {h0 : hp_T} (W0 : wS 206 10453 86 (wF wLa zF9 2) h0) : gq E mX2_init d 0 [(0, .ref (E.1 + 205)), (1, .ref (E.1 + 158)), (2, .ref (E.1 + 165)), (3, .ref (E.1 + 171))] [] h0 none (wS 212 11465 95 (wF wLa zF9 2)) := by
  refine gq_st (f := fun _ kk => gf_aload_n 0 dX2_init_0 rfl rfl kk) ?_
  refine gq_st (f := fun _ kk => gf_objInit lkX2_3 kObj.1 kObj.2 dX2_init_1 (by omega) (Nat.le_of_ble_eq_true rfl) kk) ?_
  refine gq_st (f := fun _ kk => gf_aload_n 0 dX2_init_4 rfl rfl kk) ?_
  refine gq_st (f := fun _ kk => gf_sipush (201) dX2_init_5 rfl kk) ?_
  refine gq_st (f := fun _ kk => gf_newa (atype := .boolean) 16 201 (by decide) rfl na_boolean rfl (by decide) dX2_init_8 kk) ?_
  rw [W0.1.1]
  have W1 : wS 207 10654 86 (wF wLa zF9 2) (hp_new h0 16 201 201) := w_new W0 (t := 16) (len := 201) rfl rfl rfl
  generalize hp_new h0 16 201 201 = h1 at W1 ⊢
  refine gq_st (f := fun _ kk => gf_putRF flX2_9 rfl rfl rfl rfl dX2_init_10 (w_tag W1 (by decide) (rfl : gr_tl[205]? = some (2, 0))) ⟨rfl, rfl⟩ kk) ?_
  have W2 : wS 207 10654 87 (wF wLa zF9 2) (hp_setR h1 205 0 (some 206)) := w_ref W1 (by decide) rfl rfl
  generalize hp_setR h1 205 0 (some 206) = h2 at W2 ⊢
  refine gq_st (f := fun _ kk => gf_aload_n 0 dX2_init_13 rfl rfl kk) ?_
  refine gq_st (f := fun _ kk => gf_sipush (201) dX2_init_14 rfl kk) ?_
  refine gq_st (f := fun _ kk => gf_newa (atype := .int) 14 201 (by decide) rfl na_int rfl (by decide) dX2_init_17 kk) ?_
  rw [W2.1.1]
  have W3 : wS 208 10855 87 (wF wLa zF9 2) (hp_new h2 14 201 201) := w_new W2 (t := 14) (len := 201) rfl rfl rfl
  generalize hp_new h2 14 201 201 = h3 at W3 ⊢
  refine gq_st (f := fun _ kk => gf_putRF flX2_15 rfl rfl rfl rfl dX2_init_19 (w_tag W3 (by decide) (rfl : gr_tl[205]? = some (2, 0))) ⟨rfl, rfl⟩ kk) ?_
  have W4 : wS 208 10855 88 (wF wLa zF9 2) (hp_setR h3 205 1 (some 207)) := w_ref W3 (by decide) rfl rfl
  generalize hp_setR h3 205 1 (some 207) = h4 at W4 ⊢
  refine gq_st (f := fun _ kk => gf_aload_n 0 dX2_init_22 rfl rfl kk) ?_
  refine gq_st (f := fun _ kk => gf_sipush (201) dX2_init_23 rfl kk) ?_
  refine gq_st (f := fun _ kk => gf_newa (atype := .int) 14 201 (by decide) rfl na_int rfl (by decide) dX2_init_26 kk) ?_
  rw [W4.1.1]
  have W5 : wS 209 11056 88 (wF wLa zF9 2) (hp_new h4 14 201 201) := w_new W4 (t := 14) (len := 201) rfl rfl rfl
  generalize hp_new h4 14 201 201 = h5 at W5 ⊢
  refine gq_st (f := fun _ kk => gf_putRF flX2_19 rfl rfl rfl rfl dX2_init_28 (w_tag W5 (by decide) (rfl : gr_tl[205]? = some (2, 0))) ⟨rfl, rfl⟩ kk) ?_
  have W6 : wS 209 11056 89 (wF wLa zF9 2) (hp_setR h5 205 2 (some 208)) := w_ref W5 (by decide) rfl rfl
  generalize hp_setR h5 205 2 (some 208) = h6 at W6 ⊢
  refine gq_st (f := fun _ kk => gf_aload_n 0 dX2_init_31 rfl rfl kk) ?_
  refine gq_st (f := fun _ kk => gf_bipush (9) dX2_init_32 rfl kk) ?_
  refine gq_st (f := fun _ kk => gf_newa (atype := .int) 14 9 (by decide) rfl na_int rfl (by decide) dX2_init_34 kk) ?_
  rw [W6.1.1]
  have W7 : wS 210 11065 89 (wF wLa zF9 2) (hp_new h6 14 9 9) := w_new W6 (t := 14) (len := 9) rfl rfl rfl
  generalize hp_new h6 14 9 9 = h7 at W7 ⊢
  refine gq_st (f := fun _ kk => gf_putRF flX2_22 rfl rfl rfl rfl dX2_init_36 (w_tag W7 (by decide) (rfl : gr_tl[205]? = some (2, 0))) ⟨rfl, rfl⟩ kk) ?_
  have W8 : wS 210 11065 90 (wF wLa zF9 2) (hp_setR h7 205 3 (some 209)) := w_ref W7 (by decide) rfl rfl
  generalize hp_setR h7 205 3 (some 209) = h8 at W8 ⊢
  refine gq_st (f := fun _ kk => gf_aload_n 0 dX2_init_39 rfl rfl kk) ?_
  refine gq_st (f := fun _ kk => gf_sipush (200) dX2_init_40 rfl kk) ?_
  refine gq_st (f := fun _ kk => gf_newa (atype := .int) 14 200 (by decide) rfl na_int rfl (by decide) dX2_init_43 kk) ?_
  rw [W8.1.1]
  have W9 : wS 211 11265 90 (wF wLa zF9 2) (hp_new h8 14 200 200) := w_new W8 (t := 14) (len := 200) rfl rfl rfl
  generalize hp_new h8 14 200 200 = h9 at W9 ⊢
  refine gq_st (f := fun _ kk => gf_putRF flX2_25 rfl rfl rfl rfl dX2_init_45 (w_tag W9 (by decide) (rfl : gr_tl[205]? = some (2, 0))) ⟨rfl, rfl⟩ kk) ?_
  have W10 : wS 211 11265 91 (wF wLa zF9 2) (hp_setR h9 205 7 (some 210)) := w_ref W9 (by decide) rfl rfl
  generalize hp_setR h9 205 7 (some 210) = h10 at W10 ⊢
  refine gq_st (f := fun _ kk => gf_aload_n 0 dX2_init_48 rfl rfl kk) ?_
  refine gq_st (f := fun _ kk => gf_sipush (200) dX2_init_49 rfl kk) ?_
  refine gq_st (f := fun _ kk => gf_newa (atype := .long) 15 200 (by decide) rfl na_long rfl (by decide) dX2_init_52 kk) ?_
  rw [W10.1.1]
  have W11 : wS 212 11465 91 (wF wLa zF9 2) (hp_new h10 15 200 200) := w_new W10 (t := 15) (len := 200) rfl rfl rfl
  generalize hp_new h10 15 200 200 = h11 at W11 ⊢
  refine gq_st (f := fun _ kk => gf_putRF flX2_28 rfl rfl rfl rfl dX2_init_54 (w_tag W11 (by decide) (rfl : gr_tl[205]? = some (2, 0))) ⟨rfl, rfl⟩ kk) ?_
  have W12 : wS 212 11465 92 (wF wLa zF9 2) (hp_setR h11 205 8 (some 211)) := w_ref W11 (by decide) rfl rfl
  generalize hp_setR h11 205 8 (some 211) = h12 at W12 ⊢
  refine gq_st (f := fun _ kk => gf_aload_n 0 dX2_init_57 rfl rfl kk) ?_
  refine gq_st (f := fun _ kk => gf_aload_n 1 dX2_init_58 rfl rfl kk) ?_
  refine gq_st (f := fun _ kk => gf_putRF flX2_32 rfl rfl rfl rfl dX2_init_59 (w_tag W12 (by decide) (rfl : gr_tl[205]? = some (2, 0))) ⟨rfl, rfl⟩ kk) ?_
  have W13 : wS 212 11465 93 (wF wLa zF9 2) (hp_setR h12 205 4 (some 158)) := w_ref W12 (by decide) rfl rfl
  generalize hp_setR h12 205 4 (some 158) = h13 at W13 ⊢
  refine gq_st (f := fun _ kk => gf_aload_n 0 dX2_init_62 rfl rfl kk) ?_
  refine gq_st (f := fun _ kk => gf_aload_n 2 dX2_init_63 rfl rfl kk) ?_
  refine gq_st (f := fun _ kk => gf_putRF flX2_36 rfl rfl rfl rfl dX2_init_64 (w_tag W13 (by decide) (rfl : gr_tl[205]? = some (2, 0))) ⟨rfl, rfl⟩ kk) ?_
  have W14 : wS 212 11465 94 (wF wLa zF9 2) (hp_setR h13 205 5 (some 165)) := w_ref W13 (by decide) rfl rfl
  generalize hp_setR h13 205 5 (some 165) = h14 at W14 ⊢
  refine gq_st (f := fun _ kk => gf_aload_n 0 dX2_init_67 rfl rfl kk) ?_
  refine gq_st (f := fun _ kk => gf_aload_n 3 dX2_init_68 rfl rfl kk) ?_
  refine gq_st (f := fun _ kk => gf_putRF flX2_40 rfl rfl rfl rfl dX2_init_69 (w_tag W14 (by decide) (rfl : gr_tl[205]? = some (2, 0))) ⟨rfl, rfl⟩ kk) ?_
  have W15 : wS 212 11465 95 (wF wLa zF9 2) (hp_setR h14 205 6 (some 171)) := w_ref W14 (by decide) rfl rfl
  generalize hp_setR h14 205 6 (some 171) = h15 at W15 ⊢
  exact ⟨_, gf_vretE dX2_init_72 rfl rfl, W15⟩
theorem n_X2_205 (E : gE) {d : Nat} (hd : 3 ≤ d) {h0 : hp_T} (W0 : wS 206 10453 86 (wF wLa zF9 2) h0) : ∃ h1, ev E mX2_init d [.ref (E.1 + 205), .ref (E.1 + 158), .ref (E.1 + 165), .ref (E.1 + 171)] h0 none h1 ∧ (wS 212 11465 95 (wF wLa zF9 2)) h1 := by
  obtain ⟨h1, k1, W1⟩ := n_X2_205_p0 E hd W0
  exact ⟨h1, ev_of rfl (fun _ => rfl) (Nat.le_of_ble_eq_true rfl) k1, W1⟩
theorem n_X4_212_p0 (E : gE) {d : Nat} (hd : 3 ≤ d) {h0 : hp_T} (W0 : wS 213 11469 96 (wF wLa zF9 2) h0) : gq E mX4_init d 0 [(0, .ref (E.1 + 212))] [] h0 none (wS 243 11766 102 (wF wLa zF9 2)) := by
  refine gq_st (f := fun _ kk => gf_aload_n 0 dX4_init_0 rfl rfl kk) ?_
  refine gq_st (f := fun _ kk => gf_objInit lkX4_3 kObj.1 kObj.2 dX4_init_1 (by omega) (Nat.le_of_ble_eq_true rfl) kk) ?_
  refine gq_st (f := fun _ kk => gf_aload_n 0 dX4_init_4 rfl rfl kk) ?_
  refine gq_st (f := fun _ kk => gf_bipush (9) dX4_init_5 rfl kk) ?_
  refine gq_st (f := fun _ kk => gf_bipush (10) dX4_init_7 rfl kk) ?_
  refine gq_st (f := fun _ kk => gf_mna 19 15 9 10 (Or.inr ⟨rfl, rfl⟩) (ms_19 nw_X4_9) na_long rfl rfl (by decide) (by decide) dX4_init_9 kk) ?_
  rw [W0.1.1]
  have W1 : wS 223 11568 97 (wF wLa zF9 2) (hp_mn h0 19 15 9 10) := w_mn W0 (t := 19) (t2 := 15) (N := 9) (K := 10) rfl rfl rfl (by decide +kernel) rfl rfl
  generalize hp_mn h0 19 15 9 10 = h1 at W1 ⊢
  refine gq_st (f := fun _ kk => gf_putRF flX4_11 rfl rfl rfl rfl dX4_init_13 (w_tag W1 (by decide) (rfl : gr_tl[212]? = some (4, 0))) ⟨rfl, rfl⟩ kk) ?_
  have W2 : wS 223 11568 98 (wF wLa zF9 2) (hp_setR h1 212 1 (some 213)) := w_ref W1 (by decide) rfl rfl
  generalize hp_setR h1 212 1 (some 213) = h2 at W2 ⊢
  refine gq_st (f := fun _ kk => gf_aload_n 0 dX4_init_16 rfl rfl kk) ?_
  refine gq_st (f := fun _ kk => gf_bipush (9) dX4_init_17 rfl kk) ?_
  refine gq_st (f := fun _ kk => gf_bipush (10) dX4_init_19 rfl kk) ?_
  refine gq_st (f := fun _ kk => gf_mna 19 15 9 10 (Or.inr ⟨rfl, rfl⟩) (ms_19 nw_X4_9) na_long rfl rfl (by decide) (by decide) dX4_init_21 kk) ?_
  rw [W2.1.1]
  have W3 : wS 233 11667 99 (wF wLa zF9 2) (hp_mn h2 19 15 9 10) := w_mn W2 (t := 19) (t2 := 15) (N := 9) (K := 10) rfl rfl rfl (by decide +kernel) rfl rfl
  generalize hp_mn h2 19 15 9 10 = h3 at W3 ⊢
  refine gq_st (f := fun _ kk => gf_putRF flX4_16 rfl rfl rfl rfl dX4_init_25 (w_tag W3 (by decide) (rfl : gr_tl[212]? = some (4, 0))) ⟨rfl, rfl⟩ kk) ?_
  have W4 : wS 233 11667 100 (wF wLa zF9 2) (hp_setR h3 212 2 (some 223)) := w_ref W3 (by decide) rfl rfl
  generalize hp_setR h3 212 2 (some 223) = h4 at W4 ⊢
  refine gq_st (f := fun _ kk => gf_aload_n 0 dX4_init_28 rfl rfl kk) ?_
  refine gq_st (f := fun _ kk => gf_bipush (9) dX4_init_29 rfl kk) ?_
  refine gq_st (f := fun _ kk => gf_bipush (10) dX4_init_31 rfl kk) ?_
  refine gq_st (f := fun _ kk => gf_mna 19 15 9 10 (Or.inr ⟨rfl, rfl⟩) (ms_19 nw_X4_9) na_long rfl rfl (by decide) (by decide) dX4_init_33 kk) ?_
  rw [W4.1.1]
  have W5 : wS 243 11766 101 (wF wLa zF9 2) (hp_mn h4 19 15 9 10) := w_mn W4 (t := 19) (t2 := 15) (N := 9) (K := 10) rfl rfl rfl (by decide +kernel) rfl rfl
  generalize hp_mn h4 19 15 9 10 = h5 at W5 ⊢
  refine gq_st (f := fun _ kk => gf_putRF flX4_19 rfl rfl rfl rfl dX4_init_37 (w_tag W5 (by decide) (rfl : gr_tl[212]? = some (4, 0))) ⟨rfl, rfl⟩ kk) ?_
  have W6 : wS 243 11766 102 (wF wLa zF9 2) (hp_setR h5 212 3 (some 233)) := w_ref W5 (by decide) rfl rfl
  generalize hp_setR h5 212 3 (some 233) = h6 at W6 ⊢
  exact ⟨_, gf_vretE dX4_init_40 rfl rfl, W6⟩
theorem n_X4_212 (E : gE) {d : Nat} (hd : 3 ≤ d) {h0 : hp_T} (W0 : wS 213 11469 96 (wF wLa zF9 2) h0) : ∃ h1, ev E mX4_init d [.ref (E.1 + 212)] h0 none h1 ∧ (wS 243 11766 102 (wF wLa zF9 2)) h1 := by
  obtain ⟨h1, k1, W1⟩ := n_X4_212_p0 E hd W0
  exact ⟨h1, ev_of rfl (fun _ => rfl) (Nat.le_of_ble_eq_true rfl) k1, W1⟩
theorem n_X8_243_p0 (E : gE) {d : Nat} (hd : 3 ≤ d) {h0 : hp_T} (W0 : wS 244 11776 103 (wF wLa zF9 2) h0) : gq E mX8_init d 0 [(0, .ref (E.1 + 243)), (1, .ref (E.1 + 145)), (2, .ref (E.1 + 193))] [] h0 none (wS 247 11790 108 (wF wLa zF9 2)) := by
  refine gq_st (f := fun _ kk => gf_aload_n 0 dX8_init_0 rfl rfl kk) ?_
  refine gq_st (f := fun _ kk => gf_objInit lkX8_3 kObj.1 kObj.2 dX8_init_1 (by omega) (Nat.le_of_ble_eq_true rfl) kk) ?_
  refine gq_st (f := fun _ kk => gf_aload_n 0 dX8_init_4 rfl rfl kk) ?_
  refine gq_st (f := fun _ kk => gf_bipush (8) dX8_init_5 rfl kk) ?_
  refine gq_st (f := fun _ kk => gf_newa (atype := .int) 14 8 (by decide) rfl na_int rfl (by decide) dX8_init_7 kk) ?_
  rw [W0.1.1]
  have W1 : wS 245 11784 103 (wF wLa zF9 2) (hp_new h0 14 8 8) := w_new W0 (t := 14) (len := 8) rfl rfl rfl
  generalize hp_new h0 14 8 8 = h1 at W1 ⊢
  refine gq_st (f := fun _ kk => gf_putRF flX8_9 rfl rfl rfl rfl dX8_init_9 (w_tag W1 (by decide) (rfl : gr_tl[243]? = some (8, 0))) ⟨rfl, rfl⟩ kk) ?_
  have W2 : wS 245 11784 104 (wF wLa zF9 2) (hp_setR h1 243 2 (some 244)) := w_ref W1 (by decide) rfl rfl
  generalize hp_setR h1 243 2 (some 244) = h2 at W2 ⊢
  refine gq_st (f := fun _ kk => gf_aload_n 0 dX8_init_12 rfl rfl kk) ?_
  refine gq_st (f := fun _ kk => gf_iconst (3) dX8_init_13 rfl kk) ?_
  refine gq_st (f := fun _ kk => gf_newa (atype := .int) 14 3 (by decide) rfl na_int rfl (by decide) dX8_init_14 kk) ?_
  rw [W2.1.1]
  have W3 : wS 246 11787 104 (wF wLa zF9 2) (hp_new h2 14 3 3) := w_new W2 (t := 14) (len := 3) rfl rfl rfl
  generalize hp_new h2 14 3 3 = h3 at W3 ⊢
  refine gq_st (f := fun _ kk => gf_putRF flX8_15 rfl rfl rfl rfl dX8_init_16 (w_tag W3 (by decide) (rfl : gr_tl[243]? = some (8, 0))) ⟨rfl, rfl⟩ kk) ?_
  have W4 : wS 246 11787 105 (wF wLa zF9 2) (hp_setR h3 243 3 (some 245)) := w_ref W3 (by decide) rfl rfl
  generalize hp_setR h3 243 3 (some 245) = h4 at W4 ⊢
  refine gq_st (f := fun _ kk => gf_aload_n 0 dX8_init_19 rfl rfl kk) ?_
  refine gq_st (f := fun _ kk => gf_iconst (3) dX8_init_20 rfl kk) ?_
  refine gq_st (f := fun _ kk => gf_newa (atype := .int) 14 3 (by decide) rfl na_int rfl (by decide) dX8_init_21 kk) ?_
  rw [W4.1.1]
  have W5 : wS 247 11790 105 (wF wLa zF9 2) (hp_new h4 14 3 3) := w_new W4 (t := 14) (len := 3) rfl rfl rfl
  generalize hp_new h4 14 3 3 = h5 at W5 ⊢
  refine gq_st (f := fun _ kk => gf_putRF flX8_18 rfl rfl rfl rfl dX8_init_23 (w_tag W5 (by decide) (rfl : gr_tl[243]? = some (8, 0))) ⟨rfl, rfl⟩ kk) ?_
  have W6 : wS 247 11790 106 (wF wLa zF9 2) (hp_setR h5 243 6 (some 246)) := w_ref W5 (by decide) rfl rfl
  generalize hp_setR h5 243 6 (some 246) = h6 at W6 ⊢
  refine gq_st (f := fun _ kk => gf_aload_n 0 dX8_init_26 rfl rfl kk) ?_
  refine gq_st (f := fun _ kk => gf_aload_n 1 dX8_init_27 rfl rfl kk) ?_
  refine gq_st (f := fun _ kk => gf_putRF flX8_21 rfl rfl rfl rfl dX8_init_28 (w_tag W6 (by decide) (rfl : gr_tl[243]? = some (8, 0))) ⟨rfl, rfl⟩ kk) ?_
  have W7 : wS 247 11790 107 (wF wLa zF9 2) (hp_setR h6 243 4 (some 145)) := w_ref W6 (by decide) rfl rfl
  generalize hp_setR h6 243 4 (some 145) = h7 at W7 ⊢
  refine gq_st (f := fun _ kk => gf_aload_n 0 dX8_init_31 rfl rfl kk) ?_
  refine gq_st (f := fun _ kk => gf_aload_n 2 dX8_init_32 rfl rfl kk) ?_
  refine gq_st (f := fun _ kk => gf_putRF flX8_25 rfl rfl rfl rfl dX8_init_33 (w_tag W7 (by decide) (rfl : gr_tl[243]? = some (8, 0))) ⟨rfl, rfl⟩ kk) ?_
  have W8 : wS 247 11790 108 (wF wLa zF9 2) (hp_setR h7 243 5 (some 193)) := w_ref W7 (by decide) rfl rfl
  generalize hp_setR h7 243 5 (some 193) = h8 at W8 ⊢
  exact ⟨_, gf_vretE dX8_init_36 rfl rfl, W8⟩
