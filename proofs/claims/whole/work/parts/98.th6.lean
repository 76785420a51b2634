/-! ===== constructors, 6 ===== -/
theorem n_X12_247_p0 (E : gE) {d : Nat} (hd : 3 ≤ d) {h0 : hp_T} {f9 : Nat → Nat → Int32} (W0 : wS 248 11904 109 (wF wLb f9 0) h0) : gq E mX12_init d 0 [(0, .ref (E.1 + 247))] [] h0 none (wS 333 163077 194 (wF wLb f9 102)) := by
  refine gq_st (f := fun _ kk => gf_aload_n 0 dX12_init_0 rfl rfl kk) ?_
  refine gq_st (f := fun _ kk => gf_objInit lkX12_1 kObj.1 kObj.2 dX12_init_1 (by omega) (Nat.le_of_ble_eq_true rfl) kk) ?_
  refine gq_st (f := fun _ kk => gf_aload_n 0 dX12_init_4 rfl rfl kk) ?_
  refine gq_st (f := fun _ kk => gf_sipush (600) dX12_init_5 rfl kk) ?_
  refine gq_st (f := fun _ kk => gf_newa (atype := .int) 14 600 (by decide) rfl na_int rfl (by decide) dX12_init_8 kk) ?_
  rw [W0.1.1]
  have W1 : wS 249 12504 109 (wF wLb f9 0) (hp_new h0 14 600 600) := w_new W0 (t := 14) (len := 600) rfl rfl rfl
  generalize hp_new h0 14 600 600 = h1 at W1 ⊢
  refine gq_st (f := fun _ kk => gf_putRF flX12_7 rfl rfl rfl rfl dX12_init_10 (w_tag W1 (by decide) (rfl : gr_tl[247]? = some (12, 0))) ⟨rfl, rfl⟩ kk) ?_
  have W2 : wS 249 12504 110 (wF wLb f9 0) (hp_setR h1 247 0 (some 248)) := w_ref W1 (by decide) rfl rfl
  generalize hp_setR h1 247 0 (some 248) = h2 at W2 ⊢
  refine gq_st (f := fun _ kk => gf_aload_n 0 dX12_init_13 rfl rfl kk) ?_
  refine gq_st (f := fun _ kk => gf_iconst (-1) dX12_init_14 rfl kk) ?_
  refine gq_st (f := fun _ kk => gf_putI flX12_13 rfl rfl dX12_init_15 (w_tag W2 (by decide) (rfl : gr_tl[247]? = some (12, 0))) ⟨rfl, rfl⟩ kk) ?_
  have W3 : wS 249 12504 110 (wF wLb f9 1) (hp_setI h2 247 8 (-1)) := w_int W2 (by decide) rfl rfl
  generalize hp_setI h2 247 8 (-1) = h3 at W3 ⊢
  refine gq_st (f := fun _ kk => gf_aload_n 0 dX12_init_18 rfl rfl kk) ?_
  refine gq_st (f := fun _ kk => gf_iconst (5) dX12_init_19 rfl kk) ?_
  refine gq_st (f := fun _ kk => gf_newa (atype := .char) 13 5 (by decide) rfl na_char rfl (by decide) dX12_init_20 kk) ?_
  rw [W3.1.1]
  have W4 : wS 250 12509 110 (wF wLb f9 1) (hp_new h3 13 5 5) := w_new W3 (t := 13) (len := 5) rfl rfl rfl
  generalize hp_new h3 13 5 5 = h4 at W4 ⊢
  refine gq_st (f := fun _ kk => gf_dup dX12_init_22 rfl kk) ?_
  refine gq_st (f := fun _ kk => gf_iconst (0) dX12_init_23 rfl kk) ?_
  refine gq_st (f := fun _ kk => gf_bipush (99) dX12_init_24 rfl kk) ?_
  refine gq_st (f := fun _ kk => gf_cast 5 (j := 0) dX12_init_26 (w_tag W4 (by decide) (rfl : gr_tl[249]? = some (13, 5))) (w_len W4 (by decide) (rfl : gr_tl[249]? = some (13, 5))) rfl (by decide) (by decide) rfl kk) ?_
  have W5 : wS 250 12509 110 (wF wLb f9 2) (hp_setI h4 249 0 (99)) := w_int W4 (by decide) rfl rfl
  generalize hp_setI h4 249 0 (99) = h5 at W5 ⊢
  refine gq_st (f := fun _ kk => gf_dup dX12_init_27 rfl kk) ?_
  refine gq_st (f := fun _ kk => gf_iconst (1) dX12_init_28 rfl kk) ?_
  refine gq_st (f := fun _ kk => gf_bipush (111) dX12_init_29 rfl kk) ?_
  refine gq_st (f := fun _ kk => gf_cast 5 (j := 1) dX12_init_31 (w_tag W5 (by decide) (rfl : gr_tl[249]? = some (13, 5))) (w_len W5 (by decide) (rfl : gr_tl[249]? = some (13, 5))) rfl (by decide) (by decide) rfl kk) ?_
  have W6 : wS 250 12509 110 (wF wLb f9 3) (hp_setI h5 249 1 (111)) := w_int W5 (by decide) rfl rfl
  generalize hp_setI h5 249 1 (111) = h6 at W6 ⊢
  refine gq_st (f := fun _ kk => gf_dup dX12_init_32 rfl kk) ?_
  refine gq_st (f := fun _ kk => gf_iconst (2) dX12_init_33 rfl kk) ?_
  refine gq_st (f := fun _ kk => gf_bipush (118) dX12_init_34 rfl kk) ?_
  refine gq_st (f := fun _ kk => gf_cast 5 (j := 2) dX12_init_36 (w_tag W6 (by decide) (rfl : gr_tl[249]? = some (13, 5))) (w_len W6 (by decide) (rfl : gr_tl[249]? = some (13, 5))) rfl (by decide) (by decide) rfl kk) ?_
  have W7 : wS 250 12509 110 (wF wLb f9 4) (hp_setI h6 249 2 (118)) := w_int W6 (by decide) rfl rfl
  generalize hp_setI h6 249 2 (118) = h7 at W7 ⊢
  refine gq_st (f := fun _ kk => gf_dup dX12_init_37 rfl kk) ?_
  refine gq_st (f := fun _ kk => gf_iconst (3) dX12_init_38 rfl kk) ?_
  refine gq_st (f := fun _ kk => gf_bipush (101) dX12_init_39 rfl kk) ?_
  refine gq_st (f := fun _ kk => gf_cast 5 (j := 3) dX12_init_41 (w_tag W7 (by decide) (rfl : gr_tl[249]? = some (13, 5))) (w_len W7 (by decide) (rfl : gr_tl[249]? = some (13, 5))) rfl (by decide) (by decide) rfl kk) ?_
  have W8 : wS 250 12509 110 (wF wLb f9 5) (hp_setI h7 249 3 (101)) := w_int W7 (by decide) rfl rfl
  generalize hp_setI h7 249 3 (101) = h8 at W8 ⊢
  refine gq_st (f := fun _ kk => gf_dup dX12_init_42 rfl kk) ?_
  refine gq_st (f := fun _ kk => gf_iconst (4) dX12_init_43 rfl kk) ?_
  refine gq_st (f := fun _ kk => gf_bipush (114) dX12_init_44 rfl kk) ?_
  refine gq_st (f := fun _ kk => gf_cast 5 (j := 4) dX12_init_46 (w_tag W8 (by decide) (rfl : gr_tl[249]? = some (13, 5))) (w_len W8 (by decide) (rfl : gr_tl[249]? = some (13, 5))) rfl (by decide) (by decide) rfl kk) ?_
  have W9 : wS 250 12509 110 (wF wLb f9 6) (hp_setI h8 249 4 (114)) := w_int W8 (by decide) rfl rfl
  generalize hp_setI h8 249 4 (114) = h9 at W9 ⊢
  refine gq_st (f := fun _ kk => gf_putRF flX12_17 rfl rfl rfl rfl dX12_init_47 (w_tag W9 (by decide) (rfl : gr_tl[247]? = some (12, 0))) ⟨rfl, rfl⟩ kk) ?_
  have W10 : wS 250 12509 111 (wF wLb f9 6) (hp_setR h9 247 9 (some 249)) := w_ref W9 (by decide) rfl rfl
  generalize hp_setR h9 247 9 (some 249) = h10 at W10 ⊢
  refine gq_st (f := fun _ kk => gf_aload_n 0 dX12_init_50 rfl rfl kk) ?_
  refine gq_st (f := fun _ kk => gf_iconst (4) dX12_init_51 rfl kk) ?_
  refine gq_st (f := fun _ kk => gf_newa (atype := .char) 13 4 (by decide) rfl na_char rfl (by decide) dX12_init_52 kk) ?_
  rw [W10.1.1]
  have W11 : wS 251 12513 111 (wF wLb f9 6) (hp_new h10 13 4 4) := w_new W10 (t := 13) (len := 4) rfl rfl rfl
  generalize hp_new h10 13 4 4 = h11 at W11 ⊢
  refine gq_st (f := fun _ kk => gf_dup dX12_init_54 rfl kk) ?_
  refine gq_st (f := fun _ kk => gf_iconst (0) dX12_init_55 rfl kk) ?_
  refine gq_st (f := fun _ kk => gf_bipush (118) dX12_init_56 rfl kk) ?_
  refine gq_st (f := fun _ kk => gf_cast 4 (j := 0) dX12_init_58 (w_tag W11 (by decide) (rfl : gr_tl[250]? = some (13, 4))) (w_len W11 (by decide) (rfl : gr_tl[250]? = some (13, 4))) rfl (by decide) (by decide) rfl kk) ?_
  have W12 : wS 251 12513 111 (wF wLb f9 7) (hp_setI h11 250 0 (118)) := w_int W11 (by decide) rfl rfl
  generalize hp_setI h11 250 0 (118) = h12 at W12 ⊢
  refine gq_st (f := fun _ kk => gf_dup dX12_init_59 rfl kk) ?_
  refine gq_st (f := fun _ kk => gf_iconst (1) dX12_init_60 rfl kk) ?_
  refine gq_st (f := fun _ kk => gf_bipush (111) dX12_init_61 rfl kk) ?_
  refine gq_st (f := fun _ kk => gf_cast 4 (j := 1) dX12_init_63 (w_tag W12 (by decide) (rfl : gr_tl[250]? = some (13, 4))) (w_len W12 (by decide) (rfl : gr_tl[250]? = some (13, 4))) rfl (by decide) (by decide) rfl kk) ?_
  have W13 : wS 251 12513 111 (wF wLb f9 8) (hp_setI h12 250 1 (111)) := w_int W12 (by decide) rfl rfl
  generalize hp_setI h12 250 1 (111) = h13 at W13 ⊢
  refine gq_st (f := fun _ kk => gf_dup dX12_init_64 rfl kk) ?_
  refine gq_st (f := fun _ kk => gf_iconst (2) dX12_init_65 rfl kk) ?_
  refine gq_st (f := fun _ kk => gf_bipush (105) dX12_init_66 rfl kk) ?_
  refine gq_st (f := fun _ kk => gf_cast 4 (j := 2) dX12_init_68 (w_tag W13 (by decide) (rfl : gr_tl[250]? = some (13, 4))) (w_len W13 (by decide) (rfl : gr_tl[250]? = some (13, 4))) rfl (by decide) (by decide) rfl kk) ?_
  have W14 : wS 251 12513 111 (wF wLb f9 9) (hp_setI h13 250 2 (105)) := w_int W13 (by decide) rfl rfl
  generalize hp_setI h13 250 2 (105) = h14 at W14 ⊢
  refine gq_st (f := fun _ kk => gf_dup dX12_init_69 rfl kk) ?_
  refine gq_st (f := fun _ kk => gf_iconst (3) dX12_init_70 rfl kk) ?_
  refine gq_st (f := fun _ kk => gf_bipush (100) dX12_init_71 rfl kk) ?_
  refine gq_st (f := fun _ kk => gf_cast 4 (j := 3) dX12_init_73 (w_tag W14 (by decide) (rfl : gr_tl[250]? = some (13, 4))) (w_len W14 (by decide) (rfl : gr_tl[250]? = some (13, 4))) rfl (by decide) (by decide) rfl kk) ?_
  have W15 : wS 251 12513 111 (wF wLb f9 10) (hp_setI h14 250 3 (100)) := w_int W14 (by decide) rfl rfl
  generalize hp_setI h14 250 3 (100) = h15 at W15 ⊢
  refine gq_st (f := fun _ kk => gf_putRF flX12_21 rfl rfl rfl rfl dX12_init_74 (w_tag W15 (by decide) (rfl : gr_tl[247]? = some (12, 0))) ⟨rfl, rfl⟩ kk) ?_
  have W16 : wS 251 12513 112 (wF wLb f9 10) (hp_setR h15 247 10 (some 250)) := w_ref W15 (by decide) rfl rfl
  generalize hp_setR h15 247 10 (some 250) = h16 at W16 ⊢
  refine gq_st (f := fun _ kk => gf_aload_n 0 dX12_init_77 rfl rfl kk) ?_
  refine gq_st (f := fun _ kk => gf_iconst (4) dX12_init_78 rfl kk) ?_
  refine gq_st (f := fun _ kk => gf_newa (atype := .char) 13 4 (by decide) rfl na_char rfl (by decide) dX12_init_79 kk) ?_
  rw [W16.1.1]
  have W17 : wS 252 12517 112 (wF wLb f9 10) (hp_new h16 13 4 4) := w_new W16 (t := 13) (len := 4) rfl rfl rfl
  generalize hp_new h16 13 4 4 = h17 at W17 ⊢
  refine gq_st (f := fun _ kk => gf_dup dX12_init_81 rfl kk) ?_
  refine gq_st (f := fun _ kk => gf_iconst (0) dX12_init_82 rfl kk) ?_
  refine gq_st (f := fun _ kk => gf_bipush (104) dX12_init_83 rfl kk) ?_
  refine gq_st (f := fun _ kk => gf_cast 4 (j := 0) dX12_init_85 (w_tag W17 (by decide) (rfl : gr_tl[251]? = some (13, 4))) (w_len W17 (by decide) (rfl : gr_tl[251]? = some (13, 4))) rfl (by decide) (by decide) rfl kk) ?_
  have W18 : wS 252 12517 112 (wF wLb f9 11) (hp_setI h17 251 0 (104)) := w_int W17 (by decide) rfl rfl
  generalize hp_setI h17 251 0 (104) = h18 at W18 ⊢
  refine gq_st (f := fun _ kk => gf_dup dX12_init_86 rfl kk) ?_
  refine gq_st (f := fun _ kk => gf_iconst (1) dX12_init_87 rfl kk) ?_
  refine gq_st (f := fun _ kk => gf_bipush (101) dX12_init_88 rfl kk) ?_
  refine gq_st (f := fun _ kk => gf_cast 4 (j := 1) dX12_init_90 (w_tag W18 (by decide) (rfl : gr_tl[251]? = some (13, 4))) (w_len W18 (by decide) (rfl : gr_tl[251]? = some (13, 4))) rfl (by decide) (by decide) rfl kk) ?_
  have W19 : wS 252 12517 112 (wF wLb f9 12) (hp_setI h18 251 1 (101)) := w_int W18 (by decide) rfl rfl
  generalize hp_setI h18 251 1 (101) = h19 at W19 ⊢
  refine gq_st (f := fun _ kk => gf_dup dX12_init_91 rfl kk) ?_
  refine gq_st (f := fun _ kk => gf_iconst (2) dX12_init_92 rfl kk) ?_
  refine gq_st (f := fun _ kk => gf_bipush (108) dX12_init_93 rfl kk) ?_
  refine gq_st (f := fun _ kk => gf_cast 4 (j := 2) dX12_init_95 (w_tag W19 (by decide) (rfl : gr_tl[251]? = some (13, 4))) (w_len W19 (by decide) (rfl : gr_tl[251]? = some (13, 4))) rfl (by decide) (by decide) rfl kk) ?_
  have W20 : wS 252 12517 112 (wF wLb f9 13) (hp_setI h19 251 2 (108)) := w_int W19 (by decide) rfl rfl
  generalize hp_setI h19 251 2 (108) = h20 at W20 ⊢
  refine gq_st (f := fun _ kk => gf_dup dX12_init_96 rfl kk) ?_
  refine gq_st (f := fun _ kk => gf_iconst (3) dX12_init_97 rfl kk) ?_
  refine gq_st (f := fun _ kk => gf_bipush (112) dX12_init_98 rfl kk) ?_
  refine gq_st (f := fun _ kk => gf_cast 4 (j := 3) dX12_init_100 (w_tag W20 (by decide) (rfl : gr_tl[251]? = some (13, 4))) (w_len W20 (by decide) (rfl : gr_tl[251]? = some (13, 4))) rfl (by decide) (by decide) rfl kk) ?_
  have W21 : wS 252 12517 112 (wF wLb f9 14) (hp_setI h20 251 3 (112)) := w_int W20 (by decide) rfl rfl
  generalize hp_setI h20 251 3 (112) = h21 at W21 ⊢
  refine gq_st (f := fun _ kk => gf_putRF flX12_24 rfl rfl rfl rfl dX12_init_101 (w_tag W21 (by decide) (rfl : gr_tl[247]? = some (12, 0))) ⟨rfl, rfl⟩ kk) ?_
  have W22 : wS 252 12517 113 (wF wLb f9 14) (hp_setR h21 247 11 (some 251)) := w_ref W21 (by decide) rfl rfl
  generalize hp_setR h21 247 11 (some 251) = h22 at W22 ⊢
  exact n_X12_247_p104 E hd W22
theorem n_X12_247 (E : gE) {d : Nat} (hd : 3 ≤ d) {h0 : hp_T} {f9 : Nat → Nat → Int32} (W0 : wS 248 11904 109 (wF wLb f9 0) h0) : ∃ h1, ev E mX12_init d [.ref (E.1 + 247)] h0 none h1 ∧ (wS 333 163077 194 (wF wLb f9 102)) h1 := by
  obtain ⟨h1, k1, W1⟩ := n_X12_247_p0 E hd W0
  exact ⟨h1, ev_of rfl (fun _ => rfl) (Nat.le_of_ble_eq_true rfl) k1, W1⟩
