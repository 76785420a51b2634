/-! ===== constructors, 4 ===== -/
theorem n_X12_247_p825 (E : gE) {d : Nat} (hd : 3 ≤ d) {h0 : hp_T} {f9 : Nat → Nat → Int32} (W0 : wS 289 157605 150 (wF wLb f9 101) h0) : gq E mX12_init d 825 [(0, .ref (E.1 + 247))] [] h0 none (wS 333 163077 194 (wF wLb f9 102)) := by
  refine gq_st (f := fun _ kk => gf_aload_n 0 dX12_init_825 rfl rfl kk) ?_
  refine gq_st (f := fun _ kk => gf_bipush (12) dX12_init_826 rfl kk) ?_
  refine gq_st (f := fun _ kk => gf_newa (atype := .int) 14 12 (by decide) rfl na_int rfl (by decide) dX12_init_828 kk) ?_
  rw [W0.1.1]
  have W1 : wS 290 157617 150 (wF wLb f9 101) (hp_new h0 14 12 12) := w_new W0 (t := 14) (len := 12) rfl rfl rfl
  generalize hp_new h0 14 12 12 = h1 at W1 ⊢
  refine gq_st (f := fun _ kk => gf_putRF flX12_146 rfl rfl rfl rfl dX12_init_830 (w_tag W1 (by decide) (rfl : gr_tl[247]? = some (12, 0))) ⟨rfl, rfl⟩ kk) ?_
  have W2 : wS 290 157617 151 (wF wLb f9 101) (hp_setR h1 247 56 (some 289)) := w_ref W1 (by decide) rfl rfl
  generalize hp_setR h1 247 56 (some 289) = h2 at W2 ⊢
  refine gq_st (f := fun _ kk => gf_aload_n 0 dX12_init_833 rfl rfl kk) ?_
  refine gq_st (f := fun _ kk => gf_bipush (12) dX12_init_834 rfl kk) ?_
  refine gq_st (f := fun _ kk => gf_newa (atype := .int) 14 12 (by decide) rfl na_int rfl (by decide) dX12_init_836 kk) ?_
  rw [W2.1.1]
  have W3 : wS 291 157629 151 (wF wLb f9 101) (hp_new h2 14 12 12) := w_new W2 (t := 14) (len := 12) rfl rfl rfl
  generalize hp_new h2 14 12 12 = h3 at W3 ⊢
  refine gq_st (f := fun _ kk => gf_putRF flX12_149 rfl rfl rfl rfl dX12_init_838 (w_tag W3 (by decide) (rfl : gr_tl[247]? = some (12, 0))) ⟨rfl, rfl⟩ kk) ?_
  have W4 : wS 291 157629 152 (wF wLb f9 101) (hp_setR h3 247 57 (some 290)) := w_ref W3 (by decide) rfl rfl
  generalize hp_setR h3 247 57 (some 290) = h4 at W4 ⊢
  refine gq_st (f := fun _ kk => gf_aload_n 0 dX12_init_841 rfl rfl kk) ?_
  refine gq_st (f := fun _ kk => gf_bipush (12) dX12_init_842 rfl kk) ?_
  refine gq_st (f := fun _ kk => gf_newa (atype := .int) 14 12 (by decide) rfl na_int rfl (by decide) dX12_init_844 kk) ?_
  rw [W4.1.1]
  have W5 : wS 292 157641 152 (wF wLb f9 101) (hp_new h4 14 12 12) := w_new W4 (t := 14) (len := 12) rfl rfl rfl
  generalize hp_new h4 14 12 12 = h5 at W5 ⊢
  refine gq_st (f := fun _ kk => gf_putRF flX12_152 rfl rfl rfl rfl dX12_init_846 (w_tag W5 (by decide) (rfl : gr_tl[247]? = some (12, 0))) ⟨rfl, rfl⟩ kk) ?_
  have W6 : wS 292 157641 153 (wF wLb f9 101) (hp_setR h5 247 58 (some 291)) := w_ref W5 (by decide) rfl rfl
  generalize hp_setR h5 247 58 (some 291) = h6 at W6 ⊢
  refine gq_st (f := fun _ kk => gf_aload_n 0 dX12_init_849 rfl rfl kk) ?_
  refine gq_st (f := fun _ kk => gf_bipush (81) dX12_init_850 rfl kk) ?_
  refine gq_st (f := fun _ kk => gf_newa (atype := .int) 14 81 (by decide) rfl na_int rfl (by decide) dX12_init_852 kk) ?_
  rw [W6.1.1]
  have W7 : wS 293 157722 153 (wF wLb f9 101) (hp_new h6 14 81 81) := w_new W6 (t := 14) (len := 81) rfl rfl rfl
  generalize hp_new h6 14 81 81 = h7 at W7 ⊢
  refine gq_st (f := fun _ kk => gf_putRF flX12_155 rfl rfl rfl rfl dX12_init_854 (w_tag W7 (by decide) (rfl : gr_tl[247]? = some (12, 0))) ⟨rfl, rfl⟩ kk) ?_
  have W8 : wS 293 157722 154 (wF wLb f9 101) (hp_setR h7 247 59 (some 292)) := w_ref W7 (by decide) rfl rfl
  generalize hp_setR h7 247 59 (some 292) = h8 at W8 ⊢
  refine gq_st (f := fun _ kk => gf_aload_n 0 dX12_init_857 rfl rfl kk) ?_
  refine gq_st (f := fun _ kk => gf_bipush (8) dX12_init_858 rfl kk) ?_
  refine gq_st (f := fun _ kk => gf_newa (atype := .int) 14 8 (by decide) rfl na_int rfl (by decide) dX12_init_860 kk) ?_
  rw [W8.1.1]
  have W9 : wS 294 157730 154 (wF wLb f9 101) (hp_new h8 14 8 8) := w_new W8 (t := 14) (len := 8) rfl rfl rfl
  generalize hp_new h8 14 8 8 = h9 at W9 ⊢
  refine gq_st (f := fun _ kk => gf_putRF flX12_158 rfl rfl rfl rfl dX12_init_862 (w_tag W9 (by decide) (rfl : gr_tl[247]? = some (12, 0))) ⟨rfl, rfl⟩ kk) ?_
  have W10 : wS 294 157730 155 (wF wLb f9 101) (hp_setR h9 247 61 (some 293)) := w_ref W9 (by decide) rfl rfl
  generalize hp_setR h9 247 61 (some 293) = h10 at W10 ⊢
  refine gq_st (f := fun _ kk => gf_aload_n 0 dX12_init_865 rfl rfl kk) ?_
  refine gq_st (f := fun _ kk => gf_sipush (201) dX12_init_866 rfl kk) ?_
  refine gq_st (f := fun _ kk => gf_newa (atype := .int) 14 201 (by decide) rfl na_int rfl (by decide) dX12_init_869 kk) ?_
  rw [W10.1.1]
  have W11 : wS 295 157931 155 (wF wLb f9 101) (hp_new h10 14 201 201) := w_new W10 (t := 14) (len := 201) rfl rfl rfl
  generalize hp_new h10 14 201 201 = h11 at W11 ⊢
  refine gq_st (f := fun _ kk => gf_putRF flX12_161 rfl rfl rfl rfl dX12_init_871 (w_tag W11 (by decide) (rfl : gr_tl[247]? = some (12, 0))) ⟨rfl, rfl⟩ kk) ?_
  have W12 : wS 295 157931 156 (wF wLb f9 101) (hp_setR h11 247 63 (some 294)) := w_ref W11 (by decide) rfl rfl
  generalize hp_setR h11 247 63 (some 294) = h12 at W12 ⊢
  refine gq_st (f := fun _ kk => gf_aload_n 0 dX12_init_874 rfl rfl kk) ?_
  refine gq_st (f := fun _ kk => gf_sipush (201) dX12_init_875 rfl kk) ?_
  refine gq_st (f := fun _ kk => gf_newa (atype := .int) 14 201 (by decide) rfl na_int rfl (by decide) dX12_init_878 kk) ?_
  rw [W12.1.1]
  have W13 : wS 296 158132 156 (wF wLb f9 101) (hp_new h12 14 201 201) := w_new W12 (t := 14) (len := 201) rfl rfl rfl
  generalize hp_new h12 14 201 201 = h13 at W13 ⊢
  refine gq_st (f := fun _ kk => gf_putRF flX12_164 rfl rfl rfl rfl dX12_init_880 (w_tag W13 (by decide) (rfl : gr_tl[247]? = some (12, 0))) ⟨rfl, rfl⟩ kk) ?_
  have W14 : wS 296 158132 157 (wF wLb f9 101) (hp_setR h13 247 64 (some 295)) := w_ref W13 (by decide) rfl rfl
  generalize hp_setR h13 247 64 (some 295) = h14 at W14 ⊢
  refine gq_st (f := fun _ kk => gf_aload_n 0 dX12_init_883 rfl rfl kk) ?_
  refine gq_st (f := fun _ kk => gf_sipush (201) dX12_init_884 rfl kk) ?_
  refine gq_st (f := fun _ kk => gf_newa (atype := .int) 14 201 (by decide) rfl na_int rfl (by decide) dX12_init_887 kk) ?_
  rw [W14.1.1]
  have W15 : wS 297 158333 157 (wF wLb f9 101) (hp_new h14 14 201 201) := w_new W14 (t := 14) (len := 201) rfl rfl rfl
  generalize hp_new h14 14 201 201 = h15 at W15 ⊢
  refine gq_st (f := fun _ kk => gf_putRF flX12_167 rfl rfl rfl rfl dX12_init_889 (w_tag W15 (by decide) (rfl : gr_tl[247]? = some (12, 0))) ⟨rfl, rfl⟩ kk) ?_
  have W16 : wS 297 158333 158 (wF wLb f9 101) (hp_setR h15 247 65 (some 296)) := w_ref W15 (by decide) rfl rfl
  generalize hp_setR h15 247 65 (some 296) = h16 at W16 ⊢
  refine gq_st (f := fun _ kk => gf_aload_n 0 dX12_init_892 rfl rfl kk) ?_
  refine gq_st (f := fun _ kk => gf_sipush (201) dX12_init_893 rfl kk) ?_
  refine gq_st (f := fun _ kk => gf_newa (atype := .int) 14 201 (by decide) rfl na_int rfl (by decide) dX12_init_896 kk) ?_
  rw [W16.1.1]
  have W17 : wS 298 158534 158 (wF wLb f9 101) (hp_new h16 14 201 201) := w_new W16 (t := 14) (len := 201) rfl rfl rfl
  generalize hp_new h16 14 201 201 = h17 at W17 ⊢
  refine gq_st (f := fun _ kk => gf_putRF flX12_170 rfl rfl rfl rfl dX12_init_898 (w_tag W17 (by decide) (rfl : gr_tl[247]? = some (12, 0))) ⟨rfl, rfl⟩ kk) ?_
  have W18 : wS 298 158534 159 (wF wLb f9 101) (hp_setR h17 247 66 (some 297)) := w_ref W17 (by decide) rfl rfl
  generalize hp_setR h17 247 66 (some 297) = h18 at W18 ⊢
  refine gq_st (f := fun _ kk => gf_aload_n 0 dX12_init_901 rfl rfl kk) ?_
  refine gq_st (f := fun _ kk => gf_sipush (201) dX12_init_902 rfl kk) ?_
  refine gq_st (f := fun _ kk => gf_newa (atype := .int) 14 201 (by decide) rfl na_int rfl (by decide) dX12_init_905 kk) ?_
  rw [W18.1.1]
  have W19 : wS 299 158735 159 (wF wLb f9 101) (hp_new h18 14 201 201) := w_new W18 (t := 14) (len := 201) rfl rfl rfl
  generalize hp_new h18 14 201 201 = h19 at W19 ⊢
  refine gq_st (f := fun _ kk => gf_putRF flX12_173 rfl rfl rfl rfl dX12_init_907 (w_tag W19 (by decide) (rfl : gr_tl[247]? = some (12, 0))) ⟨rfl, rfl⟩ kk) ?_
  have W20 : wS 299 158735 160 (wF wLb f9 101) (hp_setR h19 247 67 (some 298)) := w_ref W19 (by decide) rfl rfl
  generalize hp_setR h19 247 67 (some 298) = h20 at W20 ⊢
  refine gq_st (f := fun _ kk => gf_aload_n 0 dX12_init_910 rfl rfl kk) ?_
  refine gq_st (f := fun _ kk => gf_iconst (-1) dX12_init_911 rfl kk) ?_
  refine gq_st (f := fun _ kk => gf_putI flX12_176 rfl rfl dX12_init_912 (w_tag W20 (by decide) (rfl : gr_tl[247]? = some (12, 0))) ⟨rfl, rfl⟩ kk) ?_
  have W21 : wS 299 158735 160 (wF wLb f9 102) (hp_setI h20 247 68 (-1)) := w_int W20 (by decide) rfl rfl
  generalize hp_setI h20 247 68 (-1) = h21 at W21 ⊢
  exact n_X12_247_p915 E hd W21
theorem n_X12_247_p737 (E : gE) {d : Nat} (hd : 3 ≤ d) {h0 : hp_T} {f9 : Nat → Nat → Int32} (W0 : wS 278 156615 139 (wF wLb f9 101) h0) : gq E mX12_init d 737 [(0, .ref (E.1 + 247))] [] h0 none (wS 333 163077 194 (wF wLb f9 102)) := by
  refine gq_st (f := fun _ kk => gf_aload_n 0 dX12_init_737 rfl rfl kk) ?_
  refine gq_st (f := fun _ kk => gf_bipush (120) dX12_init_738 rfl kk) ?_
  refine gq_st (f := fun _ kk => gf_newa (atype := .int) 14 120 (by decide) rfl na_int rfl (by decide) dX12_init_740 kk) ?_
  rw [W0.1.1]
  have W1 : wS 279 156735 139 (wF wLb f9 101) (hp_new h0 14 120 120) := w_new W0 (t := 14) (len := 120) rfl rfl rfl
  generalize hp_new h0 14 120 120 = h1 at W1 ⊢
  refine gq_st (f := fun _ kk => gf_putRF flX12_112 rfl rfl rfl rfl dX12_init_742 (w_tag W1 (by decide) (rfl : gr_tl[247]? = some (12, 0))) ⟨rfl, rfl⟩ kk) ?_
  have W2 : wS 279 156735 140 (wF wLb f9 101) (hp_setR h1 247 44 (some 278)) := w_ref W1 (by decide) rfl rfl
  generalize hp_setR h1 247 44 (some 278) = h2 at W2 ⊢
  refine gq_st (f := fun _ kk => gf_aload_n 0 dX12_init_745 rfl rfl kk) ?_
  refine gq_st (f := fun _ kk => gf_bipush (120) dX12_init_746 rfl kk) ?_
  refine gq_st (f := fun _ kk => gf_newa (atype := .int) 14 120 (by decide) rfl na_int rfl (by decide) dX12_init_748 kk) ?_
  rw [W2.1.1]
  have W3 : wS 280 156855 140 (wF wLb f9 101) (hp_new h2 14 120 120) := w_new W2 (t := 14) (len := 120) rfl rfl rfl
  generalize hp_new h2 14 120 120 = h3 at W3 ⊢
  refine gq_st (f := fun _ kk => gf_putRF flX12_115 rfl rfl rfl rfl dX12_init_750 (w_tag W3 (by decide) (rfl : gr_tl[247]? = some (12, 0))) ⟨rfl, rfl⟩ kk) ?_
  have W4 : wS 280 156855 141 (wF wLb f9 101) (hp_setR h3 247 45 (some 279)) := w_ref W3 (by decide) rfl rfl
  generalize hp_setR h3 247 45 (some 279) = h4 at W4 ⊢
  refine gq_st (f := fun _ kk => gf_aload_n 0 dX12_init_753 rfl rfl kk) ?_
  refine gq_st (f := fun _ kk => gf_bipush (120) dX12_init_754 rfl kk) ?_
  refine gq_st (f := fun _ kk => gf_newa (atype := .int) 14 120 (by decide) rfl na_int rfl (by decide) dX12_init_756 kk) ?_
  rw [W4.1.1]
  have W5 : wS 281 156975 141 (wF wLb f9 101) (hp_new h4 14 120 120) := w_new W4 (t := 14) (len := 120) rfl rfl rfl
  generalize hp_new h4 14 120 120 = h5 at W5 ⊢
  refine gq_st (f := fun _ kk => gf_putRF flX12_118 rfl rfl rfl rfl dX12_init_758 (w_tag W5 (by decide) (rfl : gr_tl[247]? = some (12, 0))) ⟨rfl, rfl⟩ kk) ?_
  have W6 : wS 281 156975 142 (wF wLb f9 101) (hp_setR h5 247 46 (some 280)) := w_ref W5 (by decide) rfl rfl
  generalize hp_setR h5 247 46 (some 280) = h6 at W6 ⊢
  refine gq_st (f := fun _ kk => gf_aload_n 0 dX12_init_761 rfl rfl kk) ?_
  refine gq_st (f := fun _ kk => gf_bipush (120) dX12_init_762 rfl kk) ?_
  refine gq_st (f := fun _ kk => gf_newa (atype := .boolean) 16 120 (by decide) rfl na_boolean rfl (by decide) dX12_init_764 kk) ?_
  rw [W6.1.1]
  have W7 : wS 282 157095 142 (wF wLb f9 101) (hp_new h6 16 120 120) := w_new W6 (t := 16) (len := 120) rfl rfl rfl
  generalize hp_new h6 16 120 120 = h7 at W7 ⊢
  refine gq_st (f := fun _ kk => gf_putRF flX12_121 rfl rfl rfl rfl dX12_init_766 (w_tag W7 (by decide) (rfl : gr_tl[247]? = some (12, 0))) ⟨rfl, rfl⟩ kk) ?_
  have W8 : wS 282 157095 143 (wF wLb f9 101) (hp_setR h7 247 47 (some 281)) := w_ref W7 (by decide) rfl rfl
  generalize hp_setR h7 247 47 (some 281) = h8 at W8 ⊢
  refine gq_st (f := fun _ kk => gf_aload_n 0 dX12_init_769 rfl rfl kk) ?_
  refine gq_st (f := fun _ kk => gf_bipush (120) dX12_init_770 rfl kk) ?_
  refine gq_st (f := fun _ kk => gf_newa (atype := .boolean) 16 120 (by decide) rfl na_boolean rfl (by decide) dX12_init_772 kk) ?_
  rw [W8.1.1]
  have W9 : wS 283 157215 143 (wF wLb f9 101) (hp_new h8 16 120 120) := w_new W8 (t := 16) (len := 120) rfl rfl rfl
  generalize hp_new h8 16 120 120 = h9 at W9 ⊢
  refine gq_st (f := fun _ kk => gf_putRF flX12_125 rfl rfl rfl rfl dX12_init_774 (w_tag W9 (by decide) (rfl : gr_tl[247]? = some (12, 0))) ⟨rfl, rfl⟩ kk) ?_
  have W10 : wS 283 157215 144 (wF wLb f9 101) (hp_setR h9 247 48 (some 282)) := w_ref W9 (by decide) rfl rfl
  generalize hp_setR h9 247 48 (some 282) = h10 at W10 ⊢
  refine gq_st (f := fun _ kk => gf_aload_n 0 dX12_init_777 rfl rfl kk) ?_
  refine gq_st (f := fun _ kk => gf_bipush (6) dX12_init_778 rfl kk) ?_
  refine gq_st (f := fun _ kk => gf_newa (atype := .int) 14 6 (by decide) rfl na_int rfl (by decide) dX12_init_780 kk) ?_
  rw [W10.1.1]
  have W11 : wS 284 157221 144 (wF wLb f9 101) (hp_new h10 14 6 6) := w_new W10 (t := 14) (len := 6) rfl rfl rfl
  generalize hp_new h10 14 6 6 = h11 at W11 ⊢
  refine gq_st (f := fun _ kk => gf_putRF flX12_128 rfl rfl rfl rfl dX12_init_782 (w_tag W11 (by decide) (rfl : gr_tl[247]? = some (12, 0))) ⟨rfl, rfl⟩ kk) ?_
  have W12 : wS 284 157221 145 (wF wLb f9 101) (hp_setR h11 247 49 (some 283)) := w_ref W11 (by decide) rfl rfl
  generalize hp_setR h11 247 49 (some 283) = h12 at W12 ⊢
  refine gq_st (f := fun _ kk => gf_aload_n 0 dX12_init_785 rfl rfl kk) ?_
  refine gq_st (f := fun _ kk => gf_bipush (121) dX12_init_786 rfl kk) ?_
  refine gq_st (f := fun _ kk => gf_newa (atype := .int) 14 121 (by decide) rfl na_int rfl (by decide) dX12_init_788 kk) ?_
  rw [W12.1.1]
  have W13 : wS 285 157342 145 (wF wLb f9 101) (hp_new h12 14 121 121) := w_new W12 (t := 14) (len := 121) rfl rfl rfl
  generalize hp_new h12 14 121 121 = h13 at W13 ⊢
  refine gq_st (f := fun _ kk => gf_putRF flX12_131 rfl rfl rfl rfl dX12_init_790 (w_tag W13 (by decide) (rfl : gr_tl[247]? = some (12, 0))) ⟨rfl, rfl⟩ kk) ?_
  have W14 : wS 285 157342 146 (wF wLb f9 101) (hp_setR h13 247 50 (some 284)) := w_ref W13 (by decide) rfl rfl
  generalize hp_setR h13 247 50 (some 284) = h14 at W14 ⊢
  refine gq_st (f := fun _ kk => gf_aload_n 0 dX12_init_793 rfl rfl kk) ?_
  refine gq_st (f := fun _ kk => gf_bipush (121) dX12_init_794 rfl kk) ?_
  refine gq_st (f := fun _ kk => gf_newa (atype := .int) 14 121 (by decide) rfl na_int rfl (by decide) dX12_init_796 kk) ?_
  rw [W14.1.1]
  have W15 : wS 286 157463 146 (wF wLb f9 101) (hp_new h14 14 121 121) := w_new W14 (t := 14) (len := 121) rfl rfl rfl
  generalize hp_new h14 14 121 121 = h15 at W15 ⊢
  refine gq_st (f := fun _ kk => gf_putRF flX12_134 rfl rfl rfl rfl dX12_init_798 (w_tag W15 (by decide) (rfl : gr_tl[247]? = some (12, 0))) ⟨rfl, rfl⟩ kk) ?_
  have W16 : wS 286 157463 147 (wF wLb f9 101) (hp_setR h15 247 51 (some 285)) := w_ref W15 (by decide) rfl rfl
  generalize hp_setR h15 247 51 (some 285) = h16 at W16 ⊢
  refine gq_st (f := fun _ kk => gf_aload_n 0 dX12_init_801 rfl rfl kk) ?_
  refine gq_st (f := fun _ kk => gf_bipush (121) dX12_init_802 rfl kk) ?_
  refine gq_st (f := fun _ kk => gf_newa (atype := .boolean) 16 121 (by decide) rfl na_boolean rfl (by decide) dX12_init_804 kk) ?_
  rw [W16.1.1]
  have W17 : wS 287 157584 147 (wF wLb f9 101) (hp_new h16 16 121 121) := w_new W16 (t := 16) (len := 121) rfl rfl rfl
  generalize hp_new h16 16 121 121 = h17 at W17 ⊢
  refine gq_st (f := fun _ kk => gf_putRF flX12_137 rfl rfl rfl rfl dX12_init_806 (w_tag W17 (by decide) (rfl : gr_tl[247]? = some (12, 0))) ⟨rfl, rfl⟩ kk) ?_
  have W18 : wS 287 157584 148 (wF wLb f9 101) (hp_setR h17 247 52 (some 286)) := w_ref W17 (by decide) rfl rfl
  generalize hp_setR h17 247 52 (some 286) = h18 at W18 ⊢
  refine gq_st (f := fun _ kk => gf_aload_n 0 dX12_init_809 rfl rfl kk) ?_
  refine gq_st (f := fun _ kk => gf_bipush (9) dX12_init_810 rfl kk) ?_
  refine gq_st (f := fun _ kk => gf_newa (atype := .int) 14 9 (by decide) rfl na_int rfl (by decide) dX12_init_812 kk) ?_
  rw [W18.1.1]
  have W19 : wS 288 157593 148 (wF wLb f9 101) (hp_new h18 14 9 9) := w_new W18 (t := 14) (len := 9) rfl rfl rfl
  generalize hp_new h18 14 9 9 = h19 at W19 ⊢
  refine gq_st (f := fun _ kk => gf_putRF flX12_140 rfl rfl rfl rfl dX12_init_814 (w_tag W19 (by decide) (rfl : gr_tl[247]? = some (12, 0))) ⟨rfl, rfl⟩ kk) ?_
  have W20 : wS 288 157593 149 (wF wLb f9 101) (hp_setR h19 247 53 (some 287)) := w_ref W19 (by decide) rfl rfl
  generalize hp_setR h19 247 53 (some 287) = h20 at W20 ⊢
  refine gq_st (f := fun _ kk => gf_aload_n 0 dX12_init_817 rfl rfl kk) ?_
  refine gq_st (f := fun _ kk => gf_bipush (12) dX12_init_818 rfl kk) ?_
  refine gq_st (f := fun _ kk => gf_newa (atype := .int) 14 12 (by decide) rfl na_int rfl (by decide) dX12_init_820 kk) ?_
  rw [W20.1.1]
  have W21 : wS 289 157605 149 (wF wLb f9 101) (hp_new h20 14 12 12) := w_new W20 (t := 14) (len := 12) rfl rfl rfl
  generalize hp_new h20 14 12 12 = h21 at W21 ⊢
  refine gq_st (f := fun _ kk => gf_putRF flX12_143 rfl rfl rfl rfl dX12_init_822 (w_tag W21 (by decide) (rfl : gr_tl[247]? = some (12, 0))) ⟨rfl, rfl⟩ kk) ?_
  have W22 : wS 289 157605 150 (wF wLb f9 101) (hp_setR h21 247 55 (some 288)) := w_ref W21 (by decide) rfl rfl
  generalize hp_setR h21 247 55 (some 288) = h22 at W22 ⊢
  exact n_X12_247_p825 E hd W22
theorem n_X12_247_p652 (E : gE) {d : Nat} (hd : 3 ≤ d) {h0 : hp_T} {f9 : Nat → Nat → Int32} (W0 : wS 271 12599 132 (wF wLb f9 96) h0) : gq E mX12_init d 652 [(0, .ref (E.1 + 247))] [] h0 none (wS 333 163077 194 (wF wLb f9 102)) := by
  refine gq_st (f := fun _ kk => gf_aload_n 0 dX12_init_652 rfl rfl kk) ?_
  refine gq_st (f := fun _ kk => gf_iconst (3) dX12_init_653 rfl kk) ?_
  refine gq_st (f := fun _ kk => gf_newa (atype := .char) 13 3 (by decide) rfl na_char rfl (by decide) dX12_init_654 kk) ?_
  rw [W0.1.1]
  have W1 : wS 272 12602 132 (wF wLb f9 96) (hp_new h0 13 3 3) := w_new W0 (t := 13) (len := 3) rfl rfl rfl
  generalize hp_new h0 13 3 3 = h1 at W1 ⊢
  refine gq_st (f := fun _ kk => gf_dup dX12_init_656 rfl kk) ?_
  refine gq_st (f := fun _ kk => gf_iconst (0) dX12_init_657 rfl kk) ?_
  refine gq_st (f := fun _ kk => gf_bipush (109) dX12_init_658 rfl kk) ?_
  refine gq_st (f := fun _ kk => gf_cast 3 (j := 0) dX12_init_660 (w_tag W1 (by decide) (rfl : gr_tl[271]? = some (13, 3))) (w_len W1 (by decide) (rfl : gr_tl[271]? = some (13, 3))) rfl (by decide) (by decide) rfl kk) ?_
  have W2 : wS 272 12602 132 (wF wLb f9 97) (hp_setI h1 271 0 (109)) := w_int W1 (by decide) rfl rfl
  generalize hp_setI h1 271 0 (109) = h2 at W2 ⊢
  refine gq_st (f := fun _ kk => gf_dup dX12_init_661 rfl kk) ?_
  refine gq_st (f := fun _ kk => gf_iconst (1) dX12_init_662 rfl kk) ?_
  refine gq_st (f := fun _ kk => gf_bipush (97) dX12_init_663 rfl kk) ?_
  refine gq_st (f := fun _ kk => gf_cast 3 (j := 1) dX12_init_665 (w_tag W2 (by decide) (rfl : gr_tl[271]? = some (13, 3))) (w_len W2 (by decide) (rfl : gr_tl[271]? = some (13, 3))) rfl (by decide) (by decide) rfl kk) ?_
  have W3 : wS 272 12602 132 (wF wLb f9 98) (hp_setI h2 271 1 (97)) := w_int W2 (by decide) rfl rfl
  generalize hp_setI h2 271 1 (97) = h3 at W3 ⊢
  refine gq_st (f := fun _ kk => gf_dup dX12_init_666 rfl kk) ?_
  refine gq_st (f := fun _ kk => gf_iconst (2) dX12_init_667 rfl kk) ?_
  refine gq_st (f := fun _ kk => gf_bipush (120) dX12_init_668 rfl kk) ?_
  refine gq_st (f := fun _ kk => gf_cast 3 (j := 2) dX12_init_670 (w_tag W3 (by decide) (rfl : gr_tl[271]? = some (13, 3))) (w_len W3 (by decide) (rfl : gr_tl[271]? = some (13, 3))) rfl (by decide) (by decide) rfl kk) ?_
  have W4 : wS 272 12602 132 (wF wLb f9 99) (hp_setI h3 271 2 (120)) := w_int W3 (by decide) rfl rfl
  generalize hp_setI h3 271 2 (120) = h4 at W4 ⊢
  refine gq_st (f := fun _ kk => gf_putRF flX12_84 rfl rfl rfl rfl dX12_init_671 (w_tag W4 (by decide) (rfl : gr_tl[247]? = some (12, 0))) ⟨rfl, rfl⟩ kk) ?_
  have W5 : wS 272 12602 133 (wF wLb f9 99) (hp_setR h4 247 31 (some 271)) := w_ref W4 (by decide) rfl rfl
  generalize hp_setR h4 247 31 (some 271) = h5 at W5 ⊢
  refine gq_st (f := fun _ kk => gf_aload_n 0 dX12_init_674 rfl rfl kk) ?_
  refine gq_st (f := fun _ kk => gf_sipush (201) dX12_init_675 rfl kk) ?_
  refine gq_st (f := fun _ kk => gf_newa (atype := .int) 14 201 (by decide) rfl na_int rfl (by decide) dX12_init_678 kk) ?_
  rw [W5.1.1]
  have W6 : wS 273 12803 133 (wF wLb f9 99) (hp_new h5 14 201 201) := w_new W5 (t := 14) (len := 201) rfl rfl rfl
  generalize hp_new h5 14 201 201 = h6 at W6 ⊢
  refine gq_st (f := fun _ kk => gf_putRF flX12_87 rfl rfl rfl rfl dX12_init_680 (w_tag W6 (by decide) (rfl : gr_tl[247]? = some (12, 0))) ⟨rfl, rfl⟩ kk) ?_
  have W7 : wS 273 12803 134 (wF wLb f9 99) (hp_setR h6 247 32 (some 272)) := w_ref W6 (by decide) rfl rfl
  generalize hp_setR h6 247 32 (some 272) = h7 at W7 ⊢
  refine gq_st (f := fun _ kk => gf_aload_n 0 dX12_init_683 rfl rfl kk) ?_
  refine gq_st (f := fun _ kk => gf_sipush (4824) dX12_init_684 rfl kk) ?_
  refine gq_st (f := fun _ kk => gf_newa (atype := .int) 14 4824 (by decide) rfl na_int rfl (by decide) dX12_init_687 kk) ?_
  rw [W7.1.1]
  have W8 : wS 274 17627 134 (wF wLb f9 99) (hp_new h7 14 4824 4824) := w_new W7 (t := 14) (len := 4824) rfl rfl rfl
  generalize hp_new h7 14 4824 4824 = h8 at W8 ⊢
  refine gq_st (f := fun _ kk => gf_putRF flX12_90 rfl rfl rfl rfl dX12_init_689 (w_tag W8 (by decide) (rfl : gr_tl[247]? = some (12, 0))) ⟨rfl, rfl⟩ kk) ?_
  have W9 : wS 274 17627 135 (wF wLb f9 99) (hp_setR h8 247 33 (some 273)) := w_ref W8 (by decide) rfl rfl
  generalize hp_setR h8 247 33 (some 273) = h9 at W9 ⊢
  refine gq_st (f := fun _ kk => gf_aload_n 0 dX12_init_692 rfl rfl kk) ?_
  refine gq_st (f := fun _ kk => gf_sipush (4824) dX12_init_693 rfl kk) ?_
  refine gq_st (f := fun _ kk => gf_newa (atype := .int) 14 4824 (by decide) rfl na_int rfl (by decide) dX12_init_696 kk) ?_
  rw [W9.1.1]
  have W10 : wS 275 22451 135 (wF wLb f9 99) (hp_new h9 14 4824 4824) := w_new W9 (t := 14) (len := 4824) rfl rfl rfl
  generalize hp_new h9 14 4824 4824 = h10 at W10 ⊢
  refine gq_st (f := fun _ kk => gf_putRF flX12_93 rfl rfl rfl rfl dX12_init_698 (w_tag W10 (by decide) (rfl : gr_tl[247]? = some (12, 0))) ⟨rfl, rfl⟩ kk) ?_
  have W11 : wS 275 22451 136 (wF wLb f9 99) (hp_setR h10 247 34 (some 274)) := w_ref W10 (by decide) rfl rfl
  generalize hp_setR h10 247 34 (some 274) = h11 at W11 ⊢
  refine gq_st (f := fun _ kk => gf_aload_n 0 dX12_init_701 rfl rfl kk) ?_
  refine gq_st (f := fun _ kk => gf_sipush (4824) dX12_init_702 rfl kk) ?_
  refine gq_st (f := fun _ kk => gf_newa (atype := .int) 14 4824 (by decide) rfl na_int rfl (by decide) dX12_init_705 kk) ?_
  rw [W11.1.1]
  have W12 : wS 276 27275 136 (wF wLb f9 99) (hp_new h11 14 4824 4824) := w_new W11 (t := 14) (len := 4824) rfl rfl rfl
  generalize hp_new h11 14 4824 4824 = h12 at W12 ⊢
  refine gq_st (f := fun _ kk => gf_putRF flX12_96 rfl rfl rfl rfl dX12_init_707 (w_tag W12 (by decide) (rfl : gr_tl[247]? = some (12, 0))) ⟨rfl, rfl⟩ kk) ?_
  have W13 : wS 276 27275 137 (wF wLb f9 99) (hp_setR h12 247 35 (some 275)) := w_ref W12 (by decide) rfl rfl
  generalize hp_setR h12 247 35 (some 275) = h13 at W13 ⊢
  refine gq_st (f := fun _ kk => gf_aload_n 0 dX12_init_710 rfl rfl kk) ?_
  refine gq_st (f := fun _ kk => gf_ldc (128640) kcX12_99 dX12_init_711 kk) ?_
  refine gq_st (f := fun _ kk => gf_newa (atype := .int) 14 128640 (by decide) rfl na_int rfl (by decide) dX12_init_713 kk) ?_
  rw [W13.1.1]
  have W14 : wS 277 155915 137 (wF wLb f9 99) (hp_new h13 14 128640 128640) := w_new W13 (t := 14) (len := 128640) rfl rfl rfl
  generalize hp_new h13 14 128640 128640 = h14 at W14 ⊢
  refine gq_st (f := fun _ kk => gf_putRF flX12_100 rfl rfl rfl rfl dX12_init_715 (w_tag W14 (by decide) (rfl : gr_tl[247]? = some (12, 0))) ⟨rfl, rfl⟩ kk) ?_
  have W15 : wS 277 155915 138 (wF wLb f9 99) (hp_setR h14 247 36 (some 276)) := w_ref W14 (by decide) rfl rfl
  generalize hp_setR h14 247 36 (some 276) = h15 at W15 ⊢
  refine gq_st (f := fun _ kk => gf_aload_n 0 dX12_init_718 rfl rfl kk) ?_
  refine gq_st (f := fun _ kk => gf_sipush (700) dX12_init_719 rfl kk) ?_
  refine gq_st (f := fun _ kk => gf_newa (atype := .int) 14 700 (by decide) rfl na_int rfl (by decide) dX12_init_722 kk) ?_
  rw [W15.1.1]
  have W16 : wS 278 156615 138 (wF wLb f9 99) (hp_new h15 14 700 700) := w_new W15 (t := 14) (len := 700) rfl rfl rfl
  generalize hp_new h15 14 700 700 = h16 at W16 ⊢
  refine gq_st (f := fun _ kk => gf_putRF flX12_103 rfl rfl rfl rfl dX12_init_724 (w_tag W16 (by decide) (rfl : gr_tl[247]? = some (12, 0))) ⟨rfl, rfl⟩ kk) ?_
  have W17 : wS 278 156615 139 (wF wLb f9 99) (hp_setR h16 247 38 (some 277)) := w_ref W16 (by decide) rfl rfl
  generalize hp_setR h16 247 38 (some 277) = h17 at W17 ⊢
  refine gq_st (f := fun _ kk => gf_aload_n 0 dX12_init_727 rfl rfl kk) ?_
  refine gq_st (f := fun _ kk => gf_iconst (1) dX12_init_728 rfl kk) ?_
  refine gq_st (f := fun _ kk => gf_putI flX12_106 rfl rfl dX12_init_729 (w_tag W17 (by decide) (rfl : gr_tl[247]? = some (12, 0))) ⟨rfl, rfl⟩ kk) ?_
  have W18 : wS 278 156615 139 (wF wLb f9 100) (hp_setI h17 247 42 (1)) := w_int W17 (by decide) rfl rfl
  generalize hp_setI h17 247 42 (1) = h18 at W18 ⊢
  refine gq_st (f := fun _ kk => gf_aload_n 0 dX12_init_732 rfl rfl kk) ?_
  refine gq_st (f := fun _ kk => gf_iconst (1) dX12_init_733 rfl kk) ?_
  refine gq_st (f := fun _ kk => gf_putI flX12_109 rfl rfl dX12_init_734 (w_tag W18 (by decide) (rfl : gr_tl[247]? = some (12, 0))) ⟨rfl, rfl⟩ kk) ?_
  have W19 : wS 278 156615 139 (wF wLb f9 101) (hp_setI h18 247 43 (1)) := w_int W18 (by decide) rfl rfl
  generalize hp_setI h18 247 43 (1) = h19 at W19 ⊢
  exact n_X12_247_p737 E hd W19
theorem n_X12_247_p565 (E : gE) {d : Nat} (hd : 3 ≤ d) {h0 : hp_T} {f9 : Nat → Nat → Int32} (W0 : wS 268 12586 129 (wF wLb f9 83) h0) : gq E mX12_init d 565 [(0, .ref (E.1 + 247))] [] h0 none (wS 333 163077 194 (wF wLb f9 102)) := by
  refine gq_st (f := fun _ kk => gf_aload_n 0 dX12_init_565 rfl rfl kk) ?_
  refine gq_st (f := fun _ kk => gf_bipush (6) dX12_init_566 rfl kk) ?_
  refine gq_st (f := fun _ kk => gf_newa (atype := .char) 13 6 (by decide) rfl na_char rfl (by decide) dX12_init_568 kk) ?_
  rw [W0.1.1]
  have W1 : wS 269 12592 129 (wF wLb f9 83) (hp_new h0 13 6 6) := w_new W0 (t := 13) (len := 6) rfl rfl rfl
  generalize hp_new h0 13 6 6 = h1 at W1 ⊢
  refine gq_st (f := fun _ kk => gf_dup dX12_init_570 rfl kk) ?_
  refine gq_st (f := fun _ kk => gf_iconst (0) dX12_init_571 rfl kk) ?_
  refine gq_st (f := fun _ kk => gf_bipush (111) dX12_init_572 rfl kk) ?_
  refine gq_st (f := fun _ kk => gf_cast 6 (j := 0) dX12_init_574 (w_tag W1 (by decide) (rfl : gr_tl[268]? = some (13, 6))) (w_len W1 (by decide) (rfl : gr_tl[268]? = some (13, 6))) rfl (by decide) (by decide) rfl kk) ?_
  have W2 : wS 269 12592 129 (wF wLb f9 84) (hp_setI h1 268 0 (111)) := w_int W1 (by decide) rfl rfl
  generalize hp_setI h1 268 0 (111) = h2 at W2 ⊢
  refine gq_st (f := fun _ kk => gf_dup dX12_init_575 rfl kk) ?_
  refine gq_st (f := fun _ kk => gf_iconst (1) dX12_init_576 rfl kk) ?_
  refine gq_st (f := fun _ kk => gf_bipush (116) dX12_init_577 rfl kk) ?_
  refine gq_st (f := fun _ kk => gf_cast 6 (j := 1) dX12_init_579 (w_tag W2 (by decide) (rfl : gr_tl[268]? = some (13, 6))) (w_len W2 (by decide) (rfl : gr_tl[268]? = some (13, 6))) rfl (by decide) (by decide) rfl kk) ?_
  have W3 : wS 269 12592 129 (wF wLb f9 85) (hp_setI h2 268 1 (116)) := w_int W2 (by decide) rfl rfl
  generalize hp_setI h2 268 1 (116) = h3 at W3 ⊢
  refine gq_st (f := fun _ kk => gf_dup dX12_init_580 rfl kk) ?_
  refine gq_st (f := fun _ kk => gf_iconst (2) dX12_init_581 rfl kk) ?_
  refine gq_st (f := fun _ kk => gf_bipush (104) dX12_init_582 rfl kk) ?_
  refine gq_st (f := fun _ kk => gf_cast 6 (j := 2) dX12_init_584 (w_tag W3 (by decide) (rfl : gr_tl[268]? = some (13, 6))) (w_len W3 (by decide) (rfl : gr_tl[268]? = some (13, 6))) rfl (by decide) (by decide) rfl kk) ?_
  have W4 : wS 269 12592 129 (wF wLb f9 86) (hp_setI h3 268 2 (104)) := w_int W3 (by decide) rfl rfl
  generalize hp_setI h3 268 2 (104) = h4 at W4 ⊢
  refine gq_st (f := fun _ kk => gf_dup dX12_init_585 rfl kk) ?_
  refine gq_st (f := fun _ kk => gf_iconst (3) dX12_init_586 rfl kk) ?_
  refine gq_st (f := fun _ kk => gf_bipush (101) dX12_init_587 rfl kk) ?_
  refine gq_st (f := fun _ kk => gf_cast 6 (j := 3) dX12_init_589 (w_tag W4 (by decide) (rfl : gr_tl[268]? = some (13, 6))) (w_len W4 (by decide) (rfl : gr_tl[268]? = some (13, 6))) rfl (by decide) (by decide) rfl kk) ?_
  have W5 : wS 269 12592 129 (wF wLb f9 87) (hp_setI h4 268 3 (101)) := w_int W4 (by decide) rfl rfl
  generalize hp_setI h4 268 3 (101) = h5 at W5 ⊢
  refine gq_st (f := fun _ kk => gf_dup dX12_init_590 rfl kk) ?_
  refine gq_st (f := fun _ kk => gf_iconst (4) dX12_init_591 rfl kk) ?_
  refine gq_st (f := fun _ kk => gf_bipush (114) dX12_init_592 rfl kk) ?_
  refine gq_st (f := fun _ kk => gf_cast 6 (j := 4) dX12_init_594 (w_tag W5 (by decide) (rfl : gr_tl[268]? = some (13, 6))) (w_len W5 (by decide) (rfl : gr_tl[268]? = some (13, 6))) rfl (by decide) (by decide) rfl kk) ?_
  have W6 : wS 269 12592 129 (wF wLb f9 88) (hp_setI h5 268 4 (114)) := w_int W5 (by decide) rfl rfl
  generalize hp_setI h5 268 4 (114) = h6 at W6 ⊢
  refine gq_st (f := fun _ kk => gf_dup dX12_init_595 rfl kk) ?_
  refine gq_st (f := fun _ kk => gf_iconst (5) dX12_init_596 rfl kk) ?_
  refine gq_st (f := fun _ kk => gf_bipush (115) dX12_init_597 rfl kk) ?_
  refine gq_st (f := fun _ kk => gf_cast 6 (j := 5) dX12_init_599 (w_tag W6 (by decide) (rfl : gr_tl[268]? = some (13, 6))) (w_len W6 (by decide) (rfl : gr_tl[268]? = some (13, 6))) rfl (by decide) (by decide) rfl kk) ?_
  have W7 : wS 269 12592 129 (wF wLb f9 89) (hp_setI h6 268 5 (115)) := w_int W6 (by decide) rfl rfl
  generalize hp_setI h6 268 5 (115) = h7 at W7 ⊢
  refine gq_st (f := fun _ kk => gf_putRF flX12_75 rfl rfl rfl rfl dX12_init_600 (w_tag W7 (by decide) (rfl : gr_tl[247]? = some (12, 0))) ⟨rfl, rfl⟩ kk) ?_
  have W8 : wS 269 12592 130 (wF wLb f9 89) (hp_setR h7 247 28 (some 268)) := w_ref W7 (by decide) rfl rfl
  generalize hp_setR h7 247 28 (some 268) = h8 at W8 ⊢
  refine gq_st (f := fun _ kk => gf_aload_n 0 dX12_init_603 rfl rfl kk) ?_
  refine gq_st (f := fun _ kk => gf_iconst (4) dX12_init_604 rfl kk) ?_
  refine gq_st (f := fun _ kk => gf_newa (atype := .char) 13 4 (by decide) rfl na_char rfl (by decide) dX12_init_605 kk) ?_
  rw [W8.1.1]
  have W9 : wS 270 12596 130 (wF wLb f9 89) (hp_new h8 13 4 4) := w_new W8 (t := 13) (len := 4) rfl rfl rfl
  generalize hp_new h8 13 4 4 = h9 at W9 ⊢
  refine gq_st (f := fun _ kk => gf_dup dX12_init_607 rfl kk) ?_
  refine gq_st (f := fun _ kk => gf_iconst (0) dX12_init_608 rfl kk) ?_
  refine gq_st (f := fun _ kk => gf_bipush (110) dX12_init_609 rfl kk) ?_
  refine gq_st (f := fun _ kk => gf_cast 4 (j := 0) dX12_init_611 (w_tag W9 (by decide) (rfl : gr_tl[269]? = some (13, 4))) (w_len W9 (by decide) (rfl : gr_tl[269]? = some (13, 4))) rfl (by decide) (by decide) rfl kk) ?_
  have W10 : wS 270 12596 130 (wF wLb f9 90) (hp_setI h9 269 0 (110)) := w_int W9 (by decide) rfl rfl
  generalize hp_setI h9 269 0 (110) = h10 at W10 ⊢
  refine gq_st (f := fun _ kk => gf_dup dX12_init_612 rfl kk) ?_
  refine gq_st (f := fun _ kk => gf_iconst (1) dX12_init_613 rfl kk) ?_
  refine gq_st (f := fun _ kk => gf_bipush (101) dX12_init_614 rfl kk) ?_
  refine gq_st (f := fun _ kk => gf_cast 4 (j := 1) dX12_init_616 (w_tag W10 (by decide) (rfl : gr_tl[269]? = some (13, 4))) (w_len W10 (by decide) (rfl : gr_tl[269]? = some (13, 4))) rfl (by decide) (by decide) rfl kk) ?_
  have W11 : wS 270 12596 130 (wF wLb f9 91) (hp_setI h10 269 1 (101)) := w_int W10 (by decide) rfl rfl
  generalize hp_setI h10 269 1 (101) = h11 at W11 ⊢
  refine gq_st (f := fun _ kk => gf_dup dX12_init_617 rfl kk) ?_
  refine gq_st (f := fun _ kk => gf_iconst (2) dX12_init_618 rfl kk) ?_
  refine gq_st (f := fun _ kk => gf_bipush (97) dX12_init_619 rfl kk) ?_
  refine gq_st (f := fun _ kk => gf_cast 4 (j := 2) dX12_init_621 (w_tag W11 (by decide) (rfl : gr_tl[269]? = some (13, 4))) (w_len W11 (by decide) (rfl : gr_tl[269]? = some (13, 4))) rfl (by decide) (by decide) rfl kk) ?_
  have W12 : wS 270 12596 130 (wF wLb f9 92) (hp_setI h11 269 2 (97)) := w_int W11 (by decide) rfl rfl
  generalize hp_setI h11 269 2 (97) = h12 at W12 ⊢
  refine gq_st (f := fun _ kk => gf_dup dX12_init_622 rfl kk) ?_
  refine gq_st (f := fun _ kk => gf_iconst (3) dX12_init_623 rfl kk) ?_
  refine gq_st (f := fun _ kk => gf_bipush (114) dX12_init_624 rfl kk) ?_
  refine gq_st (f := fun _ kk => gf_cast 4 (j := 3) dX12_init_626 (w_tag W12 (by decide) (rfl : gr_tl[269]? = some (13, 4))) (w_len W12 (by decide) (rfl : gr_tl[269]? = some (13, 4))) rfl (by decide) (by decide) rfl kk) ?_
  have W13 : wS 270 12596 130 (wF wLb f9 93) (hp_setI h12 269 3 (114)) := w_int W12 (by decide) rfl rfl
  generalize hp_setI h12 269 3 (114) = h13 at W13 ⊢
  refine gq_st (f := fun _ kk => gf_putRF flX12_78 rfl rfl rfl rfl dX12_init_627 (w_tag W13 (by decide) (rfl : gr_tl[247]? = some (12, 0))) ⟨rfl, rfl⟩ kk) ?_
  have W14 : wS 270 12596 131 (wF wLb f9 93) (hp_setR h13 247 29 (some 269)) := w_ref W13 (by decide) rfl rfl
  generalize hp_setR h13 247 29 (some 269) = h14 at W14 ⊢
  refine gq_st (f := fun _ kk => gf_aload_n 0 dX12_init_630 rfl rfl kk) ?_
  refine gq_st (f := fun _ kk => gf_iconst (3) dX12_init_631 rfl kk) ?_
  refine gq_st (f := fun _ kk => gf_newa (atype := .char) 13 3 (by decide) rfl na_char rfl (by decide) dX12_init_632 kk) ?_
  rw [W14.1.1]
  have W15 : wS 271 12599 131 (wF wLb f9 93) (hp_new h14 13 3 3) := w_new W14 (t := 13) (len := 3) rfl rfl rfl
  generalize hp_new h14 13 3 3 = h15 at W15 ⊢
  refine gq_st (f := fun _ kk => gf_dup dX12_init_634 rfl kk) ?_
  refine gq_st (f := fun _ kk => gf_iconst (0) dX12_init_635 rfl kk) ?_
  refine gq_st (f := fun _ kk => gf_bipush (109) dX12_init_636 rfl kk) ?_
  refine gq_st (f := fun _ kk => gf_cast 3 (j := 0) dX12_init_638 (w_tag W15 (by decide) (rfl : gr_tl[270]? = some (13, 3))) (w_len W15 (by decide) (rfl : gr_tl[270]? = some (13, 3))) rfl (by decide) (by decide) rfl kk) ?_
  have W16 : wS 271 12599 131 (wF wLb f9 94) (hp_setI h15 270 0 (109)) := w_int W15 (by decide) rfl rfl
  generalize hp_setI h15 270 0 (109) = h16 at W16 ⊢
  refine gq_st (f := fun _ kk => gf_dup dX12_init_639 rfl kk) ?_
  refine gq_st (f := fun _ kk => gf_iconst (1) dX12_init_640 rfl kk) ?_
  refine gq_st (f := fun _ kk => gf_bipush (105) dX12_init_641 rfl kk) ?_
  refine gq_st (f := fun _ kk => gf_cast 3 (j := 1) dX12_init_643 (w_tag W16 (by decide) (rfl : gr_tl[270]? = some (13, 3))) (w_len W16 (by decide) (rfl : gr_tl[270]? = some (13, 3))) rfl (by decide) (by decide) rfl kk) ?_
  have W17 : wS 271 12599 131 (wF wLb f9 95) (hp_setI h16 270 1 (105)) := w_int W16 (by decide) rfl rfl
  generalize hp_setI h16 270 1 (105) = h17 at W17 ⊢
  refine gq_st (f := fun _ kk => gf_dup dX12_init_644 rfl kk) ?_
  refine gq_st (f := fun _ kk => gf_iconst (2) dX12_init_645 rfl kk) ?_
  refine gq_st (f := fun _ kk => gf_bipush (110) dX12_init_646 rfl kk) ?_
  refine gq_st (f := fun _ kk => gf_cast 3 (j := 2) dX12_init_648 (w_tag W17 (by decide) (rfl : gr_tl[270]? = some (13, 3))) (w_len W17 (by decide) (rfl : gr_tl[270]? = some (13, 3))) rfl (by decide) (by decide) rfl kk) ?_
  have W18 : wS 271 12599 131 (wF wLb f9 96) (hp_setI h17 270 2 (110)) := w_int W17 (by decide) rfl rfl
  generalize hp_setI h17 270 2 (110) = h18 at W18 ⊢
  refine gq_st (f := fun _ kk => gf_putRF flX12_81 rfl rfl rfl rfl dX12_init_649 (w_tag W18 (by decide) (rfl : gr_tl[247]? = some (12, 0))) ⟨rfl, rfl⟩ kk) ?_
  have W19 : wS 271 12599 132 (wF wLb f9 96) (hp_setR h18 247 30 (some 270)) := w_ref W18 (by decide) rfl rfl
  generalize hp_setR h18 247 30 (some 270) = h19 at W19 ⊢
  exact n_X12_247_p652 E hd W19
theorem n_X12_247_p484 (E : gE) {d : Nat} (hd : 3 ≤ d) {h0 : hp_T} {f9 : Nat → Nat → Int32} (W0 : wS 265 12574 126 (wF wLb f9 71) h0) : gq E mX12_init d 484 [(0, .ref (E.1 + 247))] [] h0 none (wS 333 163077 194 (wF wLb f9 102)) := by
  refine gq_st (f := fun _ kk => gf_aload_n 0 dX12_init_484 rfl rfl kk) ?_
  refine gq_st (f := fun _ kk => gf_iconst (5) dX12_init_485 rfl kk) ?_
  refine gq_st (f := fun _ kk => gf_newa (atype := .char) 13 5 (by decide) rfl na_char rfl (by decide) dX12_init_486 kk) ?_
  rw [W0.1.1]
  have W1 : wS 266 12579 126 (wF wLb f9 71) (hp_new h0 13 5 5) := w_new W0 (t := 13) (len := 5) rfl rfl rfl
  generalize hp_new h0 13 5 5 = h1 at W1 ⊢
  refine gq_st (f := fun _ kk => gf_dup dX12_init_488 rfl kk) ?_
  refine gq_st (f := fun _ kk => gf_iconst (0) dX12_init_489 rfl kk) ?_
  refine gq_st (f := fun _ kk => gf_bipush (119) dX12_init_490 rfl kk) ?_
  refine gq_st (f := fun _ kk => gf_cast 5 (j := 0) dX12_init_492 (w_tag W1 (by decide) (rfl : gr_tl[265]? = some (13, 5))) (w_len W1 (by decide) (rfl : gr_tl[265]? = some (13, 5))) rfl (by decide) (by decide) rfl kk) ?_
  have W2 : wS 266 12579 126 (wF wLb f9 72) (hp_setI h1 265 0 (119)) := w_int W1 (by decide) rfl rfl
  generalize hp_setI h1 265 0 (119) = h2 at W2 ⊢
  refine gq_st (f := fun _ kk => gf_dup dX12_init_493 rfl kk) ?_
  refine gq_st (f := fun _ kk => gf_iconst (1) dX12_init_494 rfl kk) ?_
  refine gq_st (f := fun _ kk => gf_bipush (111) dX12_init_495 rfl kk) ?_
  refine gq_st (f := fun _ kk => gf_cast 5 (j := 1) dX12_init_497 (w_tag W2 (by decide) (rfl : gr_tl[265]? = some (13, 5))) (w_len W2 (by decide) (rfl : gr_tl[265]? = some (13, 5))) rfl (by decide) (by decide) rfl kk) ?_
  have W3 : wS 266 12579 126 (wF wLb f9 73) (hp_setI h2 265 1 (111)) := w_int W2 (by decide) rfl rfl
  generalize hp_setI h2 265 1 (111) = h3 at W3 ⊢
  refine gq_st (f := fun _ kk => gf_dup dX12_init_498 rfl kk) ?_
  refine gq_st (f := fun _ kk => gf_iconst (2) dX12_init_499 rfl kk) ?_
  refine gq_st (f := fun _ kk => gf_bipush (114) dX12_init_500 rfl kk) ?_
  refine gq_st (f := fun _ kk => gf_cast 5 (j := 2) dX12_init_502 (w_tag W3 (by decide) (rfl : gr_tl[265]? = some (13, 5))) (w_len W3 (by decide) (rfl : gr_tl[265]? = some (13, 5))) rfl (by decide) (by decide) rfl kk) ?_
  have W4 : wS 266 12579 126 (wF wLb f9 74) (hp_setI h3 265 2 (114)) := w_int W3 (by decide) rfl rfl
  generalize hp_setI h3 265 2 (114) = h4 at W4 ⊢
  refine gq_st (f := fun _ kk => gf_dup dX12_init_503 rfl kk) ?_
  refine gq_st (f := fun _ kk => gf_iconst (3) dX12_init_504 rfl kk) ?_
  refine gq_st (f := fun _ kk => gf_bipush (116) dX12_init_505 rfl kk) ?_
  refine gq_st (f := fun _ kk => gf_cast 5 (j := 3) dX12_init_507 (w_tag W4 (by decide) (rfl : gr_tl[265]? = some (13, 5))) (w_len W4 (by decide) (rfl : gr_tl[265]? = some (13, 5))) rfl (by decide) (by decide) rfl kk) ?_
  have W5 : wS 266 12579 126 (wF wLb f9 75) (hp_setI h4 265 3 (116)) := w_int W4 (by decide) rfl rfl
  generalize hp_setI h4 265 3 (116) = h5 at W5 ⊢
  refine gq_st (f := fun _ kk => gf_dup dX12_init_508 rfl kk) ?_
  refine gq_st (f := fun _ kk => gf_iconst (4) dX12_init_509 rfl kk) ?_
  refine gq_st (f := fun _ kk => gf_bipush (104) dX12_init_510 rfl kk) ?_
  refine gq_st (f := fun _ kk => gf_cast 5 (j := 4) dX12_init_512 (w_tag W5 (by decide) (rfl : gr_tl[265]? = some (13, 5))) (w_len W5 (by decide) (rfl : gr_tl[265]? = some (13, 5))) rfl (by decide) (by decide) rfl kk) ?_
  have W6 : wS 266 12579 126 (wF wLb f9 76) (hp_setI h5 265 4 (104)) := w_int W5 (by decide) rfl rfl
  generalize hp_setI h5 265 4 (104) = h6 at W6 ⊢
  refine gq_st (f := fun _ kk => gf_putRF flX12_66 rfl rfl rfl rfl dX12_init_513 (w_tag W6 (by decide) (rfl : gr_tl[247]? = some (12, 0))) ⟨rfl, rfl⟩ kk) ?_
  have W7 : wS 266 12579 127 (wF wLb f9 76) (hp_setR h6 247 25 (some 265)) := w_ref W6 (by decide) rfl rfl
  generalize hp_setR h6 247 25 (some 265) = h7 at W7 ⊢
  refine gq_st (f := fun _ kk => gf_aload_n 0 dX12_init_516 rfl rfl kk) ?_
  refine gq_st (f := fun _ kk => gf_iconst (3) dX12_init_517 rfl kk) ?_
  refine gq_st (f := fun _ kk => gf_newa (atype := .char) 13 3 (by decide) rfl na_char rfl (by decide) dX12_init_518 kk) ?_
  rw [W7.1.1]
  have W8 : wS 267 12582 127 (wF wLb f9 76) (hp_new h7 13 3 3) := w_new W7 (t := 13) (len := 3) rfl rfl rfl
  generalize hp_new h7 13 3 3 = h8 at W8 ⊢
  refine gq_st (f := fun _ kk => gf_dup dX12_init_520 rfl kk) ?_
  refine gq_st (f := fun _ kk => gf_iconst (0) dX12_init_521 rfl kk) ?_
  refine gq_st (f := fun _ kk => gf_bipush (115) dX12_init_522 rfl kk) ?_
  refine gq_st (f := fun _ kk => gf_cast 3 (j := 0) dX12_init_524 (w_tag W8 (by decide) (rfl : gr_tl[266]? = some (13, 3))) (w_len W8 (by decide) (rfl : gr_tl[266]? = some (13, 3))) rfl (by decide) (by decide) rfl kk) ?_
  have W9 : wS 267 12582 127 (wF wLb f9 77) (hp_setI h8 266 0 (115)) := w_int W8 (by decide) rfl rfl
  generalize hp_setI h8 266 0 (115) = h9 at W9 ⊢
  refine gq_st (f := fun _ kk => gf_dup dX12_init_525 rfl kk) ?_
  refine gq_st (f := fun _ kk => gf_iconst (1) dX12_init_526 rfl kk) ?_
  refine gq_st (f := fun _ kk => gf_bipush (117) dX12_init_527 rfl kk) ?_
  refine gq_st (f := fun _ kk => gf_cast 3 (j := 1) dX12_init_529 (w_tag W9 (by decide) (rfl : gr_tl[266]? = some (13, 3))) (w_len W9 (by decide) (rfl : gr_tl[266]? = some (13, 3))) rfl (by decide) (by decide) rfl kk) ?_
  have W10 : wS 267 12582 127 (wF wLb f9 78) (hp_setI h9 266 1 (117)) := w_int W9 (by decide) rfl rfl
  generalize hp_setI h9 266 1 (117) = h10 at W10 ⊢
  refine gq_st (f := fun _ kk => gf_dup dX12_init_530 rfl kk) ?_
  refine gq_st (f := fun _ kk => gf_iconst (2) dX12_init_531 rfl kk) ?_
  refine gq_st (f := fun _ kk => gf_bipush (109) dX12_init_532 rfl kk) ?_
  refine gq_st (f := fun _ kk => gf_cast 3 (j := 2) dX12_init_534 (w_tag W10 (by decide) (rfl : gr_tl[266]? = some (13, 3))) (w_len W10 (by decide) (rfl : gr_tl[266]? = some (13, 3))) rfl (by decide) (by decide) rfl kk) ?_
  have W11 : wS 267 12582 127 (wF wLb f9 79) (hp_setI h10 266 2 (109)) := w_int W10 (by decide) rfl rfl
  generalize hp_setI h10 266 2 (109) = h11 at W11 ⊢
  refine gq_st (f := fun _ kk => gf_putRF flX12_69 rfl rfl rfl rfl dX12_init_535 (w_tag W11 (by decide) (rfl : gr_tl[247]? = some (12, 0))) ⟨rfl, rfl⟩ kk) ?_
  have W12 : wS 267 12582 128 (wF wLb f9 79) (hp_setR h11 247 26 (some 266)) := w_ref W11 (by decide) rfl rfl
  generalize hp_setR h11 247 26 (some 266) = h12 at W12 ⊢
  refine gq_st (f := fun _ kk => gf_aload_n 0 dX12_init_538 rfl rfl kk) ?_
  refine gq_st (f := fun _ kk => gf_iconst (4) dX12_init_539 rfl kk) ?_
  refine gq_st (f := fun _ kk => gf_newa (atype := .char) 13 4 (by decide) rfl na_char rfl (by decide) dX12_init_540 kk) ?_
  rw [W12.1.1]
  have W13 : wS 268 12586 128 (wF wLb f9 79) (hp_new h12 13 4 4) := w_new W12 (t := 13) (len := 4) rfl rfl rfl
  generalize hp_new h12 13 4 4 = h13 at W13 ⊢
  refine gq_st (f := fun _ kk => gf_dup dX12_init_542 rfl kk) ?_
  refine gq_st (f := fun _ kk => gf_iconst (0) dX12_init_543 rfl kk) ?_
  refine gq_st (f := fun _ kk => gf_bipush (108) dX12_init_544 rfl kk) ?_
  refine gq_st (f := fun _ kk => gf_cast 4 (j := 0) dX12_init_546 (w_tag W13 (by decide) (rfl : gr_tl[267]? = some (13, 4))) (w_len W13 (by decide) (rfl : gr_tl[267]? = some (13, 4))) rfl (by decide) (by decide) rfl kk) ?_
  have W14 : wS 268 12586 128 (wF wLb f9 80) (hp_setI h13 267 0 (108)) := w_int W13 (by decide) rfl rfl
  generalize hp_setI h13 267 0 (108) = h14 at W14 ⊢
  refine gq_st (f := fun _ kk => gf_dup dX12_init_547 rfl kk) ?_
  refine gq_st (f := fun _ kk => gf_iconst (1) dX12_init_548 rfl kk) ?_
  refine gq_st (f := fun _ kk => gf_bipush (111) dX12_init_549 rfl kk) ?_
  refine gq_st (f := fun _ kk => gf_cast 4 (j := 1) dX12_init_551 (w_tag W14 (by decide) (rfl : gr_tl[267]? = some (13, 4))) (w_len W14 (by decide) (rfl : gr_tl[267]? = some (13, 4))) rfl (by decide) (by decide) rfl kk) ?_
  have W15 : wS 268 12586 128 (wF wLb f9 81) (hp_setI h14 267 1 (111)) := w_int W14 (by decide) rfl rfl
  generalize hp_setI h14 267 1 (111) = h15 at W15 ⊢
  refine gq_st (f := fun _ kk => gf_dup dX12_init_552 rfl kk) ?_
  refine gq_st (f := fun _ kk => gf_iconst (2) dX12_init_553 rfl kk) ?_
  refine gq_st (f := fun _ kk => gf_bipush (115) dX12_init_554 rfl kk) ?_
  refine gq_st (f := fun _ kk => gf_cast 4 (j := 2) dX12_init_556 (w_tag W15 (by decide) (rfl : gr_tl[267]? = some (13, 4))) (w_len W15 (by decide) (rfl : gr_tl[267]? = some (13, 4))) rfl (by decide) (by decide) rfl kk) ?_
  have W16 : wS 268 12586 128 (wF wLb f9 82) (hp_setI h15 267 2 (115)) := w_int W15 (by decide) rfl rfl
  generalize hp_setI h15 267 2 (115) = h16 at W16 ⊢
  refine gq_st (f := fun _ kk => gf_dup dX12_init_557 rfl kk) ?_
  refine gq_st (f := fun _ kk => gf_iconst (3) dX12_init_558 rfl kk) ?_
  refine gq_st (f := fun _ kk => gf_bipush (115) dX12_init_559 rfl kk) ?_
  refine gq_st (f := fun _ kk => gf_cast 4 (j := 3) dX12_init_561 (w_tag W16 (by decide) (rfl : gr_tl[267]? = some (13, 4))) (w_len W16 (by decide) (rfl : gr_tl[267]? = some (13, 4))) rfl (by decide) (by decide) rfl kk) ?_
  have W17 : wS 268 12586 128 (wF wLb f9 83) (hp_setI h16 267 3 (115)) := w_int W16 (by decide) rfl rfl
  generalize hp_setI h16 267 3 (115) = h17 at W17 ⊢
  refine gq_st (f := fun _ kk => gf_putRF flX12_72 rfl rfl rfl rfl dX12_init_562 (w_tag W17 (by decide) (rfl : gr_tl[247]? = some (12, 0))) ⟨rfl, rfl⟩ kk) ?_
  have W18 : wS 268 12586 129 (wF wLb f9 83) (hp_setR h17 247 27 (some 267)) := w_ref W17 (by decide) rfl rfl
  generalize hp_setR h17 247 27 (some 267) = h18 at W18 ⊢
  exact n_X12_247_p565 E hd W18
