/-! ===== constructors, 5 ===== -/
theorem n_X12_247_p387 (E : gE) {d : Nat} (hd : 3 ≤ d) {h0 : hp_T} {f9 : Nat → Nat → Int32} (W0 : wS 262 12559 123 (wF wLb f9 56) h0) : gq E mX12_init d 387 [(0, .ref (E.1 + 247))] [] h0 none (wS 333 163077 194 (wF wLb f9 102)) := by
  refine gq_st (f := fun _ kk => gf_aload_n 0 dX12_init_387 rfl rfl kk) ?_
  refine gq_st (f := fun _ kk => gf_bipush (6) dX12_init_388 rfl kk) ?_
  refine gq_st (f := fun _ kk => gf_newa (atype := .char) 13 6 (by decide) rfl na_char rfl (by decide) dX12_init_390 kk) ?_
  rw [W0.1.1]
  have W1 : wS 263 12565 123 (wF wLb f9 56) (hp_new h0 13 6 6) := w_new W0 (t := 13) (len := 6) rfl rfl rfl
  generalize hp_new h0 13 6 6 = h1 at W1 ⊢
  refine gq_st (f := fun _ kk => gf_dup dX12_init_392 rfl kk) ?_
  refine gq_st (f := fun _ kk => gf_iconst (0) dX12_init_393 rfl kk) ?_
  refine gq_st (f := fun _ kk => gf_bipush (111) dX12_init_394 rfl kk) ?_
  refine gq_st (f := fun _ kk => gf_cast 6 (j := 0) dX12_init_396 (w_tag W1 (by decide) (rfl : gr_tl[262]? = some (13, 6))) (w_len W1 (by decide) (rfl : gr_tl[262]? = some (13, 6))) rfl (by decide) (by decide) rfl kk) ?_
  have W2 : wS 263 12565 123 (wF wLb f9 57) (hp_setI h1 262 0 (111)) := w_int W1 (by decide) rfl rfl
  generalize hp_setI h1 262 0 (111) = h2 at W2 ⊢
  refine gq_st (f := fun _ kk => gf_dup dX12_init_397 rfl kk) ?_
  refine gq_st (f := fun _ kk => gf_iconst (1) dX12_init_398 rfl kk) ?_
  refine gq_st (f := fun _ kk => gf_bipush (102) dX12_init_399 rfl kk) ?_
  refine gq_st (f := fun _ kk => gf_cast 6 (j := 1) dX12_init_401 (w_tag W2 (by decide) (rfl : gr_tl[262]? = some (13, 6))) (w_len W2 (by decide) (rfl : gr_tl[262]? = some (13, 6))) rfl (by decide) (by decide) rfl kk) ?_
  have W3 : wS 263 12565 123 (wF wLb f9 58) (hp_setI h2 262 1 (102)) := w_int W2 (by decide) rfl rfl
  generalize hp_setI h2 262 1 (102) = h3 at W3 ⊢
  refine gq_st (f := fun _ kk => gf_dup dX12_init_402 rfl kk) ?_
  refine gq_st (f := fun _ kk => gf_iconst (2) dX12_init_403 rfl kk) ?_
  refine gq_st (f := fun _ kk => gf_bipush (102) dX12_init_404 rfl kk) ?_
  refine gq_st (f := fun _ kk => gf_cast 6 (j := 2) dX12_init_406 (w_tag W3 (by decide) (rfl : gr_tl[262]? = some (13, 6))) (w_len W3 (by decide) (rfl : gr_tl[262]? = some (13, 6))) rfl (by decide) (by decide) rfl kk) ?_
  have W4 : wS 263 12565 123 (wF wLb f9 59) (hp_setI h3 262 2 (102)) := w_int W3 (by decide) rfl rfl
  generalize hp_setI h3 262 2 (102) = h4 at W4 ⊢
  refine gq_st (f := fun _ kk => gf_dup dX12_init_407 rfl kk) ?_
  refine gq_st (f := fun _ kk => gf_iconst (3) dX12_init_408 rfl kk) ?_
  refine gq_st (f := fun _ kk => gf_bipush (105) dX12_init_409 rfl kk) ?_
  refine gq_st (f := fun _ kk => gf_cast 6 (j := 3) dX12_init_411 (w_tag W4 (by decide) (rfl : gr_tl[262]? = some (13, 6))) (w_len W4 (by decide) (rfl : gr_tl[262]? = some (13, 6))) rfl (by decide) (by decide) rfl kk) ?_
  have W5 : wS 263 12565 123 (wF wLb f9 60) (hp_setI h4 262 3 (105)) := w_int W4 (by decide) rfl rfl
  generalize hp_setI h4 262 3 (105) = h5 at W5 ⊢
  refine gq_st (f := fun _ kk => gf_dup dX12_init_412 rfl kk) ?_
  refine gq_st (f := fun _ kk => gf_iconst (4) dX12_init_413 rfl kk) ?_
  refine gq_st (f := fun _ kk => gf_bipush (99) dX12_init_414 rfl kk) ?_
  refine gq_st (f := fun _ kk => gf_cast 6 (j := 4) dX12_init_416 (w_tag W5 (by decide) (rfl : gr_tl[262]? = some (13, 6))) (w_len W5 (by decide) (rfl : gr_tl[262]? = some (13, 6))) rfl (by decide) (by decide) rfl kk) ?_
  have W6 : wS 263 12565 123 (wF wLb f9 61) (hp_setI h5 262 4 (99)) := w_int W5 (by decide) rfl rfl
  generalize hp_setI h5 262 4 (99) = h6 at W6 ⊢
  refine gq_st (f := fun _ kk => gf_dup dX12_init_417 rfl kk) ?_
  refine gq_st (f := fun _ kk => gf_iconst (5) dX12_init_418 rfl kk) ?_
  refine gq_st (f := fun _ kk => gf_bipush (101) dX12_init_419 rfl kk) ?_
  refine gq_st (f := fun _ kk => gf_cast 6 (j := 5) dX12_init_421 (w_tag W6 (by decide) (rfl : gr_tl[262]? = some (13, 6))) (w_len W6 (by decide) (rfl : gr_tl[262]? = some (13, 6))) rfl (by decide) (by decide) rfl kk) ?_
  have W7 : wS 263 12565 123 (wF wLb f9 62) (hp_setI h6 262 5 (101)) := w_int W6 (by decide) rfl rfl
  generalize hp_setI h6 262 5 (101) = h7 at W7 ⊢
  refine gq_st (f := fun _ kk => gf_putRF flX12_57 rfl rfl rfl rfl dX12_init_422 (w_tag W7 (by decide) (rfl : gr_tl[247]? = some (12, 0))) ⟨rfl, rfl⟩ kk) ?_
  have W8 : wS 263 12565 124 (wF wLb f9 62) (hp_setR h7 247 22 (some 262)) := w_ref W7 (by decide) rfl rfl
  generalize hp_setR h7 247 22 (some 262) = h8 at W8 ⊢
  refine gq_st (f := fun _ kk => gf_aload_n 0 dX12_init_425 rfl rfl kk) ?_
  refine gq_st (f := fun _ kk => gf_iconst (4) dX12_init_426 rfl kk) ?_
  refine gq_st (f := fun _ kk => gf_newa (atype := .char) 13 4 (by decide) rfl na_char rfl (by decide) dX12_init_427 kk) ?_
  rw [W8.1.1]
  have W9 : wS 264 12569 124 (wF wLb f9 62) (hp_new h8 13 4 4) := w_new W8 (t := 13) (len := 4) rfl rfl rfl
  generalize hp_new h8 13 4 4 = h9 at W9 ⊢
  refine gq_st (f := fun _ kk => gf_dup dX12_init_429 rfl kk) ?_
  refine gq_st (f := fun _ kk => gf_iconst (0) dX12_init_430 rfl kk) ?_
  refine gq_st (f := fun _ kk => gf_bipush (119) dX12_init_431 rfl kk) ?_
  refine gq_st (f := fun _ kk => gf_cast 4 (j := 0) dX12_init_433 (w_tag W9 (by decide) (rfl : gr_tl[263]? = some (13, 4))) (w_len W9 (by decide) (rfl : gr_tl[263]? = some (13, 4))) rfl (by decide) (by decide) rfl kk) ?_
  have W10 : wS 264 12569 124 (wF wLb f9 63) (hp_setI h9 263 0 (119)) := w_int W9 (by decide) rfl rfl
  generalize hp_setI h9 263 0 (119) = h10 at W10 ⊢
  refine gq_st (f := fun _ kk => gf_dup dX12_init_434 rfl kk) ?_
  refine gq_st (f := fun _ kk => gf_iconst (1) dX12_init_435 rfl kk) ?_
  refine gq_st (f := fun _ kk => gf_bipush (97) dX12_init_436 rfl kk) ?_
  refine gq_st (f := fun _ kk => gf_cast 4 (j := 1) dX12_init_438 (w_tag W10 (by decide) (rfl : gr_tl[263]? = some (13, 4))) (w_len W10 (by decide) (rfl : gr_tl[263]? = some (13, 4))) rfl (by decide) (by decide) rfl kk) ?_
  have W11 : wS 264 12569 124 (wF wLb f9 64) (hp_setI h10 263 1 (97)) := w_int W10 (by decide) rfl rfl
  generalize hp_setI h10 263 1 (97) = h11 at W11 ⊢
  refine gq_st (f := fun _ kk => gf_dup dX12_init_439 rfl kk) ?_
  refine gq_st (f := fun _ kk => gf_iconst (2) dX12_init_440 rfl kk) ?_
  refine gq_st (f := fun _ kk => gf_bipush (108) dX12_init_441 rfl kk) ?_
  refine gq_st (f := fun _ kk => gf_cast 4 (j := 2) dX12_init_443 (w_tag W11 (by decide) (rfl : gr_tl[263]? = some (13, 4))) (w_len W11 (by decide) (rfl : gr_tl[263]? = some (13, 4))) rfl (by decide) (by decide) rfl kk) ?_
  have W12 : wS 264 12569 124 (wF wLb f9 65) (hp_setI h11 263 2 (108)) := w_int W11 (by decide) rfl rfl
  generalize hp_setI h11 263 2 (108) = h12 at W12 ⊢
  refine gq_st (f := fun _ kk => gf_dup dX12_init_444 rfl kk) ?_
  refine gq_st (f := fun _ kk => gf_iconst (3) dX12_init_445 rfl kk) ?_
  refine gq_st (f := fun _ kk => gf_bipush (108) dX12_init_446 rfl kk) ?_
  refine gq_st (f := fun _ kk => gf_cast 4 (j := 3) dX12_init_448 (w_tag W12 (by decide) (rfl : gr_tl[263]? = some (13, 4))) (w_len W12 (by decide) (rfl : gr_tl[263]? = some (13, 4))) rfl (by decide) (by decide) rfl kk) ?_
  have W13 : wS 264 12569 124 (wF wLb f9 66) (hp_setI h12 263 3 (108)) := w_int W12 (by decide) rfl rfl
  generalize hp_setI h12 263 3 (108) = h13 at W13 ⊢
  refine gq_st (f := fun _ kk => gf_putRF flX12_60 rfl rfl rfl rfl dX12_init_449 (w_tag W13 (by decide) (rfl : gr_tl[247]? = some (12, 0))) ⟨rfl, rfl⟩ kk) ?_
  have W14 : wS 264 12569 125 (wF wLb f9 66) (hp_setR h13 247 23 (some 263)) := w_ref W13 (by decide) rfl rfl
  generalize hp_setR h13 247 23 (some 263) = h14 at W14 ⊢
  refine gq_st (f := fun _ kk => gf_aload_n 0 dX12_init_452 rfl rfl kk) ?_
  refine gq_st (f := fun _ kk => gf_iconst (5) dX12_init_453 rfl kk) ?_
  refine gq_st (f := fun _ kk => gf_newa (atype := .char) 13 5 (by decide) rfl na_char rfl (by decide) dX12_init_454 kk) ?_
  rw [W14.1.1]
  have W15 : wS 265 12574 125 (wF wLb f9 66) (hp_new h14 13 5 5) := w_new W14 (t := 13) (len := 5) rfl rfl rfl
  generalize hp_new h14 13 5 5 = h15 at W15 ⊢
  refine gq_st (f := fun _ kk => gf_dup dX12_init_456 rfl kk) ?_
  refine gq_st (f := fun _ kk => gf_iconst (0) dX12_init_457 rfl kk) ?_
  refine gq_st (f := fun _ kk => gf_bipush (116) dX12_init_458 rfl kk) ?_
  refine gq_st (f := fun _ kk => gf_cast 5 (j := 0) dX12_init_460 (w_tag W15 (by decide) (rfl : gr_tl[264]? = some (13, 5))) (w_len W15 (by decide) (rfl : gr_tl[264]? = some (13, 5))) rfl (by decide) (by decide) rfl kk) ?_
  have W16 : wS 265 12574 125 (wF wLb f9 67) (hp_setI h15 264 0 (116)) := w_int W15 (by decide) rfl rfl
  generalize hp_setI h15 264 0 (116) = h16 at W16 ⊢
  refine gq_st (f := fun _ kk => gf_dup dX12_init_461 rfl kk) ?_
  refine gq_st (f := fun _ kk => gf_iconst (1) dX12_init_462 rfl kk) ?_
  refine gq_st (f := fun _ kk => gf_bipush (114) dX12_init_463 rfl kk) ?_
  refine gq_st (f := fun _ kk => gf_cast 5 (j := 1) dX12_init_465 (w_tag W16 (by decide) (rfl : gr_tl[264]? = some (13, 5))) (w_len W16 (by decide) (rfl : gr_tl[264]? = some (13, 5))) rfl (by decide) (by decide) rfl kk) ?_
  have W17 : wS 265 12574 125 (wF wLb f9 68) (hp_setI h16 264 1 (114)) := w_int W16 (by decide) rfl rfl
  generalize hp_setI h16 264 1 (114) = h17 at W17 ⊢
  refine gq_st (f := fun _ kk => gf_dup dX12_init_466 rfl kk) ?_
  refine gq_st (f := fun _ kk => gf_iconst (2) dX12_init_467 rfl kk) ?_
  refine gq_st (f := fun _ kk => gf_bipush (97) dX12_init_468 rfl kk) ?_
  refine gq_st (f := fun _ kk => gf_cast 5 (j := 2) dX12_init_470 (w_tag W17 (by decide) (rfl : gr_tl[264]? = some (13, 5))) (w_len W17 (by decide) (rfl : gr_tl[264]? = some (13, 5))) rfl (by decide) (by decide) rfl kk) ?_
  have W18 : wS 265 12574 125 (wF wLb f9 69) (hp_setI h17 264 2 (97)) := w_int W17 (by decide) rfl rfl
  generalize hp_setI h17 264 2 (97) = h18 at W18 ⊢
  refine gq_st (f := fun _ kk => gf_dup dX12_init_471 rfl kk) ?_
  refine gq_st (f := fun _ kk => gf_iconst (3) dX12_init_472 rfl kk) ?_
  refine gq_st (f := fun _ kk => gf_bipush (100) dX12_init_473 rfl kk) ?_
  refine gq_st (f := fun _ kk => gf_cast 5 (j := 3) dX12_init_475 (w_tag W18 (by decide) (rfl : gr_tl[264]? = some (13, 5))) (w_len W18 (by decide) (rfl : gr_tl[264]? = some (13, 5))) rfl (by decide) (by decide) rfl kk) ?_
  have W19 : wS 265 12574 125 (wF wLb f9 70) (hp_setI h18 264 3 (100)) := w_int W18 (by decide) rfl rfl
  generalize hp_setI h18 264 3 (100) = h19 at W19 ⊢
  refine gq_st (f := fun _ kk => gf_dup dX12_init_476 rfl kk) ?_
  refine gq_st (f := fun _ kk => gf_iconst (4) dX12_init_477 rfl kk) ?_
  refine gq_st (f := fun _ kk => gf_bipush (101) dX12_init_478 rfl kk) ?_
  refine gq_st (f := fun _ kk => gf_cast 5 (j := 4) dX12_init_480 (w_tag W19 (by decide) (rfl : gr_tl[264]? = some (13, 5))) (w_len W19 (by decide) (rfl : gr_tl[264]? = some (13, 5))) rfl (by decide) (by decide) rfl kk) ?_
  have W20 : wS 265 12574 125 (wF wLb f9 71) (hp_setI h19 264 4 (101)) := w_int W19 (by decide) rfl rfl
  generalize hp_setI h19 264 4 (101) = h20 at W20 ⊢
  refine gq_st (f := fun _ kk => gf_putRF flX12_63 rfl rfl rfl rfl dX12_init_481 (w_tag W20 (by decide) (rfl : gr_tl[247]? = some (12, 0))) ⟨rfl, rfl⟩ kk) ?_
  have W21 : wS 265 12574 126 (wF wLb f9 71) (hp_setR h20 247 24 (some 264)) := w_ref W20 (by decide) rfl rfl
  generalize hp_setR h20 247 24 (some 264) = h21 at W21 ⊢
  exact n_X12_247_p484 E hd W21
theorem n_X12_247_p304 (E : gE) {d : Nat} (hd : 3 ≤ d) {h0 : hp_T} {f9 : Nat → Nat → Int32} (W0 : wS 258 12548 119 (wF wLb f9 45) h0) : gq E mX12_init d 304 [(0, .ref (E.1 + 247))] [] h0 none (wS 333 163077 194 (wF wLb f9 102)) := by
  refine gq_st (f := fun _ kk => gf_aload_n 0 dX12_init_304 rfl rfl kk) ?_
  refine gq_st (f := fun _ kk => gf_iconst (2) dX12_init_305 rfl kk) ?_
  refine gq_st (f := fun _ kk => gf_newa (atype := .char) 13 2 (by decide) rfl na_char rfl (by decide) dX12_init_306 kk) ?_
  rw [W0.1.1]
  have W1 : wS 259 12550 119 (wF wLb f9 45) (hp_new h0 13 2 2) := w_new W0 (t := 13) (len := 2) rfl rfl rfl
  generalize hp_new h0 13 2 2 = h1 at W1 ⊢
  refine gq_st (f := fun _ kk => gf_dup dX12_init_308 rfl kk) ?_
  refine gq_st (f := fun _ kk => gf_iconst (0) dX12_init_309 rfl kk) ?_
  refine gq_st (f := fun _ kk => gf_bipush (111) dX12_init_310 rfl kk) ?_
  refine gq_st (f := fun _ kk => gf_cast 2 (j := 0) dX12_init_312 (w_tag W1 (by decide) (rfl : gr_tl[258]? = some (13, 2))) (w_len W1 (by decide) (rfl : gr_tl[258]? = some (13, 2))) rfl (by decide) (by decide) rfl kk) ?_
  have W2 : wS 259 12550 119 (wF wLb f9 46) (hp_setI h1 258 0 (111)) := w_int W1 (by decide) rfl rfl
  generalize hp_setI h1 258 0 (111) = h2 at W2 ⊢
  refine gq_st (f := fun _ kk => gf_dup dX12_init_313 rfl kk) ?_
  refine gq_st (f := fun _ kk => gf_iconst (1) dX12_init_314 rfl kk) ?_
  refine gq_st (f := fun _ kk => gf_bipush (114) dX12_init_315 rfl kk) ?_
  refine gq_st (f := fun _ kk => gf_cast 2 (j := 1) dX12_init_317 (w_tag W2 (by decide) (rfl : gr_tl[258]? = some (13, 2))) (w_len W2 (by decide) (rfl : gr_tl[258]? = some (13, 2))) rfl (by decide) (by decide) rfl kk) ?_
  have W3 : wS 259 12550 119 (wF wLb f9 47) (hp_setI h2 258 1 (114)) := w_int W2 (by decide) rfl rfl
  generalize hp_setI h2 258 1 (114) = h3 at W3 ⊢
  refine gq_st (f := fun _ kk => gf_putRF flX12_45 rfl rfl rfl rfl dX12_init_318 (w_tag W3 (by decide) (rfl : gr_tl[247]? = some (12, 0))) ⟨rfl, rfl⟩ kk) ?_
  have W4 : wS 259 12550 120 (wF wLb f9 47) (hp_setR h3 247 18 (some 258)) := w_ref W3 (by decide) rfl rfl
  generalize hp_setR h3 247 18 (some 258) = h4 at W4 ⊢
  refine gq_st (f := fun _ kk => gf_aload_n 0 dX12_init_321 rfl rfl kk) ?_
  refine gq_st (f := fun _ kk => gf_iconst (3) dX12_init_322 rfl kk) ?_
  refine gq_st (f := fun _ kk => gf_newa (atype := .char) 13 3 (by decide) rfl na_char rfl (by decide) dX12_init_323 kk) ?_
  rw [W4.1.1]
  have W5 : wS 260 12553 120 (wF wLb f9 47) (hp_new h4 13 3 3) := w_new W4 (t := 13) (len := 3) rfl rfl rfl
  generalize hp_new h4 13 3 3 = h5 at W5 ⊢
  refine gq_st (f := fun _ kk => gf_dup dX12_init_325 rfl kk) ?_
  refine gq_st (f := fun _ kk => gf_iconst (0) dX12_init_326 rfl kk) ?_
  refine gq_st (f := fun _ kk => gf_bipush (97) dX12_init_327 rfl kk) ?_
  refine gq_st (f := fun _ kk => gf_cast 3 (j := 0) dX12_init_329 (w_tag W5 (by decide) (rfl : gr_tl[259]? = some (13, 3))) (w_len W5 (by decide) (rfl : gr_tl[259]? = some (13, 3))) rfl (by decide) (by decide) rfl kk) ?_
  have W6 : wS 260 12553 120 (wF wLb f9 48) (hp_setI h5 259 0 (97)) := w_int W5 (by decide) rfl rfl
  generalize hp_setI h5 259 0 (97) = h6 at W6 ⊢
  refine gq_st (f := fun _ kk => gf_dup dX12_init_330 rfl kk) ?_
  refine gq_st (f := fun _ kk => gf_iconst (1) dX12_init_331 rfl kk) ?_
  refine gq_st (f := fun _ kk => gf_bipush (110) dX12_init_332 rfl kk) ?_
  refine gq_st (f := fun _ kk => gf_cast 3 (j := 1) dX12_init_334 (w_tag W6 (by decide) (rfl : gr_tl[259]? = some (13, 3))) (w_len W6 (by decide) (rfl : gr_tl[259]? = some (13, 3))) rfl (by decide) (by decide) rfl kk) ?_
  have W7 : wS 260 12553 120 (wF wLb f9 49) (hp_setI h6 259 1 (110)) := w_int W6 (by decide) rfl rfl
  generalize hp_setI h6 259 1 (110) = h7 at W7 ⊢
  refine gq_st (f := fun _ kk => gf_dup dX12_init_335 rfl kk) ?_
  refine gq_st (f := fun _ kk => gf_iconst (2) dX12_init_336 rfl kk) ?_
  refine gq_st (f := fun _ kk => gf_bipush (100) dX12_init_337 rfl kk) ?_
  refine gq_st (f := fun _ kk => gf_cast 3 (j := 2) dX12_init_339 (w_tag W7 (by decide) (rfl : gr_tl[259]? = some (13, 3))) (w_len W7 (by decide) (rfl : gr_tl[259]? = some (13, 3))) rfl (by decide) (by decide) rfl kk) ?_
  have W8 : wS 260 12553 120 (wF wLb f9 50) (hp_setI h7 259 2 (100)) := w_int W7 (by decide) rfl rfl
  generalize hp_setI h7 259 2 (100) = h8 at W8 ⊢
  refine gq_st (f := fun _ kk => gf_putRF flX12_48 rfl rfl rfl rfl dX12_init_340 (w_tag W8 (by decide) (rfl : gr_tl[247]? = some (12, 0))) ⟨rfl, rfl⟩ kk) ?_
  have W9 : wS 260 12553 121 (wF wLb f9 50) (hp_setR h8 247 19 (some 259)) := w_ref W8 (by decide) rfl rfl
  generalize hp_setR h8 247 19 (some 259) = h9 at W9 ⊢
  refine gq_st (f := fun _ kk => gf_aload_n 0 dX12_init_343 rfl rfl kk) ?_
  refine gq_st (f := fun _ kk => gf_iconst (3) dX12_init_344 rfl kk) ?_
  refine gq_st (f := fun _ kk => gf_newa (atype := .char) 13 3 (by decide) rfl na_char rfl (by decide) dX12_init_345 kk) ?_
  rw [W9.1.1]
  have W10 : wS 261 12556 121 (wF wLb f9 50) (hp_new h9 13 3 3) := w_new W9 (t := 13) (len := 3) rfl rfl rfl
  generalize hp_new h9 13 3 3 = h10 at W10 ⊢
  refine gq_st (f := fun _ kk => gf_dup dX12_init_347 rfl kk) ?_
  refine gq_st (f := fun _ kk => gf_iconst (0) dX12_init_348 rfl kk) ?_
  refine gq_st (f := fun _ kk => gf_bipush (110) dX12_init_349 rfl kk) ?_
  refine gq_st (f := fun _ kk => gf_cast 3 (j := 0) dX12_init_351 (w_tag W10 (by decide) (rfl : gr_tl[260]? = some (13, 3))) (w_len W10 (by decide) (rfl : gr_tl[260]? = some (13, 3))) rfl (by decide) (by decide) rfl kk) ?_
  have W11 : wS 261 12556 121 (wF wLb f9 51) (hp_setI h10 260 0 (110)) := w_int W10 (by decide) rfl rfl
  generalize hp_setI h10 260 0 (110) = h11 at W11 ⊢
  refine gq_st (f := fun _ kk => gf_dup dX12_init_352 rfl kk) ?_
  refine gq_st (f := fun _ kk => gf_iconst (1) dX12_init_353 rfl kk) ?_
  refine gq_st (f := fun _ kk => gf_bipush (111) dX12_init_354 rfl kk) ?_
  refine gq_st (f := fun _ kk => gf_cast 3 (j := 1) dX12_init_356 (w_tag W11 (by decide) (rfl : gr_tl[260]? = some (13, 3))) (w_len W11 (by decide) (rfl : gr_tl[260]? = some (13, 3))) rfl (by decide) (by decide) rfl kk) ?_
  have W12 : wS 261 12556 121 (wF wLb f9 52) (hp_setI h11 260 1 (111)) := w_int W11 (by decide) rfl rfl
  generalize hp_setI h11 260 1 (111) = h12 at W12 ⊢
  refine gq_st (f := fun _ kk => gf_dup dX12_init_357 rfl kk) ?_
  refine gq_st (f := fun _ kk => gf_iconst (2) dX12_init_358 rfl kk) ?_
  refine gq_st (f := fun _ kk => gf_bipush (116) dX12_init_359 rfl kk) ?_
  refine gq_st (f := fun _ kk => gf_cast 3 (j := 2) dX12_init_361 (w_tag W12 (by decide) (rfl : gr_tl[260]? = some (13, 3))) (w_len W12 (by decide) (rfl : gr_tl[260]? = some (13, 3))) rfl (by decide) (by decide) rfl kk) ?_
  have W13 : wS 261 12556 121 (wF wLb f9 53) (hp_setI h12 260 2 (116)) := w_int W12 (by decide) rfl rfl
  generalize hp_setI h12 260 2 (116) = h13 at W13 ⊢
  refine gq_st (f := fun _ kk => gf_putRF flX12_51 rfl rfl rfl rfl dX12_init_362 (w_tag W13 (by decide) (rfl : gr_tl[247]? = some (12, 0))) ⟨rfl, rfl⟩ kk) ?_
  have W14 : wS 261 12556 122 (wF wLb f9 53) (hp_setR h13 247 20 (some 260)) := w_ref W13 (by decide) rfl rfl
  generalize hp_setR h13 247 20 (some 260) = h14 at W14 ⊢
  refine gq_st (f := fun _ kk => gf_aload_n 0 dX12_init_365 rfl rfl kk) ?_
  refine gq_st (f := fun _ kk => gf_iconst (3) dX12_init_366 rfl kk) ?_
  refine gq_st (f := fun _ kk => gf_newa (atype := .char) 13 3 (by decide) rfl na_char rfl (by decide) dX12_init_367 kk) ?_
  rw [W14.1.1]
  have W15 : wS 262 12559 122 (wF wLb f9 53) (hp_new h14 13 3 3) := w_new W14 (t := 13) (len := 3) rfl rfl rfl
  generalize hp_new h14 13 3 3 = h15 at W15 ⊢
  refine gq_st (f := fun _ kk => gf_dup dX12_init_369 rfl kk) ?_
  refine gq_st (f := fun _ kk => gf_iconst (0) dX12_init_370 rfl kk) ?_
  refine gq_st (f := fun _ kk => gf_bipush (97) dX12_init_371 rfl kk) ?_
  refine gq_st (f := fun _ kk => gf_cast 3 (j := 0) dX12_init_373 (w_tag W15 (by decide) (rfl : gr_tl[261]? = some (13, 3))) (w_len W15 (by decide) (rfl : gr_tl[261]? = some (13, 3))) rfl (by decide) (by decide) rfl kk) ?_
  have W16 : wS 262 12559 122 (wF wLb f9 54) (hp_setI h15 261 0 (97)) := w_int W15 (by decide) rfl rfl
  generalize hp_setI h15 261 0 (97) = h16 at W16 ⊢
  refine gq_st (f := fun _ kk => gf_dup dX12_init_374 rfl kk) ?_
  refine gq_st (f := fun _ kk => gf_iconst (1) dX12_init_375 rfl kk) ?_
  refine gq_st (f := fun _ kk => gf_bipush (108) dX12_init_376 rfl kk) ?_
  refine gq_st (f := fun _ kk => gf_cast 3 (j := 1) dX12_init_378 (w_tag W16 (by decide) (rfl : gr_tl[261]? = some (13, 3))) (w_len W16 (by decide) (rfl : gr_tl[261]? = some (13, 3))) rfl (by decide) (by decide) rfl kk) ?_
  have W17 : wS 262 12559 122 (wF wLb f9 55) (hp_setI h16 261 1 (108)) := w_int W16 (by decide) rfl rfl
  generalize hp_setI h16 261 1 (108) = h17 at W17 ⊢
  refine gq_st (f := fun _ kk => gf_dup dX12_init_379 rfl kk) ?_
  refine gq_st (f := fun _ kk => gf_iconst (2) dX12_init_380 rfl kk) ?_
  refine gq_st (f := fun _ kk => gf_bipush (108) dX12_init_381 rfl kk) ?_
  refine gq_st (f := fun _ kk => gf_cast 3 (j := 2) dX12_init_383 (w_tag W17 (by decide) (rfl : gr_tl[261]? = some (13, 3))) (w_len W17 (by decide) (rfl : gr_tl[261]? = some (13, 3))) rfl (by decide) (by decide) rfl kk) ?_
  have W18 : wS 262 12559 122 (wF wLb f9 56) (hp_setI h17 261 2 (108)) := w_int W17 (by decide) rfl rfl
  generalize hp_setI h17 261 2 (108) = h18 at W18 ⊢
  refine gq_st (f := fun _ kk => gf_putRF flX12_54 rfl rfl rfl rfl dX12_init_384 (w_tag W18 (by decide) (rfl : gr_tl[247]? = some (12, 0))) ⟨rfl, rfl⟩ kk) ?_
  have W19 : wS 262 12559 123 (wF wLb f9 56) (hp_setR h18 247 21 (some 261)) := w_ref W18 (by decide) rfl rfl
  generalize hp_setR h18 247 21 (some 261) = h19 at W19 ⊢
  exact n_X12_247_p387 E hd W19
theorem n_X12_247_p208 (E : gE) {d : Nat} (hd : 3 ≤ d) {h0 : hp_T} {f9 : Nat → Nat → Int32} (W0 : wS 255 12533 116 (wF wLb f9 30) h0) : gq E mX12_init d 208 [(0, .ref (E.1 + 247))] [] h0 none (wS 333 163077 194 (wF wLb f9 102)) := by
  refine gq_st (f := fun _ kk => gf_aload_n 0 dX12_init_208 rfl rfl kk) ?_
  refine gq_st (f := fun _ kk => gf_iconst (5) dX12_init_209 rfl kk) ?_
  refine gq_st (f := fun _ kk => gf_newa (atype := .char) 13 5 (by decide) rfl na_char rfl (by decide) dX12_init_210 kk) ?_
  rw [W0.1.1]
  have W1 : wS 256 12538 116 (wF wLb f9 30) (hp_new h0 13 5 5) := w_new W0 (t := 13) (len := 5) rfl rfl rfl
  generalize hp_new h0 13 5 5 = h1 at W1 ⊢
  refine gq_st (f := fun _ kk => gf_dup dX12_init_212 rfl kk) ?_
  refine gq_st (f := fun _ kk => gf_iconst (0) dX12_init_213 rfl kk) ?_
  refine gq_st (f := fun _ kk => gf_bipush (102) dX12_init_214 rfl kk) ?_
  refine gq_st (f := fun _ kk => gf_cast 5 (j := 0) dX12_init_216 (w_tag W1 (by decide) (rfl : gr_tl[255]? = some (13, 5))) (w_len W1 (by decide) (rfl : gr_tl[255]? = some (13, 5))) rfl (by decide) (by decide) rfl kk) ?_
  have W2 : wS 256 12538 116 (wF wLb f9 31) (hp_setI h1 255 0 (102)) := w_int W1 (by decide) rfl rfl
  generalize hp_setI h1 255 0 (102) = h2 at W2 ⊢
  refine gq_st (f := fun _ kk => gf_dup dX12_init_217 rfl kk) ?_
  refine gq_st (f := fun _ kk => gf_iconst (1) dX12_init_218 rfl kk) ?_
  refine gq_st (f := fun _ kk => gf_bipush (105) dX12_init_219 rfl kk) ?_
  refine gq_st (f := fun _ kk => gf_cast 5 (j := 1) dX12_init_221 (w_tag W2 (by decide) (rfl : gr_tl[255]? = some (13, 5))) (w_len W2 (by decide) (rfl : gr_tl[255]? = some (13, 5))) rfl (by decide) (by decide) rfl kk) ?_
  have W3 : wS 256 12538 116 (wF wLb f9 32) (hp_setI h2 255 1 (105)) := w_int W2 (by decide) rfl rfl
  generalize hp_setI h2 255 1 (105) = h3 at W3 ⊢
  refine gq_st (f := fun _ kk => gf_dup dX12_init_222 rfl kk) ?_
  refine gq_st (f := fun _ kk => gf_iconst (2) dX12_init_223 rfl kk) ?_
  refine gq_st (f := fun _ kk => gf_bipush (114) dX12_init_224 rfl kk) ?_
  refine gq_st (f := fun _ kk => gf_cast 5 (j := 2) dX12_init_226 (w_tag W3 (by decide) (rfl : gr_tl[255]? = some (13, 5))) (w_len W3 (by decide) (rfl : gr_tl[255]? = some (13, 5))) rfl (by decide) (by decide) rfl kk) ?_
  have W4 : wS 256 12538 116 (wF wLb f9 33) (hp_setI h3 255 2 (114)) := w_int W3 (by decide) rfl rfl
  generalize hp_setI h3 255 2 (114) = h4 at W4 ⊢
  refine gq_st (f := fun _ kk => gf_dup dX12_init_227 rfl kk) ?_
  refine gq_st (f := fun _ kk => gf_iconst (3) dX12_init_228 rfl kk) ?_
  refine gq_st (f := fun _ kk => gf_bipush (115) dX12_init_229 rfl kk) ?_
  refine gq_st (f := fun _ kk => gf_cast 5 (j := 3) dX12_init_231 (w_tag W4 (by decide) (rfl : gr_tl[255]? = some (13, 5))) (w_len W4 (by decide) (rfl : gr_tl[255]? = some (13, 5))) rfl (by decide) (by decide) rfl kk) ?_
  have W5 : wS 256 12538 116 (wF wLb f9 34) (hp_setI h4 255 3 (115)) := w_int W4 (by decide) rfl rfl
  generalize hp_setI h4 255 3 (115) = h5 at W5 ⊢
  refine gq_st (f := fun _ kk => gf_dup dX12_init_232 rfl kk) ?_
  refine gq_st (f := fun _ kk => gf_iconst (4) dX12_init_233 rfl kk) ?_
  refine gq_st (f := fun _ kk => gf_bipush (116) dX12_init_234 rfl kk) ?_
  refine gq_st (f := fun _ kk => gf_cast 5 (j := 4) dX12_init_236 (w_tag W5 (by decide) (rfl : gr_tl[255]? = some (13, 5))) (w_len W5 (by decide) (rfl : gr_tl[255]? = some (13, 5))) rfl (by decide) (by decide) rfl kk) ?_
  have W6 : wS 256 12538 116 (wF wLb f9 35) (hp_setI h5 255 4 (116)) := w_int W5 (by decide) rfl rfl
  generalize hp_setI h5 255 4 (116) = h6 at W6 ⊢
  refine gq_st (f := fun _ kk => gf_putRF flX12_36 rfl rfl rfl rfl dX12_init_237 (w_tag W6 (by decide) (rfl : gr_tl[247]? = some (12, 0))) ⟨rfl, rfl⟩ kk) ?_
  have W7 : wS 256 12538 117 (wF wLb f9 35) (hp_setR h6 247 15 (some 255)) := w_ref W6 (by decide) rfl rfl
  generalize hp_setR h6 247 15 (some 255) = h7 at W7 ⊢
  refine gq_st (f := fun _ kk => gf_aload_n 0 dX12_init_240 rfl rfl kk) ?_
  refine gq_st (f := fun _ kk => gf_iconst (5) dX12_init_241 rfl kk) ?_
  refine gq_st (f := fun _ kk => gf_newa (atype := .char) 13 5 (by decide) rfl na_char rfl (by decide) dX12_init_242 kk) ?_
  rw [W7.1.1]
  have W8 : wS 257 12543 117 (wF wLb f9 35) (hp_new h7 13 5 5) := w_new W7 (t := 13) (len := 5) rfl rfl rfl
  generalize hp_new h7 13 5 5 = h8 at W8 ⊢
  refine gq_st (f := fun _ kk => gf_dup dX12_init_244 rfl kk) ?_
  refine gq_st (f := fun _ kk => gf_iconst (0) dX12_init_245 rfl kk) ?_
  refine gq_st (f := fun _ kk => gf_bipush (112) dX12_init_246 rfl kk) ?_
  refine gq_st (f := fun _ kk => gf_cast 5 (j := 0) dX12_init_248 (w_tag W8 (by decide) (rfl : gr_tl[256]? = some (13, 5))) (w_len W8 (by decide) (rfl : gr_tl[256]? = some (13, 5))) rfl (by decide) (by decide) rfl kk) ?_
  have W9 : wS 257 12543 117 (wF wLb f9 36) (hp_setI h8 256 0 (112)) := w_int W8 (by decide) rfl rfl
  generalize hp_setI h8 256 0 (112) = h9 at W9 ⊢
  refine gq_st (f := fun _ kk => gf_dup dX12_init_249 rfl kk) ?_
  refine gq_st (f := fun _ kk => gf_iconst (1) dX12_init_250 rfl kk) ?_
  refine gq_st (f := fun _ kk => gf_bipush (97) dX12_init_251 rfl kk) ?_
  refine gq_st (f := fun _ kk => gf_cast 5 (j := 1) dX12_init_253 (w_tag W9 (by decide) (rfl : gr_tl[256]? = some (13, 5))) (w_len W9 (by decide) (rfl : gr_tl[256]? = some (13, 5))) rfl (by decide) (by decide) rfl kk) ?_
  have W10 : wS 257 12543 117 (wF wLb f9 37) (hp_setI h9 256 1 (97)) := w_int W9 (by decide) rfl rfl
  generalize hp_setI h9 256 1 (97) = h10 at W10 ⊢
  refine gq_st (f := fun _ kk => gf_dup dX12_init_254 rfl kk) ?_
  refine gq_st (f := fun _ kk => gf_iconst (2) dX12_init_255 rfl kk) ?_
  refine gq_st (f := fun _ kk => gf_bipush (114) dX12_init_256 rfl kk) ?_
  refine gq_st (f := fun _ kk => gf_cast 5 (j := 2) dX12_init_258 (w_tag W10 (by decide) (rfl : gr_tl[256]? = some (13, 5))) (w_len W10 (by decide) (rfl : gr_tl[256]? = some (13, 5))) rfl (by decide) (by decide) rfl kk) ?_
  have W11 : wS 257 12543 117 (wF wLb f9 38) (hp_setI h10 256 2 (114)) := w_int W10 (by decide) rfl rfl
  generalize hp_setI h10 256 2 (114) = h11 at W11 ⊢
  refine gq_st (f := fun _ kk => gf_dup dX12_init_259 rfl kk) ?_
  refine gq_st (f := fun _ kk => gf_iconst (3) dX12_init_260 rfl kk) ?_
  refine gq_st (f := fun _ kk => gf_bipush (116) dX12_init_261 rfl kk) ?_
  refine gq_st (f := fun _ kk => gf_cast 5 (j := 3) dX12_init_263 (w_tag W11 (by decide) (rfl : gr_tl[256]? = some (13, 5))) (w_len W11 (by decide) (rfl : gr_tl[256]? = some (13, 5))) rfl (by decide) (by decide) rfl kk) ?_
  have W12 : wS 257 12543 117 (wF wLb f9 39) (hp_setI h11 256 3 (116)) := w_int W11 (by decide) rfl rfl
  generalize hp_setI h11 256 3 (116) = h12 at W12 ⊢
  refine gq_st (f := fun _ kk => gf_dup dX12_init_264 rfl kk) ?_
  refine gq_st (f := fun _ kk => gf_iconst (4) dX12_init_265 rfl kk) ?_
  refine gq_st (f := fun _ kk => gf_bipush (115) dX12_init_266 rfl kk) ?_
  refine gq_st (f := fun _ kk => gf_cast 5 (j := 4) dX12_init_268 (w_tag W12 (by decide) (rfl : gr_tl[256]? = some (13, 5))) (w_len W12 (by decide) (rfl : gr_tl[256]? = some (13, 5))) rfl (by decide) (by decide) rfl kk) ?_
  have W13 : wS 257 12543 117 (wF wLb f9 40) (hp_setI h12 256 4 (115)) := w_int W12 (by decide) rfl rfl
  generalize hp_setI h12 256 4 (115) = h13 at W13 ⊢
  refine gq_st (f := fun _ kk => gf_putRF flX12_39 rfl rfl rfl rfl dX12_init_269 (w_tag W13 (by decide) (rfl : gr_tl[247]? = some (12, 0))) ⟨rfl, rfl⟩ kk) ?_
  have W14 : wS 257 12543 118 (wF wLb f9 40) (hp_setR h13 247 16 (some 256)) := w_ref W13 (by decide) rfl rfl
  generalize hp_setR h13 247 16 (some 256) = h14 at W14 ⊢
  refine gq_st (f := fun _ kk => gf_aload_n 0 dX12_init_272 rfl rfl kk) ?_
  refine gq_st (f := fun _ kk => gf_iconst (5) dX12_init_273 rfl kk) ?_
  refine gq_st (f := fun _ kk => gf_newa (atype := .char) 13 5 (by decide) rfl na_char rfl (by decide) dX12_init_274 kk) ?_
  rw [W14.1.1]
  have W15 : wS 258 12548 118 (wF wLb f9 40) (hp_new h14 13 5 5) := w_new W14 (t := 13) (len := 5) rfl rfl rfl
  generalize hp_new h14 13 5 5 = h15 at W15 ⊢
  refine gq_st (f := fun _ kk => gf_dup dX12_init_276 rfl kk) ?_
  refine gq_st (f := fun _ kk => gf_iconst (0) dX12_init_277 rfl kk) ?_
  refine gq_st (f := fun _ kk => gf_bipush (97) dX12_init_278 rfl kk) ?_
  refine gq_st (f := fun _ kk => gf_cast 5 (j := 0) dX12_init_280 (w_tag W15 (by decide) (rfl : gr_tl[257]? = some (13, 5))) (w_len W15 (by decide) (rfl : gr_tl[257]? = some (13, 5))) rfl (by decide) (by decide) rfl kk) ?_
  have W16 : wS 258 12548 118 (wF wLb f9 41) (hp_setI h15 257 0 (97)) := w_int W15 (by decide) rfl rfl
  generalize hp_setI h15 257 0 (97) = h16 at W16 ⊢
  refine gq_st (f := fun _ kk => gf_dup dX12_init_281 rfl kk) ?_
  refine gq_st (f := fun _ kk => gf_iconst (1) dX12_init_282 rfl kk) ?_
  refine gq_st (f := fun _ kk => gf_bipush (102) dX12_init_283 rfl kk) ?_
  refine gq_st (f := fun _ kk => gf_cast 5 (j := 1) dX12_init_285 (w_tag W16 (by decide) (rfl : gr_tl[257]? = some (13, 5))) (w_len W16 (by decide) (rfl : gr_tl[257]? = some (13, 5))) rfl (by decide) (by decide) rfl kk) ?_
  have W17 : wS 258 12548 118 (wF wLb f9 42) (hp_setI h16 257 1 (102)) := w_int W16 (by decide) rfl rfl
  generalize hp_setI h16 257 1 (102) = h17 at W17 ⊢
  refine gq_st (f := fun _ kk => gf_dup dX12_init_286 rfl kk) ?_
  refine gq_st (f := fun _ kk => gf_iconst (2) dX12_init_287 rfl kk) ?_
  refine gq_st (f := fun _ kk => gf_bipush (116) dX12_init_288 rfl kk) ?_
  refine gq_st (f := fun _ kk => gf_cast 5 (j := 2) dX12_init_290 (w_tag W17 (by decide) (rfl : gr_tl[257]? = some (13, 5))) (w_len W17 (by decide) (rfl : gr_tl[257]? = some (13, 5))) rfl (by decide) (by decide) rfl kk) ?_
  have W18 : wS 258 12548 118 (wF wLb f9 43) (hp_setI h17 257 2 (116)) := w_int W17 (by decide) rfl rfl
  generalize hp_setI h17 257 2 (116) = h18 at W18 ⊢
  refine gq_st (f := fun _ kk => gf_dup dX12_init_291 rfl kk) ?_
  refine gq_st (f := fun _ kk => gf_iconst (3) dX12_init_292 rfl kk) ?_
  refine gq_st (f := fun _ kk => gf_bipush (101) dX12_init_293 rfl kk) ?_
  refine gq_st (f := fun _ kk => gf_cast 5 (j := 3) dX12_init_295 (w_tag W18 (by decide) (rfl : gr_tl[257]? = some (13, 5))) (w_len W18 (by decide) (rfl : gr_tl[257]? = some (13, 5))) rfl (by decide) (by decide) rfl kk) ?_
  have W19 : wS 258 12548 118 (wF wLb f9 44) (hp_setI h18 257 3 (101)) := w_int W18 (by decide) rfl rfl
  generalize hp_setI h18 257 3 (101) = h19 at W19 ⊢
  refine gq_st (f := fun _ kk => gf_dup dX12_init_296 rfl kk) ?_
  refine gq_st (f := fun _ kk => gf_iconst (4) dX12_init_297 rfl kk) ?_
  refine gq_st (f := fun _ kk => gf_bipush (114) dX12_init_298 rfl kk) ?_
  refine gq_st (f := fun _ kk => gf_cast 5 (j := 4) dX12_init_300 (w_tag W19 (by decide) (rfl : gr_tl[257]? = some (13, 5))) (w_len W19 (by decide) (rfl : gr_tl[257]? = some (13, 5))) rfl (by decide) (by decide) rfl kk) ?_
  have W20 : wS 258 12548 118 (wF wLb f9 45) (hp_setI h19 257 4 (114)) := w_int W19 (by decide) rfl rfl
  generalize hp_setI h19 257 4 (114) = h20 at W20 ⊢
  refine gq_st (f := fun _ kk => gf_putRF flX12_42 rfl rfl rfl rfl dX12_init_301 (w_tag W20 (by decide) (rfl : gr_tl[247]? = some (12, 0))) ⟨rfl, rfl⟩ kk) ?_
  have W21 : wS 258 12548 119 (wF wLb f9 45) (hp_setR h20 247 17 (some 257)) := w_ref W20 (by decide) rfl rfl
  generalize hp_setR h20 247 17 (some 257) = h21 at W21 ⊢
  exact n_X12_247_p304 E hd W21
theorem n_X12_247_p104 (E : gE) {d : Nat} (hd : 3 ≤ d) {h0 : hp_T} {f9 : Nat → Nat → Int32} (W0 : wS 252 12517 113 (wF wLb f9 14) h0) : gq E mX12_init d 104 [(0, .ref (E.1 + 247))] [] h0 none (wS 333 163077 194 (wF wLb f9 102)) := by
  refine gq_st (f := fun _ kk => gf_aload_n 0 dX12_init_104 rfl rfl kk) ?_
  refine gq_st (f := fun _ kk => gf_iconst (3) dX12_init_105 rfl kk) ?_
  refine gq_st (f := fun _ kk => gf_newa (atype := .char) 13 3 (by decide) rfl na_char rfl (by decide) dX12_init_106 kk) ?_
  rw [W0.1.1]
  have W1 : wS 253 12520 113 (wF wLb f9 14) (hp_new h0 13 3 3) := w_new W0 (t := 13) (len := 3) rfl rfl rfl
  generalize hp_new h0 13 3 3 = h1 at W1 ⊢
  refine gq_st (f := fun _ kk => gf_dup dX12_init_108 rfl kk) ?_
  refine gq_st (f := fun _ kk => gf_iconst (0) dX12_init_109 rfl kk) ?_
  refine gq_st (f := fun _ kk => gf_bipush (112) dX12_init_110 rfl kk) ?_
  refine gq_st (f := fun _ kk => gf_cast 3 (j := 0) dX12_init_112 (w_tag W1 (by decide) (rfl : gr_tl[252]? = some (13, 3))) (w_len W1 (by decide) (rfl : gr_tl[252]? = some (13, 3))) rfl (by decide) (by decide) rfl kk) ?_
  have W2 : wS 253 12520 113 (wF wLb f9 15) (hp_setI h1 252 0 (112)) := w_int W1 (by decide) rfl rfl
  generalize hp_setI h1 252 0 (112) = h2 at W2 ⊢
  refine gq_st (f := fun _ kk => gf_dup dX12_init_113 rfl kk) ?_
  refine gq_st (f := fun _ kk => gf_iconst (1) dX12_init_114 rfl kk) ?_
  refine gq_st (f := fun _ kk => gf_bipush (97) dX12_init_115 rfl kk) ?_
  refine gq_st (f := fun _ kk => gf_cast 3 (j := 1) dX12_init_117 (w_tag W2 (by decide) (rfl : gr_tl[252]? = some (13, 3))) (w_len W2 (by decide) (rfl : gr_tl[252]? = some (13, 3))) rfl (by decide) (by decide) rfl kk) ?_
  have W3 : wS 253 12520 113 (wF wLb f9 16) (hp_setI h2 252 1 (97)) := w_int W2 (by decide) rfl rfl
  generalize hp_setI h2 252 1 (97) = h3 at W3 ⊢
  refine gq_st (f := fun _ kk => gf_dup dX12_init_118 rfl kk) ?_
  refine gq_st (f := fun _ kk => gf_iconst (2) dX12_init_119 rfl kk) ?_
  refine gq_st (f := fun _ kk => gf_bipush (121) dX12_init_120 rfl kk) ?_
  refine gq_st (f := fun _ kk => gf_cast 3 (j := 2) dX12_init_122 (w_tag W3 (by decide) (rfl : gr_tl[252]? = some (13, 3))) (w_len W3 (by decide) (rfl : gr_tl[252]? = some (13, 3))) rfl (by decide) (by decide) rfl kk) ?_
  have W4 : wS 253 12520 113 (wF wLb f9 17) (hp_setI h3 252 2 (121)) := w_int W3 (by decide) rfl rfl
  generalize hp_setI h3 252 2 (121) = h4 at W4 ⊢
  refine gq_st (f := fun _ kk => gf_putRF flX12_27 rfl rfl rfl rfl dX12_init_123 (w_tag W4 (by decide) (rfl : gr_tl[247]? = some (12, 0))) ⟨rfl, rfl⟩ kk) ?_
  have W5 : wS 253 12520 114 (wF wLb f9 17) (hp_setR h4 247 12 (some 252)) := w_ref W4 (by decide) rfl rfl
  generalize hp_setR h4 247 12 (some 252) = h5 at W5 ⊢
  refine gq_st (f := fun _ kk => gf_aload_n 0 dX12_init_126 rfl rfl kk) ?_
  refine gq_st (f := fun _ kk => gf_bipush (7) dX12_init_127 rfl kk) ?_
  refine gq_st (f := fun _ kk => gf_newa (atype := .char) 13 7 (by decide) rfl na_char rfl (by decide) dX12_init_129 kk) ?_
  rw [W5.1.1]
  have W6 : wS 254 12527 114 (wF wLb f9 17) (hp_new h5 13 7 7) := w_new W5 (t := 13) (len := 7) rfl rfl rfl
  generalize hp_new h5 13 7 7 = h6 at W6 ⊢
  refine gq_st (f := fun _ kk => gf_dup dX12_init_131 rfl kk) ?_
  refine gq_st (f := fun _ kk => gf_iconst (0) dX12_init_132 rfl kk) ?_
  refine gq_st (f := fun _ kk => gf_bipush (112) dX12_init_133 rfl kk) ?_
  refine gq_st (f := fun _ kk => gf_cast 7 (j := 0) dX12_init_135 (w_tag W6 (by decide) (rfl : gr_tl[253]? = some (13, 7))) (w_len W6 (by decide) (rfl : gr_tl[253]? = some (13, 7))) rfl (by decide) (by decide) rfl kk) ?_
  have W7 : wS 254 12527 114 (wF wLb f9 18) (hp_setI h6 253 0 (112)) := w_int W6 (by decide) rfl rfl
  generalize hp_setI h6 253 0 (112) = h7 at W7 ⊢
  refine gq_st (f := fun _ kk => gf_dup dX12_init_136 rfl kk) ?_
  refine gq_st (f := fun _ kk => gf_iconst (1) dX12_init_137 rfl kk) ?_
  refine gq_st (f := fun _ kk => gf_bipush (114) dX12_init_138 rfl kk) ?_
  refine gq_st (f := fun _ kk => gf_cast 7 (j := 1) dX12_init_140 (w_tag W7 (by decide) (rfl : gr_tl[253]? = some (13, 7))) (w_len W7 (by decide) (rfl : gr_tl[253]? = some (13, 7))) rfl (by decide) (by decide) rfl kk) ?_
  have W8 : wS 254 12527 114 (wF wLb f9 19) (hp_setI h7 253 1 (114)) := w_int W7 (by decide) rfl rfl
  generalize hp_setI h7 253 1 (114) = h8 at W8 ⊢
  refine gq_st (f := fun _ kk => gf_dup dX12_init_141 rfl kk) ?_
  refine gq_st (f := fun _ kk => gf_iconst (2) dX12_init_142 rfl kk) ?_
  refine gq_st (f := fun _ kk => gf_bipush (101) dX12_init_143 rfl kk) ?_
  refine gq_st (f := fun _ kk => gf_cast 7 (j := 2) dX12_init_145 (w_tag W8 (by decide) (rfl : gr_tl[253]? = some (13, 7))) (w_len W8 (by decide) (rfl : gr_tl[253]? = some (13, 7))) rfl (by decide) (by decide) rfl kk) ?_
  have W9 : wS 254 12527 114 (wF wLb f9 20) (hp_setI h8 253 2 (101)) := w_int W8 (by decide) rfl rfl
  generalize hp_setI h8 253 2 (101) = h9 at W9 ⊢
  refine gq_st (f := fun _ kk => gf_dup dX12_init_146 rfl kk) ?_
  refine gq_st (f := fun _ kk => gf_iconst (3) dX12_init_147 rfl kk) ?_
  refine gq_st (f := fun _ kk => gf_bipush (109) dX12_init_148 rfl kk) ?_
  refine gq_st (f := fun _ kk => gf_cast 7 (j := 3) dX12_init_150 (w_tag W9 (by decide) (rfl : gr_tl[253]? = some (13, 7))) (w_len W9 (by decide) (rfl : gr_tl[253]? = some (13, 7))) rfl (by decide) (by decide) rfl kk) ?_
  have W10 : wS 254 12527 114 (wF wLb f9 21) (hp_setI h9 253 3 (109)) := w_int W9 (by decide) rfl rfl
  generalize hp_setI h9 253 3 (109) = h10 at W10 ⊢
  refine gq_st (f := fun _ kk => gf_dup dX12_init_151 rfl kk) ?_
  refine gq_st (f := fun _ kk => gf_iconst (4) dX12_init_152 rfl kk) ?_
  refine gq_st (f := fun _ kk => gf_bipush (105) dX12_init_153 rfl kk) ?_
  refine gq_st (f := fun _ kk => gf_cast 7 (j := 4) dX12_init_155 (w_tag W10 (by decide) (rfl : gr_tl[253]? = some (13, 7))) (w_len W10 (by decide) (rfl : gr_tl[253]? = some (13, 7))) rfl (by decide) (by decide) rfl kk) ?_
  have W11 : wS 254 12527 114 (wF wLb f9 22) (hp_setI h10 253 4 (105)) := w_int W10 (by decide) rfl rfl
  generalize hp_setI h10 253 4 (105) = h11 at W11 ⊢
  refine gq_st (f := fun _ kk => gf_dup dX12_init_156 rfl kk) ?_
  refine gq_st (f := fun _ kk => gf_iconst (5) dX12_init_157 rfl kk) ?_
  refine gq_st (f := fun _ kk => gf_bipush (117) dX12_init_158 rfl kk) ?_
  refine gq_st (f := fun _ kk => gf_cast 7 (j := 5) dX12_init_160 (w_tag W11 (by decide) (rfl : gr_tl[253]? = some (13, 7))) (w_len W11 (by decide) (rfl : gr_tl[253]? = some (13, 7))) rfl (by decide) (by decide) rfl kk) ?_
  have W12 : wS 254 12527 114 (wF wLb f9 23) (hp_setI h11 253 5 (117)) := w_int W11 (by decide) rfl rfl
  generalize hp_setI h11 253 5 (117) = h12 at W12 ⊢
  refine gq_st (f := fun _ kk => gf_dup dX12_init_161 rfl kk) ?_
  refine gq_st (f := fun _ kk => gf_bipush (6) dX12_init_162 rfl kk) ?_
  refine gq_st (f := fun _ kk => gf_bipush (109) dX12_init_164 rfl kk) ?_
  refine gq_st (f := fun _ kk => gf_cast 7 (j := 6) dX12_init_166 (w_tag W12 (by decide) (rfl : gr_tl[253]? = some (13, 7))) (w_len W12 (by decide) (rfl : gr_tl[253]? = some (13, 7))) rfl (by decide) (by decide) rfl kk) ?_
  have W13 : wS 254 12527 114 (wF wLb f9 24) (hp_setI h12 253 6 (109)) := w_int W12 (by decide) rfl rfl
  generalize hp_setI h12 253 6 (109) = h13 at W13 ⊢
  refine gq_st (f := fun _ kk => gf_putRF flX12_30 rfl rfl rfl rfl dX12_init_167 (w_tag W13 (by decide) (rfl : gr_tl[247]? = some (12, 0))) ⟨rfl, rfl⟩ kk) ?_
  have W14 : wS 254 12527 115 (wF wLb f9 24) (hp_setR h13 247 13 (some 253)) := w_ref W13 (by decide) rfl rfl
  generalize hp_setR h13 247 13 (some 253) = h14 at W14 ⊢
  refine gq_st (f := fun _ kk => gf_aload_n 0 dX12_init_170 rfl rfl kk) ?_
  refine gq_st (f := fun _ kk => gf_bipush (6) dX12_init_171 rfl kk) ?_
  refine gq_st (f := fun _ kk => gf_newa (atype := .char) 13 6 (by decide) rfl na_char rfl (by decide) dX12_init_173 kk) ?_
  rw [W14.1.1]
  have W15 : wS 255 12533 115 (wF wLb f9 24) (hp_new h14 13 6 6) := w_new W14 (t := 13) (len := 6) rfl rfl rfl
  generalize hp_new h14 13 6 6 = h15 at W15 ⊢
  refine gq_st (f := fun _ kk => gf_dup dX12_init_175 rfl kk) ?_
  refine gq_st (f := fun _ kk => gf_iconst (0) dX12_init_176 rfl kk) ?_
  refine gq_st (f := fun _ kk => gf_bipush (98) dX12_init_177 rfl kk) ?_
  refine gq_st (f := fun _ kk => gf_cast 6 (j := 0) dX12_init_179 (w_tag W15 (by decide) (rfl : gr_tl[254]? = some (13, 6))) (w_len W15 (by decide) (rfl : gr_tl[254]? = some (13, 6))) rfl (by decide) (by decide) rfl kk) ?_
  have W16 : wS 255 12533 115 (wF wLb f9 25) (hp_setI h15 254 0 (98)) := w_int W15 (by decide) rfl rfl
  generalize hp_setI h15 254 0 (98) = h16 at W16 ⊢
  refine gq_st (f := fun _ kk => gf_dup dX12_init_180 rfl kk) ?_
  refine gq_st (f := fun _ kk => gf_iconst (1) dX12_init_181 rfl kk) ?_
  refine gq_st (f := fun _ kk => gf_bipush (101) dX12_init_182 rfl kk) ?_
  refine gq_st (f := fun _ kk => gf_cast 6 (j := 1) dX12_init_184 (w_tag W16 (by decide) (rfl : gr_tl[254]? = some (13, 6))) (w_len W16 (by decide) (rfl : gr_tl[254]? = some (13, 6))) rfl (by decide) (by decide) rfl kk) ?_
  have W17 : wS 255 12533 115 (wF wLb f9 26) (hp_setI h16 254 1 (101)) := w_int W16 (by decide) rfl rfl
  generalize hp_setI h16 254 1 (101) = h17 at W17 ⊢
  refine gq_st (f := fun _ kk => gf_dup dX12_init_185 rfl kk) ?_
  refine gq_st (f := fun _ kk => gf_iconst (2) dX12_init_186 rfl kk) ?_
  refine gq_st (f := fun _ kk => gf_bipush (115) dX12_init_187 rfl kk) ?_
  refine gq_st (f := fun _ kk => gf_cast 6 (j := 2) dX12_init_189 (w_tag W17 (by decide) (rfl : gr_tl[254]? = some (13, 6))) (w_len W17 (by decide) (rfl : gr_tl[254]? = some (13, 6))) rfl (by decide) (by decide) rfl kk) ?_
  have W18 : wS 255 12533 115 (wF wLb f9 27) (hp_setI h17 254 2 (115)) := w_int W17 (by decide) rfl rfl
  generalize hp_setI h17 254 2 (115) = h18 at W18 ⊢
  refine gq_st (f := fun _ kk => gf_dup dX12_init_190 rfl kk) ?_
  refine gq_st (f := fun _ kk => gf_iconst (3) dX12_init_191 rfl kk) ?_
  refine gq_st (f := fun _ kk => gf_bipush (105) dX12_init_192 rfl kk) ?_
  refine gq_st (f := fun _ kk => gf_cast 6 (j := 3) dX12_init_194 (w_tag W18 (by decide) (rfl : gr_tl[254]? = some (13, 6))) (w_len W18 (by decide) (rfl : gr_tl[254]? = some (13, 6))) rfl (by decide) (by decide) rfl kk) ?_
  have W19 : wS 255 12533 115 (wF wLb f9 28) (hp_setI h18 254 3 (105)) := w_int W18 (by decide) rfl rfl
  generalize hp_setI h18 254 3 (105) = h19 at W19 ⊢
  refine gq_st (f := fun _ kk => gf_dup dX12_init_195 rfl kk) ?_
  refine gq_st (f := fun _ kk => gf_iconst (4) dX12_init_196 rfl kk) ?_
  refine gq_st (f := fun _ kk => gf_bipush (100) dX12_init_197 rfl kk) ?_
  refine gq_st (f := fun _ kk => gf_cast 6 (j := 4) dX12_init_199 (w_tag W19 (by decide) (rfl : gr_tl[254]? = some (13, 6))) (w_len W19 (by decide) (rfl : gr_tl[254]? = some (13, 6))) rfl (by decide) (by decide) rfl kk) ?_
  have W20 : wS 255 12533 115 (wF wLb f9 29) (hp_setI h19 254 4 (100)) := w_int W19 (by decide) rfl rfl
  generalize hp_setI h19 254 4 (100) = h20 at W20 ⊢
  refine gq_st (f := fun _ kk => gf_dup dX12_init_200 rfl kk) ?_
  refine gq_st (f := fun _ kk => gf_iconst (5) dX12_init_201 rfl kk) ?_
  refine gq_st (f := fun _ kk => gf_bipush (101) dX12_init_202 rfl kk) ?_
  refine gq_st (f := fun _ kk => gf_cast 6 (j := 5) dX12_init_204 (w_tag W20 (by decide) (rfl : gr_tl[254]? = some (13, 6))) (w_len W20 (by decide) (rfl : gr_tl[254]? = some (13, 6))) rfl (by decide) (by decide) rfl kk) ?_
  have W21 : wS 255 12533 115 (wF wLb f9 30) (hp_setI h20 254 5 (101)) := w_int W20 (by decide) rfl rfl
  generalize hp_setI h20 254 5 (101) = h21 at W21 ⊢
  refine gq_st (f := fun _ kk => gf_putRF flX12_33 rfl rfl rfl rfl dX12_init_205 (w_tag W21 (by decide) (rfl : gr_tl[247]? = some (12, 0))) ⟨rfl, rfl⟩ kk) ?_
  have W22 : wS 255 12533 116 (wF wLb f9 30) (hp_setR h21 247 14 (some 254)) := w_ref W21 (by decide) rfl rfl
  generalize hp_setR h21 247 14 (some 254) = h22 at W22 ⊢
  exact n_X12_247_p208 E hd W22
