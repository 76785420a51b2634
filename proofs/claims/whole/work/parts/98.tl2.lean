/-! ===== the law: its cases, more ===== -/
theorem la_7 (E : gE) {b n i : Nat} {f : Nat → Int32} (hn : n < 4000) (hi : i + 7 ≤ n) {H : hp_T} (R : rel9 H) {Q : hp_T → Prop} (K : ∀ H2, rel9 H2 → hp_n H2 ≤ hp_n H + 4 → hp_s H2 ≤ hp_s H + 700 → gy (scX E b n f) E mL9 200 1194 [(0, .ref b), (1, .ref (E.1 + 0)), (2, .ref (E.1 + 247)), (3, .int (nI i))] [] H2 (some (.int 1)) Q) : gy (scX E b n f) E mL9 200 469 [(0, .ref b), (1, .ref (E.1 + 0)), (2, .ref (E.1 + 247)), (3, .int (nI i))] [] H (some (.int 1)) Q := by
  have G : gr H := rel_gr R
  obtain ⟨v, H1, H2, k1, k2, R2, c2, s2, hv, G1⟩ := cal_coin E R (f (i + 1)) (f (i + 2))
  obtain ⟨x, rfl⟩ := hv.2 (by decide)
  refine gy_st (f := fun _ kk => gx_aload_n 1 dL_law_469 rfl rfl kk) ?_
  refine gy_st (f := fun _ kk => gx_aload_n 0 dL_law_470 rfl rfl kk) ?_
  refine gy_st (f := fun _ kk => gx_iload_n 3 dL_law_471 rfl rfl kk) ?_
  refine gy_st (f := fun _ kk => gx_iconst (1) dL_law_472 rfl kk) ?_
  refine gy_st (f := fun _ kk => gx_iadd dL_law_473 kk) ?_
  refine gy_st (f := fun _ kk => gx_xald (j := i + 1) dL_law_474 (ix_1 i) (by omega) (by omega) kk) ?_
  refine gy_st (f := fun _ kk => gx_aload_n 0 dL_law_475 rfl rfl kk) ?_
  refine gy_st (f := fun _ kk => gx_iload_n 3 dL_law_476 rfl rfl kk) ?_
  refine gy_st (f := fun _ kk => gx_iconst (2) dL_law_477 rfl kk) ?_
  refine gy_st (f := fun _ kk => gx_iadd dL_law_478 kk) ?_
  refine gy_st (f := fun _ kk => gx_xald (j := i + 2) dL_law_479 (ix_2 i) (by omega) (by omega) kk) ?_
  refine gy_st (f := fun _ kk => gx_callV cmX11_coin lkL_47 imX11_coin seX11_coin ⟨rfl, by decide⟩ dL_law_480 (d1 := 100) (by omega) (gt_0 G) k1 rfl rfl (Nat.le_of_ble_eq_true rfl) kk) ?_
  refine gy_st (f := fun _ kk => gx_aload_n 2 dL_law_483 rfl rfl kk) ?_
  refine gy_st (f := fun _ kk => gx_aload_n 0 dL_law_484 rfl rfl kk) ?_
  refine gy_st (f := fun _ kk => gx_iload_n 3 dL_law_485 rfl rfl kk) ?_
  refine gy_st (f := fun _ kk => gx_iconst (1) dL_law_486 rfl kk) ?_
  refine gy_st (f := fun _ kk => gx_iadd dL_law_487 kk) ?_
  refine gy_st (f := fun _ kk => gx_xald (j := i + 1) dL_law_488 (ix_1 i) (by omega) (by omega) kk) ?_
  refine gy_st (f := fun _ kk => gx_aload_n 0 dL_law_489 rfl rfl kk) ?_
  refine gy_st (f := fun _ kk => gx_iload_n 3 dL_law_490 rfl rfl kk) ?_
  refine gy_st (f := fun _ kk => gx_iconst (2) dL_law_491 rfl kk) ?_
  refine gy_st (f := fun _ kk => gx_iadd dL_law_492 kk) ?_
  refine gy_st (f := fun _ kk => gx_xald (j := i + 2) dL_law_493 (ix_2 i) (by omega) (by omega) kk) ?_
  refine gy_st (f := fun _ kk => gx_callV cmX12_coin lkL_50 imX12_coin seX12_coin ⟨rfl, by decide⟩ dL_law_494 (d1 := 100) (by omega) (gt_247 G1) k2 rfl rfl (Nat.le_of_ble_eq_true rfl) kk) ?_
  exact gy_eq 1194 dL_law_497 rfl (K H2 R2 c2 s2)
theorem la_8 (E : gE) {b n i : Nat} {f : Nat → Int32} (hn : n < 4000) (hi : i + 7 ≤ n) {H : hp_T} (R : rel9 H) {Q : hp_T → Prop} (K : ∀ H2, rel9 H2 → hp_n H2 ≤ hp_n H + 4 → hp_s H2 ≤ hp_s H + 700 → gy (scX E b n f) E mL9 200 1194 [(0, .ref b), (1, .ref (E.1 + 0)), (2, .ref (E.1 + 247)), (3, .int (nI i))] [] H2 (some (.int 1)) Q) : gy (scX E b n f) E mL9 200 502 [(0, .ref b), (1, .ref (E.1 + 0)), (2, .ref (E.1 + 247)), (3, .int (nI i))] [] H (some (.int 1)) Q := by
  have G : gr H := rel_gr R
  obtain ⟨v, H1, H2, k1, k2, R2, c2, s2, hv, G1⟩ := cal_engine E R (f (i + 1)) (f (i + 2)) (f (i + 3)) (f (i + 4))
  obtain ⟨x, rfl⟩ := hv.2 (by decide)
  refine gy_st (f := fun _ kk => gx_aload_n 1 dL_law_502 rfl rfl kk) ?_
  refine gy_st (f := fun _ kk => gx_aload_n 0 dL_law_503 rfl rfl kk) ?_
  refine gy_st (f := fun _ kk => gx_iload_n 3 dL_law_504 rfl rfl kk) ?_
  refine gy_st (f := fun _ kk => gx_iconst (1) dL_law_505 rfl kk) ?_
  refine gy_st (f := fun _ kk => gx_iadd dL_law_506 kk) ?_
  refine gy_st (f := fun _ kk => gx_xald (j := i + 1) dL_law_507 (ix_1 i) (by omega) (by omega) kk) ?_
  refine gy_st (f := fun _ kk => gx_aload_n 0 dL_law_508 rfl rfl kk) ?_
  refine gy_st (f := fun _ kk => gx_iload_n 3 dL_law_509 rfl rfl kk) ?_
  refine gy_st (f := fun _ kk => gx_iconst (2) dL_law_510 rfl kk) ?_
  refine gy_st (f := fun _ kk => gx_iadd dL_law_511 kk) ?_
  refine gy_st (f := fun _ kk => gx_xald (j := i + 2) dL_law_512 (ix_2 i) (by omega) (by omega) kk) ?_
  refine gy_st (f := fun _ kk => gx_aload_n 0 dL_law_513 rfl rfl kk) ?_
  refine gy_st (f := fun _ kk => gx_iload_n 3 dL_law_514 rfl rfl kk) ?_
  refine gy_st (f := fun _ kk => gx_iconst (3) dL_law_515 rfl kk) ?_
  refine gy_st (f := fun _ kk => gx_iadd dL_law_516 kk) ?_
  refine gy_st (f := fun _ kk => gx_xald (j := i + 3) dL_law_517 (ix_3 i) (by omega) (by omega) kk) ?_
  refine gy_st (f := fun _ kk => gx_aload_n 0 dL_law_518 rfl rfl kk) ?_
  refine gy_st (f := fun _ kk => gx_iload_n 3 dL_law_519 rfl rfl kk) ?_
  refine gy_st (f := fun _ kk => gx_iconst (4) dL_law_520 rfl kk) ?_
  refine gy_st (f := fun _ kk => gx_iadd dL_law_521 kk) ?_
  refine gy_st (f := fun _ kk => gx_xald (j := i + 4) dL_law_522 (ix_4 i) (by omega) (by omega) kk) ?_
  refine gy_st (f := fun _ kk => gx_callV cmX11_engine lkL_51 imX11_engine seX11_engine ⟨rfl, by decide⟩ dL_law_523 (d1 := 100) (by omega) (gt_0 G) k1 rfl rfl (Nat.le_of_ble_eq_true rfl) kk) ?_
  refine gy_st (f := fun _ kk => gx_aload_n 2 dL_law_526 rfl rfl kk) ?_
  refine gy_st (f := fun _ kk => gx_aload_n 0 dL_law_527 rfl rfl kk) ?_
  refine gy_st (f := fun _ kk => gx_iload_n 3 dL_law_528 rfl rfl kk) ?_
  refine gy_st (f := fun _ kk => gx_iconst (1) dL_law_529 rfl kk) ?_
  refine gy_st (f := fun _ kk => gx_iadd dL_law_530 kk) ?_
  refine gy_st (f := fun _ kk => gx_xald (j := i + 1) dL_law_531 (ix_1 i) (by omega) (by omega) kk) ?_
  refine gy_st (f := fun _ kk => gx_aload_n 0 dL_law_532 rfl rfl kk) ?_
  refine gy_st (f := fun _ kk => gx_iload_n 3 dL_law_533 rfl rfl kk) ?_
  refine gy_st (f := fun _ kk => gx_iconst (2) dL_law_534 rfl kk) ?_
  refine gy_st (f := fun _ kk => gx_iadd dL_law_535 kk) ?_
  refine gy_st (f := fun _ kk => gx_xald (j := i + 2) dL_law_536 (ix_2 i) (by omega) (by omega) kk) ?_
  refine gy_st (f := fun _ kk => gx_aload_n 0 dL_law_537 rfl rfl kk) ?_
  refine gy_st (f := fun _ kk => gx_iload_n 3 dL_law_538 rfl rfl kk) ?_
  refine gy_st (f := fun _ kk => gx_iconst (3) dL_law_539 rfl kk) ?_
  refine gy_st (f := fun _ kk => gx_iadd dL_law_540 kk) ?_
  refine gy_st (f := fun _ kk => gx_xald (j := i + 3) dL_law_541 (ix_3 i) (by omega) (by omega) kk) ?_
  refine gy_st (f := fun _ kk => gx_aload_n 0 dL_law_542 rfl rfl kk) ?_
  refine gy_st (f := fun _ kk => gx_iload_n 3 dL_law_543 rfl rfl kk) ?_
  refine gy_st (f := fun _ kk => gx_iconst (4) dL_law_544 rfl kk) ?_
  refine gy_st (f := fun _ kk => gx_iadd dL_law_545 kk) ?_
  refine gy_st (f := fun _ kk => gx_xald (j := i + 4) dL_law_546 (ix_4 i) (by omega) (by omega) kk) ?_
  refine gy_st (f := fun _ kk => gx_callV cmX12_engine lkL_55 imX12_engine seX12_engine ⟨rfl, by decide⟩ dL_law_547 (d1 := 100) (by omega) (gt_247 G1) k2 rfl rfl (Nat.le_of_ble_eq_true rfl) kk) ?_
  exact gy_eq 1194 dL_law_550 rfl (K H2 R2 c2 s2)
theorem la_9 (E : gE) {b n i : Nat} {f : Nat → Int32} (hn : n < 4000) (hi : i + 7 ≤ n) {H : hp_T} (R : rel9 H) {Q : hp_T → Prop} (K : ∀ H2, rel9 H2 → hp_n H2 ≤ hp_n H + 4 → hp_s H2 ≤ hp_s H + 700 → gy (scX E b n f) E mL9 200 1194 [(0, .ref b), (1, .ref (E.1 + 0)), (2, .ref (E.1 + 247)), (3, .int (nI i))] [] H2 (some (.int 1)) Q) : gy (scX E b n f) E mL9 200 555 [(0, .ref b), (1, .ref (E.1 + 0)), (2, .ref (E.1 + 247)), (3, .int (nI i))] [] H (some (.int 1)) Q := by
  have G : gr H := rel_gr R
  obtain ⟨v, H1, H2, k1, k2, R2, c2, s2, hv, G1⟩ := cal_deal E R (f (i + 1)) (f (i + 2)) (f (i + 3))
  obtain ⟨x, rfl⟩ := hv.2 (by decide)
  refine gy_st (f := fun _ kk => gx_aload_n 1 dL_law_555 rfl rfl kk) ?_
  refine gy_st (f := fun _ kk => gx_aload_n 0 dL_law_556 rfl rfl kk) ?_
  refine gy_st (f := fun _ kk => gx_iload_n 3 dL_law_557 rfl rfl kk) ?_
  refine gy_st (f := fun _ kk => gx_iconst (1) dL_law_558 rfl kk) ?_
  refine gy_st (f := fun _ kk => gx_iadd dL_law_559 kk) ?_
  refine gy_st (f := fun _ kk => gx_xald (j := i + 1) dL_law_560 (ix_1 i) (by omega) (by omega) kk) ?_
  refine gy_st (f := fun _ kk => gx_aload_n 0 dL_law_561 rfl rfl kk) ?_
  refine gy_st (f := fun _ kk => gx_iload_n 3 dL_law_562 rfl rfl kk) ?_
  refine gy_st (f := fun _ kk => gx_iconst (2) dL_law_563 rfl kk) ?_
  refine gy_st (f := fun _ kk => gx_iadd dL_law_564 kk) ?_
  refine gy_st (f := fun _ kk => gx_xald (j := i + 2) dL_law_565 (ix_2 i) (by omega) (by omega) kk) ?_
  refine gy_st (f := fun _ kk => gx_aload_n 0 dL_law_566 rfl rfl kk) ?_
  refine gy_st (f := fun _ kk => gx_iload_n 3 dL_law_567 rfl rfl kk) ?_
  refine gy_st (f := fun _ kk => gx_iconst (3) dL_law_568 rfl kk) ?_
  refine gy_st (f := fun _ kk => gx_iadd dL_law_569 kk) ?_
  refine gy_st (f := fun _ kk => gx_xald (j := i + 3) dL_law_570 (ix_3 i) (by omega) (by omega) kk) ?_
  refine gy_st (f := fun _ kk => gx_callV cmX11_deal lkL_56 imX11_deal seX11_deal ⟨rfl, by decide⟩ dL_law_571 (d1 := 100) (by omega) (gt_0 G) k1 rfl rfl (Nat.le_of_ble_eq_true rfl) kk) ?_
  refine gy_st (f := fun _ kk => gx_aload_n 2 dL_law_574 rfl rfl kk) ?_
  refine gy_st (f := fun _ kk => gx_aload_n 0 dL_law_575 rfl rfl kk) ?_
  refine gy_st (f := fun _ kk => gx_iload_n 3 dL_law_576 rfl rfl kk) ?_
  refine gy_st (f := fun _ kk => gx_iconst (1) dL_law_577 rfl kk) ?_
  refine gy_st (f := fun _ kk => gx_iadd dL_law_578 kk) ?_
  refine gy_st (f := fun _ kk => gx_xald (j := i + 1) dL_law_579 (ix_1 i) (by omega) (by omega) kk) ?_
  refine gy_st (f := fun _ kk => gx_aload_n 0 dL_law_580 rfl rfl kk) ?_
  refine gy_st (f := fun _ kk => gx_iload_n 3 dL_law_581 rfl rfl kk) ?_
  refine gy_st (f := fun _ kk => gx_iconst (2) dL_law_582 rfl kk) ?_
  refine gy_st (f := fun _ kk => gx_iadd dL_law_583 kk) ?_
  refine gy_st (f := fun _ kk => gx_xald (j := i + 2) dL_law_584 (ix_2 i) (by omega) (by omega) kk) ?_
  refine gy_st (f := fun _ kk => gx_aload_n 0 dL_law_585 rfl rfl kk) ?_
  refine gy_st (f := fun _ kk => gx_iload_n 3 dL_law_586 rfl rfl kk) ?_
  refine gy_st (f := fun _ kk => gx_iconst (3) dL_law_587 rfl kk) ?_
  refine gy_st (f := fun _ kk => gx_iadd dL_law_588 kk) ?_
  refine gy_st (f := fun _ kk => gx_xald (j := i + 3) dL_law_589 (ix_3 i) (by omega) (by omega) kk) ?_
  refine gy_st (f := fun _ kk => gx_callV cmX12_deal lkL_59 imX12_deal seX12_deal ⟨rfl, by decide⟩ dL_law_590 (d1 := 100) (by omega) (gt_247 G1) k2 rfl rfl (Nat.le_of_ble_eq_true rfl) kk) ?_
  exact gy_eq 1194 dL_law_593 rfl (K H2 R2 c2 s2)
theorem la_10 (E : gE) {b n i : Nat} {f : Nat → Int32} (hn : n < 4000) (hi : i + 7 ≤ n) {H : hp_T} (R : rel9 H) {Q : hp_T → Prop} (K : ∀ H2, rel9 H2 → hp_n H2 ≤ hp_n H + 4 → hp_s H2 ≤ hp_s H + 700 → gy (scX E b n f) E mL9 200 1194 [(0, .ref b), (1, .ref (E.1 + 0)), (2, .ref (E.1 + 247)), (3, .int (nI i))] [] H2 (some (.int 1)) Q) : gy (scX E b n f) E mL9 200 598 [(0, .ref b), (1, .ref (E.1 + 0)), (2, .ref (E.1 + 247)), (3, .int (nI i))] [] H (some (.int 1)) Q := by
  have G : gr H := rel_gr R
  obtain ⟨v, H1, H2, k1, k2, R2, c2, s2, hv, G1⟩ := cal_terms E R (f (i + 1))
  obtain ⟨x, rfl⟩ := hv.2 (by decide)
  refine gy_st (f := fun _ kk => gx_aload_n 1 dL_law_598 rfl rfl kk) ?_
  refine gy_st (f := fun _ kk => gx_aload_n 0 dL_law_599 rfl rfl kk) ?_
  refine gy_st (f := fun _ kk => gx_iload_n 3 dL_law_600 rfl rfl kk) ?_
  refine gy_st (f := fun _ kk => gx_iconst (1) dL_law_601 rfl kk) ?_
  refine gy_st (f := fun _ kk => gx_iadd dL_law_602 kk) ?_
  refine gy_st (f := fun _ kk => gx_xald (j := i + 1) dL_law_603 (ix_1 i) (by omega) (by omega) kk) ?_
  refine gy_st (f := fun _ kk => gx_callV cmX11_terms lkL_60 imX11_terms seX11_terms ⟨rfl, by decide⟩ dL_law_604 (d1 := 100) (by omega) (gt_0 G) k1 rfl rfl (Nat.le_of_ble_eq_true rfl) kk) ?_
  refine gy_st (f := fun _ kk => gx_aload_n 2 dL_law_607 rfl rfl kk) ?_
  refine gy_st (f := fun _ kk => gx_aload_n 0 dL_law_608 rfl rfl kk) ?_
  refine gy_st (f := fun _ kk => gx_iload_n 3 dL_law_609 rfl rfl kk) ?_
  refine gy_st (f := fun _ kk => gx_iconst (1) dL_law_610 rfl kk) ?_
  refine gy_st (f := fun _ kk => gx_iadd dL_law_611 kk) ?_
  refine gy_st (f := fun _ kk => gx_xald (j := i + 1) dL_law_612 (ix_1 i) (by omega) (by omega) kk) ?_
  refine gy_st (f := fun _ kk => gx_callV cmX12_terms lkL_64 imX12_terms seX12_terms ⟨rfl, by decide⟩ dL_law_613 (d1 := 100) (by omega) (gt_247 G1) k2 rfl rfl (Nat.le_of_ble_eq_true rfl) kk) ?_
  exact gy_eq 1194 dL_law_616 rfl (K H2 R2 c2 s2)
theorem la_11 (E : gE) {b n i : Nat} {f : Nat → Int32} (hn : n < 4000) (hi : i + 7 ≤ n) {H : hp_T} (R : rel9 H) {Q : hp_T → Prop} (K : ∀ H2, rel9 H2 → hp_n H2 ≤ hp_n H + 4 → hp_s H2 ≤ hp_s H + 700 → gy (scX E b n f) E mL9 200 1194 [(0, .ref b), (1, .ref (E.1 + 0)), (2, .ref (E.1 + 247)), (3, .int (nI i))] [] H2 (some (.int 1)) Q) : gy (scX E b n f) E mL9 200 621 [(0, .ref b), (1, .ref (E.1 + 0)), (2, .ref (E.1 + 247)), (3, .int (nI i))] [] H (some (.int 1)) Q := by
  have G : gr H := rel_gr R
  obtain ⟨v, H1, H2, k1, k2, R2, c2, s2, hv, G1⟩ := cal_fault E R (f (i + 1))
  obtain ⟨x, rfl⟩ := hv.2 (by decide)
  refine gy_st (f := fun _ kk => gx_aload_n 1 dL_law_621 rfl rfl kk) ?_
  refine gy_st (f := fun _ kk => gx_aload_n 0 dL_law_622 rfl rfl kk) ?_
  refine gy_st (f := fun _ kk => gx_iload_n 3 dL_law_623 rfl rfl kk) ?_
  refine gy_st (f := fun _ kk => gx_iconst (1) dL_law_624 rfl kk) ?_
  refine gy_st (f := fun _ kk => gx_iadd dL_law_625 kk) ?_
  refine gy_st (f := fun _ kk => gx_xald (j := i + 1) dL_law_626 (ix_1 i) (by omega) (by omega) kk) ?_
  refine gy_st (f := fun _ kk => gx_callV cmX11_fault lkL_65 imX11_fault seX11_fault ⟨rfl, by decide⟩ dL_law_627 (d1 := 100) (by omega) (gt_0 G) k1 rfl rfl (Nat.le_of_ble_eq_true rfl) kk) ?_
  refine gy_st (f := fun _ kk => gx_aload_n 2 dL_law_630 rfl rfl kk) ?_
  refine gy_st (f := fun _ kk => gx_aload_n 0 dL_law_631 rfl rfl kk) ?_
  refine gy_st (f := fun _ kk => gx_iload_n 3 dL_law_632 rfl rfl kk) ?_
  refine gy_st (f := fun _ kk => gx_iconst (1) dL_law_633 rfl kk) ?_
  refine gy_st (f := fun _ kk => gx_iadd dL_law_634 kk) ?_
  refine gy_st (f := fun _ kk => gx_xald (j := i + 1) dL_law_635 (ix_1 i) (by omega) (by omega) kk) ?_
  refine gy_st (f := fun _ kk => gx_callV cmX12_fault lkL_68 imX12_fault seX12_fault ⟨rfl, by decide⟩ dL_law_636 (d1 := 100) (by omega) (gt_247 G1) k2 rfl rfl (Nat.le_of_ble_eq_true rfl) kk) ?_
  exact gy_eq 1194 dL_law_639 rfl (K H2 R2 c2 s2)
theorem la_12 (E : gE) {b n i : Nat} {f : Nat → Int32} (hn : n < 4000) (hi : i + 7 ≤ n) {H : hp_T} (R : rel9 H) {Q : hp_T → Prop} (K : ∀ H2, rel9 H2 → hp_n H2 ≤ hp_n H + 4 → hp_s H2 ≤ hp_s H + 700 → gy (scX E b n f) E mL9 200 1194 [(0, .ref b), (1, .ref (E.1 + 0)), (2, .ref (E.1 + 247)), (3, .int (nI i))] [] H2 (some (.int 1)) Q) : gy (scX E b n f) E mL9 200 644 [(0, .ref b), (1, .ref (E.1 + 0)), (2, .ref (E.1 + 247)), (3, .int (nI i))] [] H (some (.int 1)) Q := by
  have G : gr H := rel_gr R
  obtain ⟨v, H1, H2, k1, k2, R2, c2, s2, hv, G1⟩ := cal_policy E R (f (i + 1)) (f (i + 2)) (f (i + 3))
  obtain ⟨x, rfl⟩ := hv.2 (by decide)
  refine gy_st (f := fun _ kk => gx_aload_n 1 dL_law_644 rfl rfl kk) ?_
  refine gy_st (f := fun _ kk => gx_aload_n 0 dL_law_645 rfl rfl kk) ?_
  refine gy_st (f := fun _ kk => gx_iload_n 3 dL_law_646 rfl rfl kk) ?_
  refine gy_st (f := fun _ kk => gx_iconst (1) dL_law_647 rfl kk) ?_
  refine gy_st (f := fun _ kk => gx_iadd dL_law_648 kk) ?_
  refine gy_st (f := fun _ kk => gx_xald (j := i + 1) dL_law_649 (ix_1 i) (by omega) (by omega) kk) ?_
  refine gy_st (f := fun _ kk => gx_aload_n 0 dL_law_650 rfl rfl kk) ?_
  refine gy_st (f := fun _ kk => gx_iload_n 3 dL_law_651 rfl rfl kk) ?_
  refine gy_st (f := fun _ kk => gx_iconst (2) dL_law_652 rfl kk) ?_
  refine gy_st (f := fun _ kk => gx_iadd dL_law_653 kk) ?_
  refine gy_st (f := fun _ kk => gx_xald (j := i + 2) dL_law_654 (ix_2 i) (by omega) (by omega) kk) ?_
  refine gy_st (f := fun _ kk => gx_aload_n 0 dL_law_655 rfl rfl kk) ?_
  refine gy_st (f := fun _ kk => gx_iload_n 3 dL_law_656 rfl rfl kk) ?_
  refine gy_st (f := fun _ kk => gx_iconst (3) dL_law_657 rfl kk) ?_
  refine gy_st (f := fun _ kk => gx_iadd dL_law_658 kk) ?_
  refine gy_st (f := fun _ kk => gx_xald (j := i + 3) dL_law_659 (ix_3 i) (by omega) (by omega) kk) ?_
  refine gy_st (f := fun _ kk => gx_callV cmX11_policy lkL_69 imX11_policy seX11_policy ⟨rfl, by decide⟩ dL_law_660 (d1 := 100) (by omega) (gt_0 G) k1 rfl rfl (Nat.le_of_ble_eq_true rfl) kk) ?_
  refine gy_st (f := fun _ kk => gx_aload_n 2 dL_law_663 rfl rfl kk) ?_
  refine gy_st (f := fun _ kk => gx_aload_n 0 dL_law_664 rfl rfl kk) ?_
  refine gy_st (f := fun _ kk => gx_iload_n 3 dL_law_665 rfl rfl kk) ?_
  refine gy_st (f := fun _ kk => gx_iconst (1) dL_law_666 rfl kk) ?_
  refine gy_st (f := fun _ kk => gx_iadd dL_law_667 kk) ?_
  refine gy_st (f := fun _ kk => gx_xald (j := i + 1) dL_law_668 (ix_1 i) (by omega) (by omega) kk) ?_
  refine gy_st (f := fun _ kk => gx_aload_n 0 dL_law_669 rfl rfl kk) ?_
  refine gy_st (f := fun _ kk => gx_iload_n 3 dL_law_670 rfl rfl kk) ?_
  refine gy_st (f := fun _ kk => gx_iconst (2) dL_law_671 rfl kk) ?_
  refine gy_st (f := fun _ kk => gx_iadd dL_law_672 kk) ?_
  refine gy_st (f := fun _ kk => gx_xald (j := i + 2) dL_law_673 (ix_2 i) (by omega) (by omega) kk) ?_
  refine gy_st (f := fun _ kk => gx_aload_n 0 dL_law_674 rfl rfl kk) ?_
  refine gy_st (f := fun _ kk => gx_iload_n 3 dL_law_675 rfl rfl kk) ?_
  refine gy_st (f := fun _ kk => gx_iconst (3) dL_law_676 rfl kk) ?_
  refine gy_st (f := fun _ kk => gx_iadd dL_law_677 kk) ?_
  refine gy_st (f := fun _ kk => gx_xald (j := i + 3) dL_law_678 (ix_3 i) (by omega) (by omega) kk) ?_
  refine gy_st (f := fun _ kk => gx_callV cmX12_policy lkL_73 imX12_policy seX12_policy ⟨rfl, by decide⟩ dL_law_679 (d1 := 100) (by omega) (gt_247 G1) k2 rfl rfl (Nat.le_of_ble_eq_true rfl) kk) ?_
  exact gy_eq 1194 dL_law_682 rfl (K H2 R2 c2 s2)
theorem la_13 (E : gE) {b n i : Nat} {f : Nat → Int32} (hn : n < 4000) (hi : i + 7 ≤ n) {H : hp_T} (R : rel9 H) {Q : hp_T → Prop} (K : ∀ H2, rel9 H2 → hp_n H2 ≤ hp_n H + 4 → hp_s H2 ≤ hp_s H + 700 → gy (scX E b n f) E mL9 200 1194 [(0, .ref b), (1, .ref (E.1 + 0)), (2, .ref (E.1 + 247)), (3, .int (nI i))] [] H2 (some (.int 1)) Q) : gy (scX E b n f) E mL9 200 687 [(0, .ref b), (1, .ref (E.1 + 0)), (2, .ref (E.1 + 247)), (3, .int (nI i))] [] H (some (.int 1)) Q := by
  have G : gr H := rel_gr R
  obtain ⟨v, H1, H2, k1, k2, R2, c2, s2, hv, G1⟩ := cal_annul E R (f (i + 1))
  obtain ⟨x, rfl⟩ := hv.2 (by decide)
  refine gy_st (f := fun _ kk => gx_aload_n 1 dL_law_687 rfl rfl kk) ?_
  refine gy_st (f := fun _ kk => gx_aload_n 0 dL_law_688 rfl rfl kk) ?_
  refine gy_st (f := fun _ kk => gx_iload_n 3 dL_law_689 rfl rfl kk) ?_
  refine gy_st (f := fun _ kk => gx_iconst (1) dL_law_690 rfl kk) ?_
  refine gy_st (f := fun _ kk => gx_iadd dL_law_691 kk) ?_
  refine gy_st (f := fun _ kk => gx_xald (j := i + 1) dL_law_692 (ix_1 i) (by omega) (by omega) kk) ?_
  refine gy_st (f := fun _ kk => gx_callV cmX11_annul lkL_74 imX11_annul seX11_annul ⟨rfl, by decide⟩ dL_law_693 (d1 := 100) (by omega) (gt_0 G) k1 rfl rfl (Nat.le_of_ble_eq_true rfl) kk) ?_
  refine gy_st (f := fun _ kk => gx_aload_n 2 dL_law_696 rfl rfl kk) ?_
  refine gy_st (f := fun _ kk => gx_aload_n 0 dL_law_697 rfl rfl kk) ?_
  refine gy_st (f := fun _ kk => gx_iload_n 3 dL_law_698 rfl rfl kk) ?_
  refine gy_st (f := fun _ kk => gx_iconst (1) dL_law_699 rfl kk) ?_
  refine gy_st (f := fun _ kk => gx_iadd dL_law_700 kk) ?_
  refine gy_st (f := fun _ kk => gx_xald (j := i + 1) dL_law_701 (ix_1 i) (by omega) (by omega) kk) ?_
  refine gy_st (f := fun _ kk => gx_callV cmX12_annul lkL_77 imX12_annul seX12_annul ⟨rfl, by decide⟩ dL_law_702 (d1 := 100) (by omega) (gt_247 G1) k2 rfl rfl (Nat.le_of_ble_eq_true rfl) kk) ?_
  exact gy_eq 1194 dL_law_705 rfl (K H2 R2 c2 s2)
theorem la_14 (E : gE) {b n i : Nat} {f : Nat → Int32} (hn : n < 4000) (hi : i + 7 ≤ n) {H : hp_T} (R : rel9 H) {Q : hp_T → Prop} (K : ∀ H2, rel9 H2 → hp_n H2 ≤ hp_n H + 4 → hp_s H2 ≤ hp_s H + 700 → gy (scX E b n f) E mL9 200 1194 [(0, .ref b), (1, .ref (E.1 + 0)), (2, .ref (E.1 + 247)), (3, .int (nI i))] [] H2 (some (.int 1)) Q) : gy (scX E b n f) E mL9 200 710 [(0, .ref b), (1, .ref (E.1 + 0)), (2, .ref (E.1 + 247)), (3, .int (nI i))] [] H (some (.int 1)) Q := by
  have G : gr H := rel_gr R
  obtain ⟨v, H1, H2, k1, k2, R2, c2, s2, hv, G1⟩ := cal_as E R (f (i + 1))
  obtain ⟨x, rfl⟩ := hv.2 (by decide)
  refine gy_st (f := fun _ kk => gx_aload_n 1 dL_law_710 rfl rfl kk) ?_
  refine gy_st (f := fun _ kk => gx_aload_n 0 dL_law_711 rfl rfl kk) ?_
  refine gy_st (f := fun _ kk => gx_iload_n 3 dL_law_712 rfl rfl kk) ?_
  refine gy_st (f := fun _ kk => gx_iconst (1) dL_law_713 rfl kk) ?_
  refine gy_st (f := fun _ kk => gx_iadd dL_law_714 kk) ?_
  refine gy_st (f := fun _ kk => gx_xald (j := i + 1) dL_law_715 (ix_1 i) (by omega) (by omega) kk) ?_
  refine gy_st (f := fun _ kk => gx_callV cmX11_as lkL_78 imX11_as seX11_as ⟨rfl, by decide⟩ dL_law_716 (d1 := 100) (by omega) (gt_0 G) k1 rfl rfl (Nat.le_of_ble_eq_true rfl) kk) ?_
  refine gy_st (f := fun _ kk => gx_aload_n 2 dL_law_719 rfl rfl kk) ?_
  refine gy_st (f := fun _ kk => gx_aload_n 0 dL_law_720 rfl rfl kk) ?_
  refine gy_st (f := fun _ kk => gx_iload_n 3 dL_law_721 rfl rfl kk) ?_
  refine gy_st (f := fun _ kk => gx_iconst (1) dL_law_722 rfl kk) ?_
  refine gy_st (f := fun _ kk => gx_iadd dL_law_723 kk) ?_
  refine gy_st (f := fun _ kk => gx_xald (j := i + 1) dL_law_724 (ix_1 i) (by omega) (by omega) kk) ?_
  refine gy_st (f := fun _ kk => gx_callV cmX12_as lkL_81 imX12_as seX12_as ⟨rfl, by decide⟩ dL_law_725 (d1 := 100) (by omega) (gt_247 G1) k2 rfl rfl (Nat.le_of_ble_eq_true rfl) kk) ?_
  exact gy_eq 1194 dL_law_728 rfl (K H2 R2 c2 s2)
theorem la_15 (E : gE) {b n i : Nat} {f : Nat → Int32} (hn : n < 4000) (hi : i + 7 ≤ n) {H : hp_T} (R : rel9 H) {Q : hp_T → Prop} (K : ∀ H2, rel9 H2 → hp_n H2 ≤ hp_n H + 4 → hp_s H2 ≤ hp_s H + 700 → gy (scX E b n f) E mL9 200 1194 [(0, .ref b), (1, .ref (E.1 + 0)), (2, .ref (E.1 + 247)), (3, .int (nI i))] [] H2 (some (.int 1)) Q) : gy (scX E b n f) E mL9 200 733 [(0, .ref b), (1, .ref (E.1 + 0)), (2, .ref (E.1 + 247)), (3, .int (nI i))] [] H (some (.int 1)) Q := by
  have G : gr H := rel_gr R
  obtain ⟨v, H1, H2, k1, k2, R2, c2, s2, hv, G1⟩ := cal_force E R (f (i + 1))
  obtain ⟨x, rfl⟩ := hv.2 (by decide)
  refine gy_st (f := fun _ kk => gx_aload_n 1 dL_law_733 rfl rfl kk) ?_
  refine gy_st (f := fun _ kk => gx_aload_n 0 dL_law_734 rfl rfl kk) ?_
  refine gy_st (f := fun _ kk => gx_iload_n 3 dL_law_735 rfl rfl kk) ?_
  refine gy_st (f := fun _ kk => gx_iconst (1) dL_law_736 rfl kk) ?_
  refine gy_st (f := fun _ kk => gx_iadd dL_law_737 kk) ?_
  refine gy_st (f := fun _ kk => gx_xald (j := i + 1) dL_law_738 (ix_1 i) (by omega) (by omega) kk) ?_
  refine gy_st (f := fun _ kk => gx_callV cmX11_force lkL_82 imX11_force seX11_force ⟨rfl, by decide⟩ dL_law_739 (d1 := 100) (by omega) (gt_0 G) k1 rfl rfl (Nat.le_of_ble_eq_true rfl) kk) ?_
  refine gy_st (f := fun _ kk => gx_aload_n 2 dL_law_742 rfl rfl kk) ?_
  refine gy_st (f := fun _ kk => gx_aload_n 0 dL_law_743 rfl rfl kk) ?_
  refine gy_st (f := fun _ kk => gx_iload_n 3 dL_law_744 rfl rfl kk) ?_
  refine gy_st (f := fun _ kk => gx_iconst (1) dL_law_745 rfl kk) ?_
  refine gy_st (f := fun _ kk => gx_iadd dL_law_746 kk) ?_
  refine gy_st (f := fun _ kk => gx_xald (j := i + 1) dL_law_747 (ix_1 i) (by omega) (by omega) kk) ?_
  refine gy_st (f := fun _ kk => gx_callV cmX12_force lkL_85 imX12_force seX12_force ⟨rfl, by decide⟩ dL_law_748 (d1 := 100) (by omega) (gt_247 G1) k2 rfl rfl (Nat.le_of_ble_eq_true rfl) kk) ?_
  exact gy_eq 1194 dL_law_751 rfl (K H2 R2 c2 s2)
theorem la_16 (E : gE) {b n i : Nat} {f : Nat → Int32} (hn : n < 4000) (hi : i + 7 ≤ n) {H : hp_T} (R : rel9 H) {Q : hp_T → Prop} (K : ∀ H2, rel9 H2 → hp_n H2 ≤ hp_n H + 4 → hp_s H2 ≤ hp_s H + 700 → gy (scX E b n f) E mL9 200 1194 [(0, .ref b), (1, .ref (E.1 + 0)), (2, .ref (E.1 + 247)), (3, .int (nI i))] [] H2 (some (.int 1)) Q) : gy (scX E b n f) E mL9 200 756 [(0, .ref b), (1, .ref (E.1 + 0)), (2, .ref (E.1 + 247)), (3, .int (nI i))] [] H (some (.int 1)) Q := by
  have G : gr H := rel_gr R
  obtain ⟨v, H1, H2, k1, k2, R2, c2, s2, hv, G1⟩ := cal_premium E R (f (i + 1))
  obtain ⟨x, rfl⟩ := hv.2 (by decide)
  refine gy_st (f := fun _ kk => gx_aload_n 1 dL_law_756 rfl rfl kk) ?_
  refine gy_st (f := fun _ kk => gx_aload_n 0 dL_law_757 rfl rfl kk) ?_
  refine gy_st (f := fun _ kk => gx_iload_n 3 dL_law_758 rfl rfl kk) ?_
  refine gy_st (f := fun _ kk => gx_iconst (1) dL_law_759 rfl kk) ?_
  refine gy_st (f := fun _ kk => gx_iadd dL_law_760 kk) ?_
  refine gy_st (f := fun _ kk => gx_xald (j := i + 1) dL_law_761 (ix_1 i) (by omega) (by omega) kk) ?_
  refine gy_st (f := fun _ kk => gx_callV cmX11_premium lkL_86 imX11_premium seX11_premium ⟨rfl, by decide⟩ dL_law_762 (d1 := 100) (by omega) (gt_0 G) k1 rfl rfl (Nat.le_of_ble_eq_true rfl) kk) ?_
  refine gy_st (f := fun _ kk => gx_aload_n 2 dL_law_765 rfl rfl kk) ?_
  refine gy_st (f := fun _ kk => gx_aload_n 0 dL_law_766 rfl rfl kk) ?_
  refine gy_st (f := fun _ kk => gx_iload_n 3 dL_law_767 rfl rfl kk) ?_
  refine gy_st (f := fun _ kk => gx_iconst (1) dL_law_768 rfl kk) ?_
  refine gy_st (f := fun _ kk => gx_iadd dL_law_769 kk) ?_
  refine gy_st (f := fun _ kk => gx_xald (j := i + 1) dL_law_770 (ix_1 i) (by omega) (by omega) kk) ?_
  refine gy_st (f := fun _ kk => gx_callV cmX12_premium lkL_89 imX12_premium seX12_premium ⟨rfl, by decide⟩ dL_law_771 (d1 := 100) (by omega) (gt_247 G1) k2 rfl rfl (Nat.le_of_ble_eq_true rfl) kk) ?_
  exact gy_eq 1194 dL_law_774 rfl (K H2 R2 c2 s2)
theorem la_17 (E : gE) {b n i : Nat} {f : Nat → Int32} (hn : n < 4000) (hi : i + 7 ≤ n) {H : hp_T} (R : rel9 H) {Q : hp_T → Prop} (K : ∀ H2, rel9 H2 → hp_n H2 ≤ hp_n H + 4 → hp_s H2 ≤ hp_s H + 700 → gy (scX E b n f) E mL9 200 1194 [(0, .ref b), (1, .ref (E.1 + 0)), (2, .ref (E.1 + 247)), (3, .int (nI i))] [] H2 (some (.int 1)) Q) : gy (scX E b n f) E mL9 200 779 [(0, .ref b), (1, .ref (E.1 + 0)), (2, .ref (E.1 + 247)), (3, .int (nI i))] [] H (some (.int 1)) Q := by
  have G : gr H := rel_gr R
  obtain ⟨v, H1, H2, k1, k2, R2, c2, s2, hv, G1⟩ := cal_helps E R (f (i + 1))
  obtain ⟨x, rfl⟩ := hv.2 (by decide)
  refine gy_st (f := fun _ kk => gx_aload_n 1 dL_law_779 rfl rfl kk) ?_
  refine gy_st (f := fun _ kk => gx_aload_n 0 dL_law_780 rfl rfl kk) ?_
  refine gy_st (f := fun _ kk => gx_iload_n 3 dL_law_781 rfl rfl kk) ?_
  refine gy_st (f := fun _ kk => gx_iconst (1) dL_law_782 rfl kk) ?_
  refine gy_st (f := fun _ kk => gx_iadd dL_law_783 kk) ?_
  refine gy_st (f := fun _ kk => gx_xald (j := i + 1) dL_law_784 (ix_1 i) (by omega) (by omega) kk) ?_
  refine gy_st (f := fun _ kk => gx_callV cmX11_helps lkL_90 imX11_helps seX11_helps ⟨rfl, by decide⟩ dL_law_785 (d1 := 100) (by omega) (gt_0 G) k1 rfl rfl (Nat.le_of_ble_eq_true rfl) kk) ?_
  refine gy_st (f := fun _ kk => gx_aload_n 2 dL_law_788 rfl rfl kk) ?_
  refine gy_st (f := fun _ kk => gx_aload_n 0 dL_law_789 rfl rfl kk) ?_
  refine gy_st (f := fun _ kk => gx_iload_n 3 dL_law_790 rfl rfl kk) ?_
  refine gy_st (f := fun _ kk => gx_iconst (1) dL_law_791 rfl kk) ?_
  refine gy_st (f := fun _ kk => gx_iadd dL_law_792 kk) ?_
  refine gy_st (f := fun _ kk => gx_xald (j := i + 1) dL_law_793 (ix_1 i) (by omega) (by omega) kk) ?_
  refine gy_st (f := fun _ kk => gx_callV cmX12_helps lkL_93 imX12_helps seX12_helps ⟨rfl, by decide⟩ dL_law_794 (d1 := 100) (by omega) (gt_247 G1) k2 rfl rfl (Nat.le_of_ble_eq_true rfl) kk) ?_
  exact gy_eq 1194 dL_law_797 rfl (K H2 R2 c2 s2)
theorem la_18 (E : gE) {b n i : Nat} {f : Nat → Int32} (hn : n < 4000) (hi : i + 7 ≤ n) {H : hp_T} (R : rel9 H) {Q : hp_T → Prop} (K : ∀ H2, rel9 H2 → hp_n H2 ≤ hp_n H + 4 → hp_s H2 ≤ hp_s H + 700 → gy (scX E b n f) E mL9 200 1194 [(0, .ref b), (1, .ref (E.1 + 0)), (2, .ref (E.1 + 247)), (3, .int (nI i))] [] H2 (some (.int 1)) Q) : gy (scX E b n f) E mL9 200 802 [(0, .ref b), (1, .ref (E.1 + 0)), (2, .ref (E.1 + 247)), (3, .int (nI i))] [] H (some (.int 1)) Q := by
  have G : gr H := rel_gr R
  obtain ⟨v, H1, H2, k1, k2, R2, c2, s2, hv, G1⟩ := cal_run E R (f (i + 1)) (f (i + 2))
  obtain ⟨x, rfl⟩ := hv.2 (by decide)
  refine gy_st (f := fun _ kk => gx_aload_n 1 dL_law_802 rfl rfl kk) ?_
  refine gy_st (f := fun _ kk => gx_aload_n 0 dL_law_803 rfl rfl kk) ?_
  refine gy_st (f := fun _ kk => gx_iload_n 3 dL_law_804 rfl rfl kk) ?_
  refine gy_st (f := fun _ kk => gx_iconst (1) dL_law_805 rfl kk) ?_
  refine gy_st (f := fun _ kk => gx_iadd dL_law_806 kk) ?_
  refine gy_st (f := fun _ kk => gx_xald (j := i + 1) dL_law_807 (ix_1 i) (by omega) (by omega) kk) ?_
  refine gy_st (f := fun _ kk => gx_aload_n 0 dL_law_808 rfl rfl kk) ?_
  refine gy_st (f := fun _ kk => gx_iload_n 3 dL_law_809 rfl rfl kk) ?_
  refine gy_st (f := fun _ kk => gx_iconst (2) dL_law_810 rfl kk) ?_
  refine gy_st (f := fun _ kk => gx_iadd dL_law_811 kk) ?_
  refine gy_st (f := fun _ kk => gx_xald (j := i + 2) dL_law_812 (ix_2 i) (by omega) (by omega) kk) ?_
  refine gy_st (f := fun _ kk => gx_callV cmX11_run lkL_94 imX11_run seX11_run ⟨rfl, by decide⟩ dL_law_813 (d1 := 100) (by omega) (gt_0 G) k1 rfl rfl (Nat.le_of_ble_eq_true rfl) kk) ?_
  refine gy_st (f := fun _ kk => gx_aload_n 2 dL_law_816 rfl rfl kk) ?_
  refine gy_st (f := fun _ kk => gx_aload_n 0 dL_law_817 rfl rfl kk) ?_
  refine gy_st (f := fun _ kk => gx_iload_n 3 dL_law_818 rfl rfl kk) ?_
  refine gy_st (f := fun _ kk => gx_iconst (1) dL_law_819 rfl kk) ?_
  refine gy_st (f := fun _ kk => gx_iadd dL_law_820 kk) ?_
  refine gy_st (f := fun _ kk => gx_xald (j := i + 1) dL_law_821 (ix_1 i) (by omega) (by omega) kk) ?_
  refine gy_st (f := fun _ kk => gx_aload_n 0 dL_law_822 rfl rfl kk) ?_
  refine gy_st (f := fun _ kk => gx_iload_n 3 dL_law_823 rfl rfl kk) ?_
  refine gy_st (f := fun _ kk => gx_iconst (2) dL_law_824 rfl kk) ?_
  refine gy_st (f := fun _ kk => gx_iadd dL_law_825 kk) ?_
  refine gy_st (f := fun _ kk => gx_xald (j := i + 2) dL_law_826 (ix_2 i) (by omega) (by omega) kk) ?_
  refine gy_st (f := fun _ kk => gx_callV cmX12_run lkL_98 imX12_run seX12_run ⟨rfl, by decide⟩ dL_law_827 (d1 := 100) (by omega) (gt_247 G1) k2 rfl rfl (Nat.le_of_ble_eq_true rfl) kk) ?_
  exact gy_eq 1194 dL_law_830 rfl (K H2 R2 c2 s2)
