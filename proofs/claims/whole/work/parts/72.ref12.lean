/-! ===== the reference: sumOf ===== -/
def msuR (N : mN) (b : Int32) : Nat → Int64 := if b = 0 then N 83 else N 82
def msuS (N : mN) (b : Int32) (o : Nat) (k : Nat) : Int64 := itN (fun f j => f + msuR N b (10 * o + j)) 0 k
theorem l_X12_sumOf (E : gE) {d : Nat} {o : Nat} (b : Int32) (h : hp_T) (hG : gr h) (M : mM) (N : mN) (ho : o < 9) {v : Option Value} {hz : hp_T} (K : gf E mX12_sumOf d 52 [(0, .ref (E.1 + 247)), (1, .int (nI o)), (2, .int b), (3, .long (msuS N b o ((10 : Nat)))), (5, .int (nI ((10 : Nat))))] [] (hm h M N) v hz) : ∀ (kz jz : Nat), jz + kz = (10 : Nat) → gf E mX12_sumOf d 5 [(0, .ref (E.1 + 247)), (1, .int (nI o)), (2, .int b), (3, .long (msuS N b o (jz))), (5, .int (nI (jz)))] [] (hm h M N) v hz := by
  intro kz
  induction kz with
  | zero =>
    intro jz hj
    have hj : (10 : Nat) = jz := by omega
    subst hj
    refine gf_iload dX12_sumOf_5 rfl ?_
    refine gf_bipush (10) dX12_sumOf_7 rfl ?_
    refine gf_icmp_ge 52 dX12_sumOf_9 rfl (fun _ => ?_) (fun q => absurd (Int32.le_refl _) q)
    exact gf_lw K ⟨rfl, rfl, rfl, rfl, rfl, trivial⟩
  | succ kz ih =>
    intro jz hj
    refine gf_iload dX12_sumOf_5 rfl ?_
    refine gf_bipush (10) dX12_sumOf_7 rfl ?_
    refine gf_icmp_ge 52 dX12_sumOf_9 rfl (fun q => absurd q (nI_ge (b := 10) (by omega) (by omega))) (fun _ => ?_)
    refine gf_lload_n 3 dX12_sumOf_12 rfl rfl ?_
    refine gf_iload_n 2 dX12_sumOf_13 rfl rfl ?_
    refine gf_if_eq 32 dX12_sumOf_14 rfl (fun zc14 => ?_) (fun zc14 => ?_)
    · refine gf_aload_n 0 dX12_sumOf_32 rfl rfl ?_
      refine gf_getR flX12_273 rfl dX12_sumOf_33 (gt_247 hG) (gp_247_109 hG) ?_
      refine gf_bipush (10) dX12_sumOf_36 rfl ?_
      refine gf_iload_n 1 dX12_sumOf_38 rfl rfl ?_
      refine gf_imul dX12_sumOf_39 ?_
      refine gf_iload dX12_sumOf_40 rfl ?_
      refine gf_iadd dX12_sumOf_42 ?_
      refine gf_lald 90 dX12_sumOf_43 (gt_330 hG) (gl_330 hG) (show (10 : Int32) * nI o + nI jz = nI (10 * o + jz) from by rw [show (10 : Int32) * nI o = nI (10 * o) from pk_mul 10 o, nI_add]) (by omega) (by decide) ?_
      refine gf_ladd dX12_sumOf_44 ?_
      refine gf_lstore_n 3 dX12_sumOf_45 rfl (Nat.le_of_ble_eq_true rfl) ?_
      refine gf_iinc (1) dX12_sumOf_46 rfl rfl (Nat.le_of_ble_eq_true rfl) ?_
      refine gf_goto 5 dX12_sumOf_49 rfl ?_
      exact gf_lw (ih (jz + 1) (by omega)) ⟨rfl, rfl, rfl, lvL (show (msuS N b o (jz)) + N 83 (10 * o + jz) = (msuS N b o (jz + 1)) from by show _ = (msuS N b o (jz)) + msuR N b (10 * o + jz); rw [show msuR N b = N 83 from if_pos zc14]), lvE (nI_1 jz), trivial⟩
    · refine gf_aload_n 0 dX12_sumOf_17 rfl rfl ?_
      refine gf_getR flX12_270 rfl dX12_sumOf_18 (gt_247 hG) (gp_247_108 hG) ?_
      refine gf_bipush (10) dX12_sumOf_21 rfl ?_
      refine gf_iload_n 1 dX12_sumOf_23 rfl rfl ?_
      refine gf_imul dX12_sumOf_24 ?_
      refine gf_iload dX12_sumOf_25 rfl ?_
      refine gf_iadd dX12_sumOf_27 ?_
      refine gf_lald 90 dX12_sumOf_28 (gt_329 hG) (gl_329 hG) (show (10 : Int32) * nI o + nI jz = nI (10 * o + jz) from by rw [show (10 : Int32) * nI o = nI (10 * o) from pk_mul 10 o, nI_add]) (by omega) (by decide) ?_
      refine gf_goto 44 dX12_sumOf_29 rfl ?_
      refine gf_ladd dX12_sumOf_44 ?_
      refine gf_lstore_n 3 dX12_sumOf_45 rfl (Nat.le_of_ble_eq_true rfl) ?_
      refine gf_iinc (1) dX12_sumOf_46 rfl rfl (Nat.le_of_ble_eq_true rfl) ?_
      refine gf_goto 5 dX12_sumOf_49 rfl ?_
      exact gf_lw (ih (jz + 1) (by omega)) ⟨rfl, rfl, rfl, lvL (show (msuS N b o (jz)) + N 82 (10 * o + jz) = (msuS N b o (jz + 1)) from by show _ = (msuS N b o (jz)) + msuR N b (10 * o + jz); rw [show msuR N b = N 82 from if_neg zc14]), lvE (nI_1 jz), trivial⟩
theorem e_X12_sumOf (E : gE) {d : Nat} (hd : 0 ≤ d) {o : Nat} (b : Int32) (h : hp_T) (hG : gr h) (M : mM) (N : mN) (ho : o < 9) : ev E mX12_sumOf d [.ref (E.1 + 247), .int (nI o), .int b] (hm h M N) (some (.long (msuS N b o (10)))) (hm h M N) := by
  refine ev_of rfl (fun q => absurd q (by decide)) (Nat.le_of_ble_eq_true rfl) ?_
  refine gf_lconst (0) dX12_sumOf_0 rfl ?_
  refine gf_lstore_n 3 dX12_sumOf_1 rfl (Nat.le_of_ble_eq_true rfl) ?_
  refine gf_iconst (0) dX12_sumOf_2 rfl ?_
  refine gf_istore dX12_sumOf_3 (Nat.le_of_ble_eq_true rfl) ?_
  refine gf_lw (l_X12_sumOf E b h hG M N ho ?_ 10 0 (by omega)) ⟨rfl, rfl, rfl, rfl, rfl, trivial⟩
  refine gf_lload_n 3 dX12_sumOf_52 rfl rfl ?_
  exact gf_lretE dX12_sumOf_53 rfl (rfl) (rfl)
