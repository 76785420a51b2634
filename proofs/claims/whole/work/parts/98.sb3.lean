/-! ===== class against reference: BY ===== -/
theorem xor_neg (x y : Int32) : x ^^^ y < 0 ↔ ¬ (x < 0 ↔ y < 0) := by
  have h : ∀ z : Int32, z < 0 ↔ z.toBitVec.msb = true := fun z => by
    rw [fa_lt, ti_0, BitVec.msb_eq_toInt, decide_eq_true_iff]
    exact Iff.rfl
  rw [h, h x, h y, Int32.toBitVec_xor, BitVec.msb_xor]
  cases x.toBitVec.msb <;> cases y.toBitVec.msb <;> decide
/-- the quotient, and what it gives back, lie below the dividend -/
theorem td_b (a b : Int) (hb : b ≠ 0) : (a.tdiv b).natAbs * b.natAbs ≤ a.natAbs ∧ (a.tdiv b).natAbs ≤ a.natAbs ∧ (a.tdiv b * b).natAbs ≤ a.natAbs := by
  have e : (a.tdiv b).natAbs = a.natAbs / b.natAbs := Int.natAbs_tdiv a b
  have h1 : (a.tdiv b).natAbs * b.natAbs ≤ a.natAbs := by rw [e]; exact Nat.div_mul_le_self _ _
  refine ⟨h1, by rw [e]; exact Nat.div_le_self _ _, by rw [Int.natAbs_mul]; exact h1⟩
theorem div_e {x y : Int32} (hx : vbd x) (hy : y ≠ 0) : (x / y).toInt = x.toInt.tdiv y.toInt ∧ (x.toInt64 / y.toInt64).toInt = x.toInt.tdiv y.toInt := by
  have hy0 : y.toInt ≠ 0 := fun z => hy ((fa_eq _ _).mpr z)
  have hb := td_b x.toInt y.toInt hy0
  rw [Int32.toInt_div, Int64.toInt_div, Int32.toInt_toInt64, Int32.toInt_toInt64]
  generalize x.toInt.tdiv y.toInt = z at hb ⊢
  have hx1 := hx.1
  have hx2 := hx.2
  exact ⟨Int.bmod_eq_of_le (by omega) (by omega), Int.bmod_eq_of_le (by omega) (by omega)⟩
theorem j_by {x y : Int32} (hx : vbd x) (hv : vbd y) : (clpV (jnV 47 x y)).toInt64 = mjn 4 x.toInt64 y.toInt64 := by
  rw [jnV_47, mjn_4]
  unfold mfl
  by_cases hy : y = 0
  · rw [if_pos hy, if_pos (show y.toInt64 = 0 by rw [hy]; rfl)]
    decide
  · rw [if_neg hy, if_neg (show ¬ y.toInt64 = 0 from fun z => hy ((fa_wide_eq y 0).mp z))]
    obtain ⟨e1, e2⟩ := div_e hx hy
    have hy0 : y.toInt ≠ 0 := fun z => hy ((fa_eq _ _).mpr z)
    have hb := td_b x.toInt y.toInt hy0
    have hx1 := hx.1
    have hx2 := hx.2
    have hm : (x / y * y).toInt = x.toInt.tdiv y.toInt * y.toInt := by
      refine (im_e ?_ ?_).trans (by rw [e1])
      · rw [e1]; omega
      · rw [e1]; omega
    have hm2 : (x.toInt64 / y.toInt64 * y.toInt64).toInt = x.toInt.tdiv y.toInt * y.toInt := by
      rw [Int64.toInt_mul, e2, Int32.toInt_toInt64]
      exact Int.bmod_eq_of_le (by omega) (by omega)
    have hq : (x / y * y = x) ↔ (x.toInt64 - x.toInt64 / y.toInt64 * y.toInt64 = 0) := by
      rw [fa_eq, hm, fa_eq64, Int64.toInt_sub, hm2, Int32.toInt_toInt64, show (0 : Int64).toInt = 0 by decide, Int.bmod_eq_of_le (by omega) (by omega)]
      omega
    have hs : (x ^^^ y < 0) ↔ ¬ (x.toInt64 < 0 ↔ y.toInt64 < 0) := by
      rw [xor_neg, show (x.toInt64 < 0 ↔ x < 0) from fa_wide_lt x 0, show (y.toInt64 < 0 ↔ y < 0) from fa_wide_lt y 0]
    unfold fdiv
    by_cases hc : x ^^^ y < 0 ∧ ¬ x / y * y = x
    · rw [if_pos hc, if_pos ⟨fun z => hc.2 (hq.mpr z), hs.mp hc.1⟩]
      have hB : 2 ≤ y.toInt.natAbs := by
        rcases Nat.lt_or_ge y.toInt.natAbs 2 with w9 | w9
        · exfalso
          refine hc.2 ((fa_eq _ _).mpr ?_)
          rw [hm]
          rcases (show y.toInt = 1 ∨ y.toInt = -1 by omega) with z | z
          · rw [z, Int.tdiv_one]; omega
          · rw [z, Int.tdiv_neg, Int.tdiv_one]; omega
        · exact w9
      have hQ : (x.toInt.tdiv y.toInt).natAbs * 2 ≤ x.toInt.natAbs := Nat.le_trans (Nat.mul_le_mul_left _ hB) hb.1
      have e3 : (x / y - 1).toInt = x.toInt.tdiv y.toInt - 1 := by
        refine (is_e ?_ ?_).trans (by rw [e1]; rfl)
        · rw [e1, ti_1]; omega
        · rw [e1, ti_1]; omega
      rw [clp_id (show vbd (x / y - 1) from ⟨by rw [e3]; omega, by rw [e3]; omega⟩), fa_eq64, Int32.toInt_toInt64, e3, Int64.toInt_sub, e2, show (1 : Int64).toInt = 1 by decide]
      exact (Int.bmod_eq_of_le (by omega) (by omega)).symm
    · rw [if_neg hc, if_neg (fun z => hc ⟨hs.mpr z.2, fun w9 => z.1 (hq.mp w9)⟩), clp_id (show vbd (x / y) from ⟨by rw [e1]; omega, by rw [e1]; omega⟩), fa_eq64, Int32.toInt_toInt64, e1, e2]
