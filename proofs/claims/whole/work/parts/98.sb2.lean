/-! ===== class against reference: one joining of two values ===== -/
theorem i64_32 {v : Int64} (h1 : ¬ 1000000000 < v) (h2 : ¬ v < -1000000000) : v.toInt32.toInt64 = v := by
  rw [fa_lt64, show (1000000000 : Int64).toInt = 1000000000 by decide] at h1
  rw [fa_lt64, show (-1000000000 : Int64).toInt = -1000000000 by decide] at h2
  rw [fa_eq64, Int32.toInt_toInt64, Int64.toInt_toInt32]
  exact Int.bmod_eq_of_le (by omega) (by omega)
theorem clp_e (v : Int64) : (clpV v).toInt64 = mcl v := by
  unfold clpV mcl
  split
  · decide
  · split
    · decide
    · rename_i h1 h2
      exact i64_32 h1 h2
/-- a value within its bounds -/
abbrev vbd (x : Int32) : Prop := -1000000000 ≤ x.toInt ∧ x.toInt ≤ 1000000000
theorem clp_bd (v : Int64) : vbd (clpV v) := by
  unfold clpV vbd
  split
  · decide
  · split
    · decide
    · rename_i h1 h2
      have h := i64_32 h1 h2
      rw [fa_lt64, show (1000000000 : Int64).toInt = 1000000000 by decide] at h1
      rw [fa_lt64, show (-1000000000 : Int64).toInt = -1000000000 by decide] at h2
      have e : v.toInt32.toInt = v.toInt := by rw [← Int32.toInt_toInt64, h]
      rw [e]
      omega
theorem clp_id {x : Int32} (h : vbd x) : clpV x.toInt64 = x := by
  have hb := h
  unfold clpV
  rw [if_neg (show ¬ (1000000000 : Int64) < x.toInt64 from fun z => by rw [fa_lt64, Int32.toInt_toInt64, show (1000000000 : Int64).toInt = 1000000000 by decide] at z; omega), if_neg (show ¬ x.toInt64 < -1000000000 from fun z => by rw [fa_lt64, Int32.toInt_toInt64, show (-1000000000 : Int64).toInt = -1000000000 by decide] at z; omega)]
  rw [fa_eq, Int64.toInt_toInt32, Int32.toInt_toInt64]
  exact Int.bmod_eq_of_le (by omega) (by omega)
theorem jnV_7 (x y : Int32) : jnV 7 x y = if x < y then x.toInt64 else y.toInt64 := by
  unfold jnV
  rw [if_pos rfl]
theorem jnV_8 (x y : Int32) : jnV 8 x y = if y < x then x.toInt64 else y.toInt64 := by
  unfold jnV
  rw [if_neg (by decide), if_pos rfl]
theorem jnV_12 (x y : Int32) : jnV 12 x y = (x &&& y).toInt64 := by
  unfold jnV
  rw [if_neg (by decide), if_neg (by decide), if_pos rfl]
theorem jnV_42 (x y : Int32) : jnV 42 x y = x.toInt64 * y.toInt64 := by
  unfold jnV
  rw [if_neg (by decide), if_neg (by decide), if_neg (by decide), if_pos rfl]
theorem jnV_43 (x y : Int32) : jnV 43 x y = x.toInt64 + y.toInt64 := by
  unfold jnV
  rw [if_neg (by decide), if_neg (by decide), if_neg (by decide), if_neg (by decide), if_pos rfl]
theorem jnV_45 (x y : Int32) : jnV 45 x y = x.toInt64 - y.toInt64 := by
  unfold jnV
  rw [if_neg (by decide), if_neg (by decide), if_neg (by decide), if_neg (by decide), if_neg (by decide), if_pos rfl]
theorem jnV_47 (x y : Int32) : jnV 47 x y = if y = 0 then 0 else (fdiv x y).toInt64 := by
  unfold jnV
  rw [if_neg (by decide), if_neg (by decide), if_neg (by decide), if_neg (by decide), if_neg (by decide), if_neg (by decide), if_pos rfl]
theorem jnV_60 (x y : Int32) : jnV 60 x y = if x < y then 1 else 0 := by
  unfold jnV
  rw [if_neg (by decide), if_neg (by decide), if_neg (by decide), if_neg (by decide), if_neg (by decide), if_neg (by decide), if_neg (by decide), if_pos rfl]
theorem jnV_61 (x y : Int32) : jnV 61 x y = if x = y then 1 else 0 := by
  unfold jnV
  rw [if_neg (by decide), if_neg (by decide), if_neg (by decide), if_neg (by decide), if_neg (by decide), if_neg (by decide), if_neg (by decide), if_neg (by decide), if_pos rfl]
theorem jnV_62 (x y : Int32) : jnV 62 x y = if y < x then 1 else 0 := by
  unfold jnV
  rw [if_neg (by decide), if_neg (by decide), if_neg (by decide), if_neg (by decide), if_neg (by decide), if_neg (by decide), if_neg (by decide), if_neg (by decide), if_neg (by decide), if_pos rfl]
theorem mjn_1 (a b : Int64) : mjn 1 a b = mcl (a + b) := by
  unfold mjn
  rw [if_pos rfl]
theorem mjn_2 (a b : Int64) : mjn 2 a b = mcl (a - b) := by
  unfold mjn
  rw [if_neg (by decide), if_pos rfl]
theorem mjn_3 (a b : Int64) : mjn 3 a b = mcl (a * b) := by
  unfold mjn
  rw [if_neg (by decide), if_neg (by decide), if_pos rfl]
theorem mjn_4 (a b : Int64) : mjn 4 a b = mfl a b := by
  unfold mjn
  rw [if_neg (by decide), if_neg (by decide), if_neg (by decide), if_pos rfl]
theorem mjn_5 (a b : Int64) : mjn 5 a b = if a < b then a else b := by
  unfold mjn
  rw [if_neg (by decide), if_neg (by decide), if_neg (by decide), if_neg (by decide), if_pos rfl]
theorem mjn_6 (a b : Int64) : mjn 6 a b = if b < a then a else b := by
  unfold mjn
  rw [if_neg (by decide), if_neg (by decide), if_neg (by decide), if_neg (by decide), if_neg (by decide), if_pos rfl]
theorem mjn_11 (a b : Int64) : mjn 11 a b = if a < b then 1 else 0 := by
  unfold mjn
  rw [if_neg (by decide), if_neg (by decide), if_neg (by decide), if_neg (by decide), if_neg (by decide), if_neg (by decide), if_pos rfl]
theorem mjn_12 (a b : Int64) : mjn 12 a b = if b < a then 1 else 0 := by
  unfold mjn
  rw [if_neg (by decide), if_neg (by decide), if_neg (by decide), if_neg (by decide), if_neg (by decide), if_neg (by decide), if_neg (by decide), if_pos rfl]
theorem mjn_13 (a b : Int64) : mjn 13 a b = if a = b then 1 else 0 := by
  unfold mjn
  rw [if_neg (by decide), if_neg (by decide), if_neg (by decide), if_neg (by decide), if_neg (by decide), if_neg (by decide), if_neg (by decide), if_neg (by decide), if_pos rfl]
theorem mjn_14 (a b : Int64) : mjn 14 a b = a * b := by
  unfold mjn
  rw [if_neg (by decide), if_neg (by decide), if_neg (by decide), if_neg (by decide), if_neg (by decide), if_neg (by decide), if_neg (by decide), if_neg (by decide), if_neg (by decide), if_pos rfl]
theorem j_add {x y : Int32} : (clpV (jnV 43 x y)).toInt64 = mjn 1 x.toInt64 y.toInt64 := by rw [jnV_43, mjn_1, clp_e]
theorem j_sub {x y : Int32} : (clpV (jnV 45 x y)).toInt64 = mjn 2 x.toInt64 y.toInt64 := by rw [jnV_45, mjn_2, clp_e]
theorem j_mul {x y : Int32} : (clpV (jnV 42 x y)).toInt64 = mjn 3 x.toInt64 y.toInt64 := by rw [jnV_42, mjn_3, clp_e]
theorem j_min {x y : Int32} (hx : vbd x) (hy : vbd y) : (clpV (jnV 7 x y)).toInt64 = mjn 5 x.toInt64 y.toInt64 := by
  rw [jnV_7, mjn_5]
  by_cases h : x < y
  · rw [if_pos h, if_pos ((fa_wide_lt x y).mpr h), clp_id hx]
  · rw [if_neg h, if_neg (fun z => h ((fa_wide_lt x y).mp z)), clp_id hy]
theorem j_max {x y : Int32} (hx : vbd x) (hy : vbd y) : (clpV (jnV 8 x y)).toInt64 = mjn 6 x.toInt64 y.toInt64 := by
  rw [jnV_8, mjn_6]
  by_cases h : y < x
  · rw [if_pos h, if_pos ((fa_wide_lt y x).mpr h), clp_id hx]
  · rw [if_neg h, if_neg (fun z => h ((fa_wide_lt y x).mp z)), clp_id hy]
/-- a truth -/
abbrev tbd (x : Int32) : Prop := x = 0 ∨ x = 1
theorem j_lt {x y : Int32} : (clpV (jnV 60 x y)).toInt64 = mjn 11 x.toInt64 y.toInt64 ∧ tbd (clpV (jnV 60 x y)) := by
  rw [jnV_60, mjn_11]
  by_cases h : x < y
  · rw [if_pos h, if_pos ((fa_wide_lt x y).mpr h)]; decide
  · rw [if_neg h, if_neg (fun z => h ((fa_wide_lt x y).mp z))]; decide
theorem j_gt {x y : Int32} : (clpV (jnV 62 x y)).toInt64 = mjn 12 x.toInt64 y.toInt64 ∧ tbd (clpV (jnV 62 x y)) := by
  rw [jnV_62, mjn_12]
  by_cases h : y < x
  · rw [if_pos h, if_pos ((fa_wide_lt y x).mpr h)]; decide
  · rw [if_neg h, if_neg (fun z => h ((fa_wide_lt y x).mp z))]; decide
theorem j_eq {x y : Int32} : (clpV (jnV 61 x y)).toInt64 = mjn 13 x.toInt64 y.toInt64 ∧ tbd (clpV (jnV 61 x y)) := by
  rw [jnV_61, mjn_13]
  by_cases h : x = y
  · rw [if_pos h, if_pos ((fa_wide_eq x y).mpr h)]; decide
  · rw [if_neg h, if_neg (fun z => h ((fa_wide_eq x y).mp z))]; decide
theorem j_and {x y : Int32} (hx : tbd x) (hy : tbd y) : (clpV (jnV 12 x y)).toInt64 = mjn 14 x.toInt64 y.toInt64 ∧ tbd (clpV (jnV 12 x y)) := by
  rcases hx with rfl | rfl <;> rcases hy with rfl | rfl <;> decide
theorem j_or {x y : Int32} (hx : tbd x) (hy : tbd y) : (clpV (jnV 13 x y)).toInt64 = mjn 15 x.toInt64 y.toInt64 ∧ tbd (clpV (jnV 13 x y)) := by
  rcases hx with rfl | rfl <;> rcases hy with rfl | rfl <;> decide
theorem j_not {x : Int32} (hx : tbd x) : (1 - x).toInt64 = 1 - x.toInt64 ∧ tbd (1 - x) := by
  rcases hx with rfl | rfl <;> decide
