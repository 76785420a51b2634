/-! ===== class against reference: what is asked ===== -/
theorem ask_num {x y : Int32} (hy : 0 ≤ y.toInt) : max0 (if x < y then x else y) = if 0 ≤ lg_cmp x.toInt64 0 then (if 0 ≤ lg_cmp x.toInt64 y.toInt64 then y.toInt64.toInt32 else x.toInt64.toInt32) else (if 0 ≤ lg_cmp 0 y.toInt64 then y.toInt64.toInt32 else Int64.toInt32 0) := by
  have z0 : (0 : Int64).toInt = 0 := by decide
  rw [Int32.toInt32_toInt64, Int32.toInt32_toInt64]
  unfold max0
  by_cases q : 0 ≤ lg_cmp x.toInt64 0
  · rw [if_pos q]
    have hn := nlt_of_lgg q
    rw [fa_lt64, Int32.toInt_toInt64, z0] at hn
    by_cases q2 : 0 ≤ lg_cmp x.toInt64 y.toInt64
    · rw [if_pos q2]
      have hn2 := nlt_of_lgg q2
      rw [fa_lt64, Int32.toInt_toInt64, Int32.toInt_toInt64] at hn2
      rw [if_neg (show ¬ x < y by rw [fa_lt]; omega)]
      by_cases z : 0 < y
      · rw [if_pos z]
      · rw [if_neg z, fa_eq, ti_0]
        rw [fa_lt, ti_0] at z
        omega
    · rw [if_neg q2]
      have hl := lt_of_lgg q2
      rw [fa_lt64, Int32.toInt_toInt64, Int32.toInt_toInt64] at hl
      rw [if_pos (show x < y by rw [fa_lt]; omega)]
      by_cases z : 0 < x
      · rw [if_pos z]
      · rw [if_neg z, fa_eq, ti_0]
        rw [fa_lt, ti_0] at z
        omega
  · rw [if_neg q]
    have hl := lt_of_lgg q
    rw [fa_lt64, Int32.toInt_toInt64, z0] at hl
    rw [if_pos (show x < y by rw [fa_lt]; omega), if_neg (show ¬ 0 < x by rw [fa_lt, ti_0]; omega)]
    by_cases q2 : 0 ≤ lg_cmp 0 y.toInt64
    · rw [if_pos q2]
      have hn2 := nlt_of_lgg q2
      rw [fa_lt64, Int32.toInt_toInt64, z0] at hn2
      rw [fa_eq, ti_0]
      omega
    · rw [if_neg q2]
      decide
