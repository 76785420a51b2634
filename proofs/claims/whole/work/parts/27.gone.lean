/-! ===== an engine goes and stays in the city ===== -/
theorem ia_e {x y : Int32} (h1 : -2147483648 ≤ x.toInt + y.toInt) (h2 : x.toInt + y.toInt < 2147483648) : (x + y).toInt = x.toInt + y.toInt := by
  rw [Int32.toInt_add, Int.bmod_eq_of_le (by show -(4294967296 / 2) ≤ x.toInt + y.toInt; omega) (by show x.toInt + y.toInt < (4294967296 + 1) / 2; omega)]
theorem is_e {x y : Int32} (h1 : -2147483648 ≤ x.toInt - y.toInt) (h2 : x.toInt - y.toInt < 2147483648) : (x - y).toInt = x.toInt - y.toInt := by
  rw [Int32.toInt_sub, Int.bmod_eq_of_le (by show -(4294967296 / 2) ≤ x.toInt - y.toInt; omega) (by show x.toInt - y.toInt < (4294967296 + 1) / 2; omega)]
theorem im_e {x y : Int32} (h1 : -2147483648 ≤ x.toInt * y.toInt) (h2 : x.toInt * y.toInt < 2147483648) : (x * y).toInt = x.toInt * y.toInt := by
  generalize hz : x.toInt * y.toInt = z at h1 h2
  rw [Int32.toInt_mul, hz, Int.bmod_eq_of_le (by show -(4294967296 / 2) ≤ z; omega) (by show z < (4294967296 + 1) / 2; omega)]
theorem z0_e {s : Int32} : (0 : Int32).toInt = 0 := by decide
theorem in_e {s : Int32} (h1 : 0 ≤ s.toInt) : (-s).toInt = -s.toInt := by
  rw [show (-s : Int32) = 0 - s from by
    apply Int32.toBitVec_inj.mp
    have z : (0 : Int32).toBitVec = 0#32 := rfl
    simp only [Int32.toBitVec_sub, Int32.toBitVec_neg, z]
    bv_omega]
  have h2 : s.toInt < 2147483648 := by
    rw [ix_nI h1]
    have h3 : ¬ s < 0 := fun q => by
      rw [fa_lt, ti_0] at q
      omega
    obtain ⟨kx, hkx, ex⟩ := nI_of h3
    rw [ex, nI_clamp hkx, nI_toInt hkx]
    omega
  have z : (0 : Int32).toInt = 0 := by decide
  rw [is_e (by rw [z]; omega) (by rw [z]; omega), z]
  omega
def towI (x s : Int) : Int := if -s < (if x < s then x else s) then (if x < s then x else s) else -s
theorem towS_e {x s : Int32} (h1 : 0 ≤ s.toInt) : (towS x s).toInt = towI x.toInt s.toInt := by
  have e := in_e h1
  unfold towS towI
  by_cases q1 : x < s
  · have q2 := (fa_lt x s).mp q1
    rw [if_pos q1, if_pos q2]
    by_cases q3 : -s < x
    · have q4 := (fa_lt _ _).mp q3
      rw [e] at q4
      rw [if_pos q3, if_pos q4]
    · have q4 : ¬ -s.toInt < x.toInt := fun z => q3 ((fa_lt _ _).mpr (by rw [e]; exact z))
      rw [if_neg q3, if_neg q4, e]
  · have q2 : ¬ x.toInt < s.toInt := fun z => q1 ((fa_lt x s).mpr z)
    rw [if_neg q1, if_neg q2]
    by_cases q3 : -s < s
    · have q4 := (fa_lt _ _).mp q3
      rw [e] at q4
      rw [if_pos q3, if_pos q4]
    · have q4 : ¬ -s.toInt < s.toInt := fun z => q3 ((fa_lt _ _).mpr (by rw [e]; exact z))
      rw [if_neg q3, if_neg q4, e]
theorem towI_b {x s : Int} (hs : 0 ≤ s) : -s ≤ towI x s ∧ towI x s ≤ s ∧ (0 ≤ x → 0 ≤ towI x s ∧ towI x s ≤ x) ∧ (x ≤ 0 → x ≤ towI x s ∧ towI x s ≤ 0) := by
  unfold towI
  split <;> split <;> omega
theorem absS_e {x : Int32} (h1 : -1000 ≤ x.toInt) (h2 : x.toInt ≤ 1000) : (absS x).toInt = (x.toInt.natAbs : Int) := by
  have z : (0 : Int32).toInt = 0 := by decide
  unfold absS
  by_cases q : 0 ≤ x
  · rw [if_pos q]
    rw [fa_le, z] at q
    omega
  · rw [if_neg q]
    rw [fa_le, z] at q
    rw [is_e (by rw [z]; omega) (by rw [z]; omega), z]
    omega
/-- by columns, then by rows -/
def gonX (w a b k : Nat) : Int := towI (((b % w : Nat) : Int) - ((a % w : Nat) : Int)) k
def gonY (w a b k : Nat) : Int := towI (((b / w : Nat) : Int) - ((a / w : Nat) : Int)) (k - ((gonX w a b k).natAbs : Int))
theorem gon_e {F : Nat → Nat → Int32} {w g a b k : Nat} (C : cty F w g) (ha : a < w * g) (hb : b < w * g) (hk : k ≤ 9) : ∃ c, c < w * g ∧ gonS F a b (nI k) = nI c ∧ ((c / w : Nat) : Int) = ((a / w : Nat) : Int) + gonY w a b k ∧ ((c % w : Nat) : Int) = ((a % w : Nat) : Int) + gonX w a b k := by
  have hn := cty_n C
  obtain ⟨⟨w1, w2, g1, g2⟩, cw, -, -, h5⟩ := C
  obtain ⟨ra, ca, -⟩ := h5 a ha
  obtain ⟨rb, cb, -⟩ := h5 b hb
  have hra : a / w < g := Nat.div_lt_of_lt_mul ha
  have hrb : b / w < g := Nat.div_lt_of_lt_mul hb
  have hca : a % w < w := Nat.mod_lt a w1
  have hcb : b % w < w := Nat.mod_lt b w1
  have hxb := towI_b (x := ((b % w : Nat) : Int) - ((a % w : Nat) : Int)) (s := (k : Int)) (by omega)
  have hX : gonX w a b k = towI (((b % w : Nat) : Int) - ((a % w : Nat) : Int)) k := rfl
  rw [← hX] at hxb
  have hyb := towI_b (x := ((b / w : Nat) : Int) - ((a / w : Nat) : Int)) (s := (k : Int) - ((gonX w a b k).natAbs : Int)) (by omega)
  have hY : gonY w a b k = towI (((b / w : Nat) : Int) - ((a / w : Nat) : Int)) (k - ((gonX w a b k).natAbs : Int)) := rfl
  rw [← hY] at hyb
  have eac : a = (a / w) * w + a % w := by rw [Nat.mul_comm]; exact (Nat.div_add_mod a w).symm
  generalize gonX w a b k = gx at *
  generalize gonY w a b k = gy at *
  generalize hrA : a / w = rA at *
  generalize hrB : b / w = rB at *
  generalize hcA : a % w = cA at *
  generalize hcB : b % w = cB at *
  obtain ⟨x1, hx1⟩ : ∃ x1 : Nat, (cA : Int) + gx = x1 := Int.eq_ofNat_of_zero_le (by omega)
  obtain ⟨y1, hy1⟩ : ∃ y1 : Nat, (rA : Int) + gy = y1 := Int.eq_ofNat_of_zero_le (by omega)
  have hx2 : x1 < w := by omega
  have hy2 : y1 < g := by omega
  have hlt := rc_lt hy2 hx2
  obtain ⟨d1, d2⟩ := rc_div (r := y1) hx2
  refine ⟨y1 * w + x1, hlt, ?_, by rw [d1, hy1], by rw [d2, hx1]⟩
  apply Int32.toInt_inj.mp
  rw [ti_nI (by omega)]
  unfold gonS
  have t1 : (F 8 b - F 8 a).toInt = (cB : Int) - cA := by rw [cb, ca]; exact pk_sub_toInt (by omega) (by omega)
  have t2 : (F 7 b - F 7 a).toInt = (rB : Int) - rA := by rw [rb, ra]; exact pk_sub_toInt (by omega) (by omega)
  have tk : (nI k).toInt = (k : Int) := ti_nI (by omega)
  have t3 : (towS (F 8 b - F 8 a) (nI k)).toInt = gx := by rw [towS_e (by omega), t1, tk, hX]
  have t4 : (absS (towS (F 8 b - F 8 a) (nI k))).toInt = (gx.natAbs : Int) := by rw [absS_e (by omega) (by omega), t3]
  have t5 : (nI k - absS (towS (F 8 b - F 8 a) (nI k))).toInt = (k : Int) - (gx.natAbs : Int) := by rw [is_e (by omega) (by omega), tk, t4]
  have t6 : (towS (F 7 b - F 7 a) (nI k - absS (towS (F 8 b - F 8 a) (nI k)))).toInt = gy := by rw [towS_e (by omega), t2, t5, hY]
  have t7 : (F 1 0).toInt = (w : Int) := by rw [cw, ti_nI (by omega)]
  have tA : (nI a).toInt = (a : Int) := ti_nI (by omega)
  have hyw : -120 ≤ gy * w ∧ gy * w ≤ 120 := by
    have b1 : gy ≤ 9 := by omega
    have b2 : -9 ≤ gy := by omega
    have b3 : gy * w ≤ 9 * w := Int.mul_le_mul_of_nonneg_right b1 (by omega)
    have b4 : -9 * (w : Int) ≤ gy * w := Int.mul_le_mul_of_nonneg_right b2 (by omega)
    omega
  have t8 : (towS (F 7 b - F 7 a) (nI k - absS (towS (F 8 b - F 8 a) (nI k))) * F 1 0).toInt = gy * w := by rw [im_e (by rw [t6, t7]; omega) (by rw [t6, t7]; omega), t6, t7]
  have t9 : (nI a + towS (F 8 b - F 8 a) (nI k)).toInt = (a : Int) + gx := by rw [ia_e (by omega) (by omega), tA, t3]
  rw [ia_e (by omega) (by omega), t9, t8]
  have e1 : (a : Int) = (rA : Int) * w + cA := by rw [eac, Int.natCast_add, Int.natCast_mul]
  have e2 : (((y1 * w + x1 : Nat)) : Int) = (y1 : Int) * w + x1 := by rw [Int.natCast_add, Int.natCast_mul]
  rw [e2, ← hy1, ← hx1, Int.add_mul, e1]
  omega
