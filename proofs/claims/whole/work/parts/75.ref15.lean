/-! ===== the reference's fire: as a whole ===== -/
theorem mgo_t : ∀ (k a b : Nat), k ≤ 9 → a < 1000 → b < 1000 → ∃ q r : Nat, mgoX k (nI a) (nI b) = (r, nI q) ∧ (q : Int) = a + towI ((b : Int) - a) k ∧ (r : Int) = (k : Int) - (towI ((b : Int) - a) k).natAbs
  | 0, a, b, _, _, _ => ⟨a, 0, rfl, by unfold towI; split <;> split <;> omega, by unfold towI; split <;> split <;> omega⟩
  | k + 1, a, b, hk, ha, hb => by
    unfold mgoX
    by_cases e : a = b
    · rw [if_pos (by rw [e])]
      exact ⟨a, k + 1, rfl, by unfold towI; split <;> split <;> omega, by unfold towI; split <;> split <;> omega⟩
    · rw [if_neg (fun q => e ((nI_eq (by omega) (by omega)).mp q))]
      by_cases l : a < b
      · rw [if_neg (nI_ge l (by omega)), nI_1]
        obtain ⟨q, r, e1, e2, e3⟩ := mgo_t k (a + 1) b (by omega) (by omega) hb
        refine ⟨q, r, e1, ?_, ?_⟩
        · rw [e2]; unfold towI; split <;> split <;> split <;> split <;> omega
        · rw [e3]; unfold towI; split <;> split <;> split <;> split <;> omega
      · rw [if_pos (nI_le (show b ≤ a by omega) (by omega))]
        obtain ⟨a1, rfl⟩ : ∃ a1, a = a1 + 1 := ⟨a - 1, by omega⟩
        rw [pk_m1]
        obtain ⟨q, r, e1, e2, e3⟩ := mgo_t k a1 b (by omega) (by omega) hb
        refine ⟨q, r, e1, ?_, ?_⟩
        · rw [e2]; unfold towI; split <;> split <;> split <;> split <;> omega
        · rw [e3]; unfold towI; split <;> split <;> split <;> split <;> omega
theorem mdr_e {M : mM} {w g e a b k : Nat} (C : mcty M w g) (ha : a < w * g) (hb : b < w * g) (hk : k ≤ 9) (ea : M 60 e = nI a) (eb : M 61 e = nI b) (ek : M 43 e = nI k) : ∃ c, c < w * g ∧ mdrS M e = nI c ∧ ((c / w : Nat) : Int) = ((a / w : Nat) : Int) + gonY w a b k ∧ ((c % w : Nat) : Int) = ((a % w : Nat) : Int) + gonX w a b k := by
  obtain ⟨⟨w1, w2, g1, g2⟩, cw, -⟩ := C
  have hn : w * g ≤ 120 := Nat.le_trans (Nat.mul_le_mul w2 g2) (by decide)
  have hra : a / w < g := Nat.div_lt_of_lt_mul ha
  have hrb : b / w < g := Nat.div_lt_of_lt_mul hb
  have hca : a % w < w := Nat.mod_lt a w1
  have hcb : b % w < w := Nat.mod_lt b w1
  unfold mdrS mdrY mdrX
  rw [ea, eb, ek, cw, nI_clamp (show k < 2 ^ 31 by omega), pk_rem (by omega) (by omega) (by omega), pk_rem (by omega) (by omega) (by omega), pk_div (by omega) (by omega) (by omega), pk_div (by omega) (by omega) (by omega)]
  obtain ⟨x1, k1, ex, hx1, hk1⟩ := mgo_t k (a % w) (b % w) hk (by omega) (by omega)
  rw [ex]
  obtain ⟨y1, k2, ey, hy1, -⟩ := mgo_t k1 (a / w) (b / w) (by omega) (by omega) (by omega)
  show ∃ c, c < w * g ∧ (mgoX k1 (nI (a / w)) (nI (b / w))).2 * nI w + nI x1 = nI c ∧ _
  rw [ey]
  have hX : gonX w a b k = towI (((b % w : Nat) : Int) - ((a % w : Nat) : Int)) k := rfl
  have hY : gonY w a b k = towI (((b / w : Nat) : Int) - ((a / w : Nat) : Int)) (k - ((gonX w a b k).natAbs : Int)) := rfl
  rw [hX, ← hk1] at hY
  have hxb := towI_b (x := ((b % w : Nat) : Int) - ((a % w : Nat) : Int)) (s := (k : Int)) (by omega)
  have hyb := towI_b (x := ((b / w : Nat) : Int) - ((a / w : Nat) : Int)) (s := (k1 : Int)) (by omega)
  rw [← hX] at hx1 hxb
  rw [← hY] at hy1 hyb
  have hx2 : x1 < w := by omega
  have hy2 : y1 < g := by omega
  obtain ⟨d1, d2⟩ := rc_div (r := y1) hx2
  refine ⟨y1 * w + x1, rc_lt hy2 hx2, ?_, by rw [d1, hy1], by rw [d2, hx1]⟩
  show nI y1 * nI w + nI x1 = _
  rw [pk_mul, nI_add]
theorem up2_comm {α : Type} (X : Nat → Nat → α) {a b : Nat} (h : a ≠ b) (k j : Nat) (v w : α) : up2 (up2 X a k v) b j w = up2 (up2 X b j w) a k v := by
  funext x i
  unfold up2
  by_cases h1 : x = b ∧ i = j
  · rw [if_pos h1, if_neg (fun q => h (q.1.symm.trans h1.1)), if_pos h1]
  · rw [if_neg h1, if_neg h1]
theorem hh_e {c n : Nat} {F : Nat → Int32} (hc : c < 100000) (hn : n < 100000) : zb ((0 ≤ nI c ∧ nI c < nI n) ∧ ¬ F (nI c).toNatClampNeg = 0) = zb (c < n ∧ ¬ F c = 0) := by
  rw [nI_clamp (by omega)]
  refine zb_c ⟨fun q => ⟨?_, q.2⟩, fun q => ⟨⟨nI_pos' (by omega), nI_lt q.1 (by omega)⟩, q.2⟩⟩
  rcases Nat.lt_or_ge c n with w | w
  · exact w
  · exact absurd q.1.2 (nI_nlt w (by omega))
theorem sQ_1 (h : hp_T) (M : mM) (N : mN) (W : tW) (k : Nat) (v : Int32) : hp_setI (sP h M N W) 248 k v = sP h (up2 M 1 k v) N W := (mI_1 h (up2 M 0 70 (nI W.1)) (uprL N 52 W.2) k v).trans (congrArg (fun z => hm h z (uprL N 52 W.2)) (up2_comm M (by decide) _ _ _ _))
theorem sQ_2 (h : hp_T) (M : mM) (N : mN) (W : tW) (k : Nat) (v : Int32) : hp_setI (sP h M N W) 249 k v = sP h (up2 M 2 k v) N W := (mI_2 h (up2 M 0 70 (nI W.1)) (uprL N 52 W.2) k v).trans (congrArg (fun z => hm h z (uprL N 52 W.2)) (up2_comm M (by decide) _ _ _ _))
theorem sQ_3 (h : hp_T) (M : mM) (N : mN) (W : tW) (k : Nat) (v : Int32) : hp_setI (sP h M N W) 250 k v = sP h (up2 M 3 k v) N W := (mI_3 h (up2 M 0 70 (nI W.1)) (uprL N 52 W.2) k v).trans (congrArg (fun z => hm h z (uprL N 52 W.2)) (up2_comm M (by decide) _ _ _ _))
theorem sQ_4 (h : hp_T) (M : mM) (N : mN) (W : tW) (k : Nat) (v : Int32) : hp_setI (sP h M N W) 251 k v = sP h (up2 M 4 k v) N W := (mI_4 h (up2 M 0 70 (nI W.1)) (uprL N 52 W.2) k v).trans (congrArg (fun z => hm h z (uprL N 52 W.2)) (up2_comm M (by decide) _ _ _ _))
theorem sQ_5 (h : hp_T) (M : mM) (N : mN) (W : tW) (k : Nat) (v : Int32) : hp_setI (sP h M N W) 252 k v = sP h (up2 M 5 k v) N W := (mI_5 h (up2 M 0 70 (nI W.1)) (uprL N 52 W.2) k v).trans (congrArg (fun z => hm h z (uprL N 52 W.2)) (up2_comm M (by decide) _ _ _ _))
theorem sQ_6 (h : hp_T) (M : mM) (N : mN) (W : tW) (k : Nat) (v : Int32) : hp_setI (sP h M N W) 253 k v = sP h (up2 M 6 k v) N W := (mI_6 h (up2 M 0 70 (nI W.1)) (uprL N 52 W.2) k v).trans (congrArg (fun z => hm h z (uprL N 52 W.2)) (up2_comm M (by decide) _ _ _ _))
theorem sQ_7 (h : hp_T) (M : mM) (N : mN) (W : tW) (k : Nat) (v : Int32) : hp_setI (sP h M N W) 254 k v = sP h (up2 M 7 k v) N W := (mI_7 h (up2 M 0 70 (nI W.1)) (uprL N 52 W.2) k v).trans (congrArg (fun z => hm h z (uprL N 52 W.2)) (up2_comm M (by decide) _ _ _ _))
theorem sQ_8 (h : hp_T) (M : mM) (N : mN) (W : tW) (k : Nat) (v : Int32) : hp_setI (sP h M N W) 255 k v = sP h (up2 M 8 k v) N W := (mI_8 h (up2 M 0 70 (nI W.1)) (uprL N 52 W.2) k v).trans (congrArg (fun z => hm h z (uprL N 52 W.2)) (up2_comm M (by decide) _ _ _ _))
theorem sQ_9 (h : hp_T) (M : mM) (N : mN) (W : tW) (k : Nat) (v : Int32) : hp_setI (sP h M N W) 256 k v = sP h (up2 M 9 k v) N W := (mI_9 h (up2 M 0 70 (nI W.1)) (uprL N 52 W.2) k v).trans (congrArg (fun z => hm h z (uprL N 52 W.2)) (up2_comm M (by decide) _ _ _ _))
theorem sQ_10 (h : hp_T) (M : mM) (N : mN) (W : tW) (k : Nat) (v : Int32) : hp_setI (sP h M N W) 257 k v = sP h (up2 M 10 k v) N W := (mI_10 h (up2 M 0 70 (nI W.1)) (uprL N 52 W.2) k v).trans (congrArg (fun z => hm h z (uprL N 52 W.2)) (up2_comm M (by decide) _ _ _ _))
theorem sQ_11 (h : hp_T) (M : mM) (N : mN) (W : tW) (k : Nat) (v : Int32) : hp_setI (sP h M N W) 258 k v = sP h (up2 M 11 k v) N W := (mI_11 h (up2 M 0 70 (nI W.1)) (uprL N 52 W.2) k v).trans (congrArg (fun z => hm h z (uprL N 52 W.2)) (up2_comm M (by decide) _ _ _ _))
theorem sQ_12 (h : hp_T) (M : mM) (N : mN) (W : tW) (k : Nat) (v : Int32) : hp_setI (sP h M N W) 259 k v = sP h (up2 M 12 k v) N W := (mI_12 h (up2 M 0 70 (nI W.1)) (uprL N 52 W.2) k v).trans (congrArg (fun z => hm h z (uprL N 52 W.2)) (up2_comm M (by decide) _ _ _ _))
theorem sQ_13 (h : hp_T) (M : mM) (N : mN) (W : tW) (k : Nat) (v : Int32) : hp_setI (sP h M N W) 260 k v = sP h (up2 M 13 k v) N W := (mI_13 h (up2 M 0 70 (nI W.1)) (uprL N 52 W.2) k v).trans (congrArg (fun z => hm h z (uprL N 52 W.2)) (up2_comm M (by decide) _ _ _ _))
theorem sQ_14 (h : hp_T) (M : mM) (N : mN) (W : tW) (k : Nat) (v : Int32) : hp_setI (sP h M N W) 261 k v = sP h (up2 M 14 k v) N W := (mI_14 h (up2 M 0 70 (nI W.1)) (uprL N 52 W.2) k v).trans (congrArg (fun z => hm h z (uprL N 52 W.2)) (up2_comm M (by decide) _ _ _ _))
theorem sQ_15 (h : hp_T) (M : mM) (N : mN) (W : tW) (k : Nat) (v : Int32) : hp_setI (sP h M N W) 262 k v = sP h (up2 M 15 k v) N W := (mI_15 h (up2 M 0 70 (nI W.1)) (uprL N 52 W.2) k v).trans (congrArg (fun z => hm h z (uprL N 52 W.2)) (up2_comm M (by decide) _ _ _ _))
theorem sQ_16 (h : hp_T) (M : mM) (N : mN) (W : tW) (k : Nat) (v : Int32) : hp_setI (sP h M N W) 263 k v = sP h (up2 M 16 k v) N W := (mI_16 h (up2 M 0 70 (nI W.1)) (uprL N 52 W.2) k v).trans (congrArg (fun z => hm h z (uprL N 52 W.2)) (up2_comm M (by decide) _ _ _ _))
theorem sQ_17 (h : hp_T) (M : mM) (N : mN) (W : tW) (k : Nat) (v : Int32) : hp_setI (sP h M N W) 264 k v = sP h (up2 M 17 k v) N W := (mI_17 h (up2 M 0 70 (nI W.1)) (uprL N 52 W.2) k v).trans (congrArg (fun z => hm h z (uprL N 52 W.2)) (up2_comm M (by decide) _ _ _ _))
theorem sQ_18 (h : hp_T) (M : mM) (N : mN) (W : tW) (k : Nat) (v : Int32) : hp_setI (sP h M N W) 265 k v = sP h (up2 M 18 k v) N W := (mI_18 h (up2 M 0 70 (nI W.1)) (uprL N 52 W.2) k v).trans (congrArg (fun z => hm h z (uprL N 52 W.2)) (up2_comm M (by decide) _ _ _ _))
theorem sQ_19 (h : hp_T) (M : mM) (N : mN) (W : tW) (k : Nat) (v : Int32) : hp_setI (sP h M N W) 266 k v = sP h (up2 M 19 k v) N W := (mI_19 h (up2 M 0 70 (nI W.1)) (uprL N 52 W.2) k v).trans (congrArg (fun z => hm h z (uprL N 52 W.2)) (up2_comm M (by decide) _ _ _ _))
theorem sQ_20 (h : hp_T) (M : mM) (N : mN) (W : tW) (k : Nat) (v : Int32) : hp_setI (sP h M N W) 267 k v = sP h (up2 M 20 k v) N W := (mI_20 h (up2 M 0 70 (nI W.1)) (uprL N 52 W.2) k v).trans (congrArg (fun z => hm h z (uprL N 52 W.2)) (up2_comm M (by decide) _ _ _ _))
theorem sQ_21 (h : hp_T) (M : mM) (N : mN) (W : tW) (k : Nat) (v : Int32) : hp_setI (sP h M N W) 268 k v = sP h (up2 M 21 k v) N W := (mI_21 h (up2 M 0 70 (nI W.1)) (uprL N 52 W.2) k v).trans (congrArg (fun z => hm h z (uprL N 52 W.2)) (up2_comm M (by decide) _ _ _ _))
theorem sQ_22 (h : hp_T) (M : mM) (N : mN) (W : tW) (k : Nat) (v : Int32) : hp_setI (sP h M N W) 269 k v = sP h (up2 M 22 k v) N W := (mI_22 h (up2 M 0 70 (nI W.1)) (uprL N 52 W.2) k v).trans (congrArg (fun z => hm h z (uprL N 52 W.2)) (up2_comm M (by decide) _ _ _ _))
theorem sQ_23 (h : hp_T) (M : mM) (N : mN) (W : tW) (k : Nat) (v : Int32) : hp_setI (sP h M N W) 270 k v = sP h (up2 M 23 k v) N W := (mI_23 h (up2 M 0 70 (nI W.1)) (uprL N 52 W.2) k v).trans (congrArg (fun z => hm h z (uprL N 52 W.2)) (up2_comm M (by decide) _ _ _ _))
theorem sQ_24 (h : hp_T) (M : mM) (N : mN) (W : tW) (k : Nat) (v : Int32) : hp_setI (sP h M N W) 271 k v = sP h (up2 M 24 k v) N W := (mI_24 h (up2 M 0 70 (nI W.1)) (uprL N 52 W.2) k v).trans (congrArg (fun z => hm h z (uprL N 52 W.2)) (up2_comm M (by decide) _ _ _ _))
theorem sQ_25 (h : hp_T) (M : mM) (N : mN) (W : tW) (k : Nat) (v : Int32) : hp_setI (sP h M N W) 272 k v = sP h (up2 M 25 k v) N W := (mI_25 h (up2 M 0 70 (nI W.1)) (uprL N 52 W.2) k v).trans (congrArg (fun z => hm h z (uprL N 52 W.2)) (up2_comm M (by decide) _ _ _ _))
theorem sQ_26 (h : hp_T) (M : mM) (N : mN) (W : tW) (k : Nat) (v : Int32) : hp_setI (sP h M N W) 273 k v = sP h (up2 M 26 k v) N W := (mI_26 h (up2 M 0 70 (nI W.1)) (uprL N 52 W.2) k v).trans (congrArg (fun z => hm h z (uprL N 52 W.2)) (up2_comm M (by decide) _ _ _ _))
theorem sQ_27 (h : hp_T) (M : mM) (N : mN) (W : tW) (k : Nat) (v : Int32) : hp_setI (sP h M N W) 274 k v = sP h (up2 M 27 k v) N W := (mI_27 h (up2 M 0 70 (nI W.1)) (uprL N 52 W.2) k v).trans (congrArg (fun z => hm h z (uprL N 52 W.2)) (up2_comm M (by decide) _ _ _ _))
theorem sQ_28 (h : hp_T) (M : mM) (N : mN) (W : tW) (k : Nat) (v : Int32) : hp_setI (sP h M N W) 275 k v = sP h (up2 M 28 k v) N W := (mI_28 h (up2 M 0 70 (nI W.1)) (uprL N 52 W.2) k v).trans (congrArg (fun z => hm h z (uprL N 52 W.2)) (up2_comm M (by decide) _ _ _ _))
theorem sQ_29 (h : hp_T) (M : mM) (N : mN) (W : tW) (k : Nat) (v : Int32) : hp_setI (sP h M N W) 276 k v = sP h (up2 M 29 k v) N W := (mI_29 h (up2 M 0 70 (nI W.1)) (uprL N 52 W.2) k v).trans (congrArg (fun z => hm h z (uprL N 52 W.2)) (up2_comm M (by decide) _ _ _ _))
theorem sQ_30 (h : hp_T) (M : mM) (N : mN) (W : tW) (k : Nat) (v : Int32) : hp_setI (sP h M N W) 277 k v = sP h (up2 M 30 k v) N W := (mI_30 h (up2 M 0 70 (nI W.1)) (uprL N 52 W.2) k v).trans (congrArg (fun z => hm h z (uprL N 52 W.2)) (up2_comm M (by decide) _ _ _ _))
theorem sQ_31 (h : hp_T) (M : mM) (N : mN) (W : tW) (k : Nat) (v : Int32) : hp_setI (sP h M N W) 278 k v = sP h (up2 M 31 k v) N W := (mI_31 h (up2 M 0 70 (nI W.1)) (uprL N 52 W.2) k v).trans (congrArg (fun z => hm h z (uprL N 52 W.2)) (up2_comm M (by decide) _ _ _ _))
theorem sQ_32 (h : hp_T) (M : mM) (N : mN) (W : tW) (k : Nat) (v : Int32) : hp_setI (sP h M N W) 279 k v = sP h (up2 M 32 k v) N W := (mI_32 h (up2 M 0 70 (nI W.1)) (uprL N 52 W.2) k v).trans (congrArg (fun z => hm h z (uprL N 52 W.2)) (up2_comm M (by decide) _ _ _ _))
theorem sQ_33 (h : hp_T) (M : mM) (N : mN) (W : tW) (k : Nat) (v : Int32) : hp_setI (sP h M N W) 280 k v = sP h (up2 M 33 k v) N W := (mI_33 h (up2 M 0 70 (nI W.1)) (uprL N 52 W.2) k v).trans (congrArg (fun z => hm h z (uprL N 52 W.2)) (up2_comm M (by decide) _ _ _ _))
theorem sQ_34 (h : hp_T) (M : mM) (N : mN) (W : tW) (k : Nat) (v : Int32) : hp_setI (sP h M N W) 281 k v = sP h (up2 M 34 k v) N W := (mI_34 h (up2 M 0 70 (nI W.1)) (uprL N 52 W.2) k v).trans (congrArg (fun z => hm h z (uprL N 52 W.2)) (up2_comm M (by decide) _ _ _ _))
theorem sQ_35 (h : hp_T) (M : mM) (N : mN) (W : tW) (k : Nat) (v : Int32) : hp_setI (sP h M N W) 282 k v = sP h (up2 M 35 k v) N W := (mI_35 h (up2 M 0 70 (nI W.1)) (uprL N 52 W.2) k v).trans (congrArg (fun z => hm h z (uprL N 52 W.2)) (up2_comm M (by decide) _ _ _ _))
theorem sQ_36 (h : hp_T) (M : mM) (N : mN) (W : tW) (k : Nat) (v : Int32) : hp_setI (sP h M N W) 283 k v = sP h (up2 M 36 k v) N W := (mI_36 h (up2 M 0 70 (nI W.1)) (uprL N 52 W.2) k v).trans (congrArg (fun z => hm h z (uprL N 52 W.2)) (up2_comm M (by decide) _ _ _ _))
theorem sQ_37 (h : hp_T) (M : mM) (N : mN) (W : tW) (k : Nat) (v : Int32) : hp_setI (sP h M N W) 284 k v = sP h (up2 M 37 k v) N W := (mI_37 h (up2 M 0 70 (nI W.1)) (uprL N 52 W.2) k v).trans (congrArg (fun z => hm h z (uprL N 52 W.2)) (up2_comm M (by decide) _ _ _ _))
theorem sQ_38 (h : hp_T) (M : mM) (N : mN) (W : tW) (k : Nat) (v : Int32) : hp_setI (sP h M N W) 285 k v = sP h (up2 M 38 k v) N W := (mI_38 h (up2 M 0 70 (nI W.1)) (uprL N 52 W.2) k v).trans (congrArg (fun z => hm h z (uprL N 52 W.2)) (up2_comm M (by decide) _ _ _ _))
theorem sQ_39 (h : hp_T) (M : mM) (N : mN) (W : tW) (k : Nat) (v : Int32) : hp_setI (sP h M N W) 286 k v = sP h (up2 M 39 k v) N W := (mI_39 h (up2 M 0 70 (nI W.1)) (uprL N 52 W.2) k v).trans (congrArg (fun z => hm h z (uprL N 52 W.2)) (up2_comm M (by decide) _ _ _ _))
theorem sQ_40 (h : hp_T) (M : mM) (N : mN) (W : tW) (k : Nat) (v : Int32) : hp_setI (sP h M N W) 287 k v = sP h (up2 M 40 k v) N W := (mI_40 h (up2 M 0 70 (nI W.1)) (uprL N 52 W.2) k v).trans (congrArg (fun z => hm h z (uprL N 52 W.2)) (up2_comm M (by decide) _ _ _ _))
theorem sQ_41 (h : hp_T) (M : mM) (N : mN) (W : tW) (k : Nat) (v : Int32) : hp_setI (sP h M N W) 288 k v = sP h (up2 M 41 k v) N W := (mI_41 h (up2 M 0 70 (nI W.1)) (uprL N 52 W.2) k v).trans (congrArg (fun z => hm h z (uprL N 52 W.2)) (up2_comm M (by decide) _ _ _ _))
theorem sQ_42 (h : hp_T) (M : mM) (N : mN) (W : tW) (k : Nat) (v : Int32) : hp_setI (sP h M N W) 289 k v = sP h (up2 M 42 k v) N W := (mI_42 h (up2 M 0 70 (nI W.1)) (uprL N 52 W.2) k v).trans (congrArg (fun z => hm h z (uprL N 52 W.2)) (up2_comm M (by decide) _ _ _ _))
theorem sQ_43 (h : hp_T) (M : mM) (N : mN) (W : tW) (k : Nat) (v : Int32) : hp_setI (sP h M N W) 290 k v = sP h (up2 M 43 k v) N W := (mI_43 h (up2 M 0 70 (nI W.1)) (uprL N 52 W.2) k v).trans (congrArg (fun z => hm h z (uprL N 52 W.2)) (up2_comm M (by decide) _ _ _ _))
theorem sQ_44 (h : hp_T) (M : mM) (N : mN) (W : tW) (k : Nat) (v : Int32) : hp_setI (sP h M N W) 291 k v = sP h (up2 M 44 k v) N W := (mI_44 h (up2 M 0 70 (nI W.1)) (uprL N 52 W.2) k v).trans (congrArg (fun z => hm h z (uprL N 52 W.2)) (up2_comm M (by decide) _ _ _ _))
theorem sQ_45 (h : hp_T) (M : mM) (N : mN) (W : tW) (k : Nat) (v : Int32) : hp_setI (sP h M N W) 292 k v = sP h (up2 M 45 k v) N W := (mI_45 h (up2 M 0 70 (nI W.1)) (uprL N 52 W.2) k v).trans (congrArg (fun z => hm h z (uprL N 52 W.2)) (up2_comm M (by decide) _ _ _ _))
theorem sQ_46 (h : hp_T) (M : mM) (N : mN) (W : tW) (k : Nat) (v : Int32) : hp_setI (sP h M N W) 293 k v = sP h (up2 M 46 k v) N W := (mI_46 h (up2 M 0 70 (nI W.1)) (uprL N 52 W.2) k v).trans (congrArg (fun z => hm h z (uprL N 52 W.2)) (up2_comm M (by decide) _ _ _ _))
theorem sQ_47 (h : hp_T) (M : mM) (N : mN) (W : tW) (k : Nat) (v : Int32) : hp_setI (sP h M N W) 294 k v = sP h (up2 M 47 k v) N W := (mI_47 h (up2 M 0 70 (nI W.1)) (uprL N 52 W.2) k v).trans (congrArg (fun z => hm h z (uprL N 52 W.2)) (up2_comm M (by decide) _ _ _ _))
theorem sQ_48 (h : hp_T) (M : mM) (N : mN) (W : tW) (k : Nat) (v : Int32) : hp_setI (sP h M N W) 295 k v = sP h (up2 M 48 k v) N W := (mI_48 h (up2 M 0 70 (nI W.1)) (uprL N 52 W.2) k v).trans (congrArg (fun z => hm h z (uprL N 52 W.2)) (up2_comm M (by decide) _ _ _ _))
theorem sQ_49 (h : hp_T) (M : mM) (N : mN) (W : tW) (k : Nat) (v : Int32) : hp_setI (sP h M N W) 296 k v = sP h (up2 M 49 k v) N W := (mI_49 h (up2 M 0 70 (nI W.1)) (uprL N 52 W.2) k v).trans (congrArg (fun z => hm h z (uprL N 52 W.2)) (up2_comm M (by decide) _ _ _ _))
theorem sQ_50 (h : hp_T) (M : mM) (N : mN) (W : tW) (k : Nat) (v : Int32) : hp_setI (sP h M N W) 297 k v = sP h (up2 M 50 k v) N W := (mI_50 h (up2 M 0 70 (nI W.1)) (uprL N 52 W.2) k v).trans (congrArg (fun z => hm h z (uprL N 52 W.2)) (up2_comm M (by decide) _ _ _ _))
theorem sQ_51 (h : hp_T) (M : mM) (N : mN) (W : tW) (k : Nat) (v : Int32) : hp_setI (sP h M N W) 298 k v = sP h (up2 M 51 k v) N W := (mI_51 h (up2 M 0 70 (nI W.1)) (uprL N 52 W.2) k v).trans (congrArg (fun z => hm h z (uprL N 52 W.2)) (up2_comm M (by decide) _ _ _ _))
theorem sQ_52 (h : hp_T) (M : mM) (N : mN) (W : tW) (k : Nat) (v : Int32) : hp_setI (sP h M N W) 299 k v = sP h (up2 M 52 k v) N W := (mI_52 h (up2 M 0 70 (nI W.1)) (uprL N 52 W.2) k v).trans (congrArg (fun z => hm h z (uprL N 52 W.2)) (up2_comm M (by decide) _ _ _ _))
theorem sQ_53 (h : hp_T) (M : mM) (N : mN) (W : tW) (k : Nat) (v : Int32) : hp_setI (sP h M N W) 300 k v = sP h (up2 M 53 k v) N W := (mI_53 h (up2 M 0 70 (nI W.1)) (uprL N 52 W.2) k v).trans (congrArg (fun z => hm h z (uprL N 52 W.2)) (up2_comm M (by decide) _ _ _ _))
theorem sQ_54 (h : hp_T) (M : mM) (N : mN) (W : tW) (k : Nat) (v : Int32) : hp_setI (sP h M N W) 301 k v = sP h (up2 M 54 k v) N W := (mI_54 h (up2 M 0 70 (nI W.1)) (uprL N 52 W.2) k v).trans (congrArg (fun z => hm h z (uprL N 52 W.2)) (up2_comm M (by decide) _ _ _ _))
theorem sQ_55 (h : hp_T) (M : mM) (N : mN) (W : tW) (k : Nat) (v : Int32) : hp_setI (sP h M N W) 302 k v = sP h (up2 M 55 k v) N W := (mI_55 h (up2 M 0 70 (nI W.1)) (uprL N 52 W.2) k v).trans (congrArg (fun z => hm h z (uprL N 52 W.2)) (up2_comm M (by decide) _ _ _ _))
theorem sQ_56 (h : hp_T) (M : mM) (N : mN) (W : tW) (k : Nat) (v : Int32) : hp_setI (sP h M N W) 303 k v = sP h (up2 M 56 k v) N W := (mI_56 h (up2 M 0 70 (nI W.1)) (uprL N 52 W.2) k v).trans (congrArg (fun z => hm h z (uprL N 52 W.2)) (up2_comm M (by decide) _ _ _ _))
theorem sQ_57 (h : hp_T) (M : mM) (N : mN) (W : tW) (k : Nat) (v : Int32) : hp_setI (sP h M N W) 304 k v = sP h (up2 M 57 k v) N W := (mI_57 h (up2 M 0 70 (nI W.1)) (uprL N 52 W.2) k v).trans (congrArg (fun z => hm h z (uprL N 52 W.2)) (up2_comm M (by decide) _ _ _ _))
theorem sQ_58 (h : hp_T) (M : mM) (N : mN) (W : tW) (k : Nat) (v : Int32) : hp_setI (sP h M N W) 305 k v = sP h (up2 M 58 k v) N W := (mI_58 h (up2 M 0 70 (nI W.1)) (uprL N 52 W.2) k v).trans (congrArg (fun z => hm h z (uprL N 52 W.2)) (up2_comm M (by decide) _ _ _ _))
theorem sQ_59 (h : hp_T) (M : mM) (N : mN) (W : tW) (k : Nat) (v : Int32) : hp_setI (sP h M N W) 306 k v = sP h (up2 M 59 k v) N W := (mI_59 h (up2 M 0 70 (nI W.1)) (uprL N 52 W.2) k v).trans (congrArg (fun z => hm h z (uprL N 52 W.2)) (up2_comm M (by decide) _ _ _ _))
theorem sQ_60 (h : hp_T) (M : mM) (N : mN) (W : tW) (k : Nat) (v : Int32) : hp_setI (sP h M N W) 307 k v = sP h (up2 M 60 k v) N W := (mI_60 h (up2 M 0 70 (nI W.1)) (uprL N 52 W.2) k v).trans (congrArg (fun z => hm h z (uprL N 52 W.2)) (up2_comm M (by decide) _ _ _ _))
theorem sQ_61 (h : hp_T) (M : mM) (N : mN) (W : tW) (k : Nat) (v : Int32) : hp_setI (sP h M N W) 308 k v = sP h (up2 M 61 k v) N W := (mI_61 h (up2 M 0 70 (nI W.1)) (uprL N 52 W.2) k v).trans (congrArg (fun z => hm h z (uprL N 52 W.2)) (up2_comm M (by decide) _ _ _ _))
theorem sQ_62 (h : hp_T) (M : mM) (N : mN) (W : tW) (k : Nat) (v : Int32) : hp_setI (sP h M N W) 309 k v = sP h (up2 M 62 k v) N W := (mI_62 h (up2 M 0 70 (nI W.1)) (uprL N 52 W.2) k v).trans (congrArg (fun z => hm h z (uprL N 52 W.2)) (up2_comm M (by decide) _ _ _ _))
theorem sQ_63 (h : hp_T) (M : mM) (N : mN) (W : tW) (k : Nat) (v : Int32) : hp_setI (sP h M N W) 310 k v = sP h (up2 M 63 k v) N W := (mI_63 h (up2 M 0 70 (nI W.1)) (uprL N 52 W.2) k v).trans (congrArg (fun z => hm h z (uprL N 52 W.2)) (up2_comm M (by decide) _ _ _ _))
theorem sQ_64 (h : hp_T) (M : mM) (N : mN) (W : tW) (k : Nat) (v : Int32) : hp_setI (sP h M N W) 311 k v = sP h (up2 M 64 k v) N W := (mI_64 h (up2 M 0 70 (nI W.1)) (uprL N 52 W.2) k v).trans (congrArg (fun z => hm h z (uprL N 52 W.2)) (up2_comm M (by decide) _ _ _ _))
theorem sQ_65 (h : hp_T) (M : mM) (N : mN) (W : tW) (k : Nat) (v : Int32) : hp_setI (sP h M N W) 312 k v = sP h (up2 M 65 k v) N W := (mI_65 h (up2 M 0 70 (nI W.1)) (uprL N 52 W.2) k v).trans (congrArg (fun z => hm h z (uprL N 52 W.2)) (up2_comm M (by decide) _ _ _ _))
theorem sQ_66 (h : hp_T) (M : mM) (N : mN) (W : tW) (k : Nat) (v : Int32) : hp_setI (sP h M N W) 313 k v = sP h (up2 M 66 k v) N W := (mI_66 h (up2 M 0 70 (nI W.1)) (uprL N 52 W.2) k v).trans (congrArg (fun z => hm h z (uprL N 52 W.2)) (up2_comm M (by decide) _ _ _ _))
theorem sQ_67 (h : hp_T) (M : mM) (N : mN) (W : tW) (k : Nat) (v : Int32) : hp_setI (sP h M N W) 314 k v = sP h (up2 M 67 k v) N W := (mI_67 h (up2 M 0 70 (nI W.1)) (uprL N 52 W.2) k v).trans (congrArg (fun z => hm h z (uprL N 52 W.2)) (up2_comm M (by decide) _ _ _ _))
theorem sQ_68 (h : hp_T) (M : mM) (N : mN) (W : tW) (k : Nat) (v : Int32) : hp_setI (sP h M N W) 315 k v = sP h (up2 M 68 k v) N W := (mI_68 h (up2 M 0 70 (nI W.1)) (uprL N 52 W.2) k v).trans (congrArg (fun z => hm h z (uprL N 52 W.2)) (up2_comm M (by decide) _ _ _ _))
theorem sQ_69 (h : hp_T) (M : mM) (N : mN) (W : tW) (k : Nat) (v : Int32) : hp_setI (sP h M N W) 316 k v = sP h (up2 M 69 k v) N W := (mI_69 h (up2 M 0 70 (nI W.1)) (uprL N 52 W.2) k v).trans (congrArg (fun z => hm h z (uprL N 52 W.2)) (up2_comm M (by decide) _ _ _ _))
theorem sQ_70 (h : hp_T) (M : mM) (N : mN) (W : tW) (k : Nat) (v : Int32) : hp_setI (sP h M N W) 317 k v = sP h (up2 M 70 k v) N W := (mI_70 h (up2 M 0 70 (nI W.1)) (uprL N 52 W.2) k v).trans (congrArg (fun z => hm h z (uprL N 52 W.2)) (up2_comm M (by decide) _ _ _ _))
theorem sQ_71 (h : hp_T) (M : mM) (N : mN) (W : tW) (k : Nat) (v : Int32) : hp_setI (sP h M N W) 318 k v = sP h (up2 M 71 k v) N W := (mI_71 h (up2 M 0 70 (nI W.1)) (uprL N 52 W.2) k v).trans (congrArg (fun z => hm h z (uprL N 52 W.2)) (up2_comm M (by decide) _ _ _ _))
theorem sQ_72 (h : hp_T) (M : mM) (N : mN) (W : tW) (k : Nat) (v : Int32) : hp_setI (sP h M N W) 319 k v = sP h (up2 M 72 k v) N W := (mI_72 h (up2 M 0 70 (nI W.1)) (uprL N 52 W.2) k v).trans (congrArg (fun z => hm h z (uprL N 52 W.2)) (up2_comm M (by decide) _ _ _ _))
theorem sQ_73 (h : hp_T) (M : mM) (N : mN) (W : tW) (k : Nat) (v : Int32) : hp_setI (sP h M N W) 320 k v = sP h (up2 M 73 k v) N W := (mI_73 h (up2 M 0 70 (nI W.1)) (uprL N 52 W.2) k v).trans (congrArg (fun z => hm h z (uprL N 52 W.2)) (up2_comm M (by decide) _ _ _ _))
theorem sQ_74 (h : hp_T) (M : mM) (N : mN) (W : tW) (k : Nat) (v : Int32) : hp_setI (sP h M N W) 321 k v = sP h (up2 M 74 k v) N W := (mI_74 h (up2 M 0 70 (nI W.1)) (uprL N 52 W.2) k v).trans (congrArg (fun z => hm h z (uprL N 52 W.2)) (up2_comm M (by decide) _ _ _ _))
theorem sQ_75 (h : hp_T) (M : mM) (N : mN) (W : tW) (k : Nat) (v : Int32) : hp_setI (sP h M N W) 322 k v = sP h (up2 M 75 k v) N W := (mI_75 h (up2 M 0 70 (nI W.1)) (uprL N 52 W.2) k v).trans (congrArg (fun z => hm h z (uprL N 52 W.2)) (up2_comm M (by decide) _ _ _ _))
theorem sQ_76 (h : hp_T) (M : mM) (N : mN) (W : tW) (k : Nat) (v : Int32) : hp_setI (sP h M N W) 323 k v = sP h (up2 M 76 k v) N W := (mI_76 h (up2 M 0 70 (nI W.1)) (uprL N 52 W.2) k v).trans (congrArg (fun z => hm h z (uprL N 52 W.2)) (up2_comm M (by decide) _ _ _ _))
theorem sQ_77 (h : hp_T) (M : mM) (N : mN) (W : tW) (k : Nat) (v : Int32) : hp_setI (sP h M N W) 324 k v = sP h (up2 M 77 k v) N W := (mI_77 h (up2 M 0 70 (nI W.1)) (uprL N 52 W.2) k v).trans (congrArg (fun z => hm h z (uprL N 52 W.2)) (up2_comm M (by decide) _ _ _ _))
theorem sQ_78 (h : hp_T) (M : mM) (N : mN) (W : tW) (k : Nat) (v : Int32) : hp_setI (sP h M N W) 325 k v = sP h (up2 M 78 k v) N W := (mI_78 h (up2 M 0 70 (nI W.1)) (uprL N 52 W.2) k v).trans (congrArg (fun z => hm h z (uprL N 52 W.2)) (up2_comm M (by decide) _ _ _ _))
theorem sQ_79 (h : hp_T) (M : mM) (N : mN) (W : tW) (k : Nat) (v : Int32) : hp_setI (sP h M N W) 326 k v = sP h (up2 M 79 k v) N W := (mI_79 h (up2 M 0 70 (nI W.1)) (uprL N 52 W.2) k v).trans (congrArg (fun z => hm h z (uprL N 52 W.2)) (up2_comm M (by decide) _ _ _ _))
theorem sQ_80 (h : hp_T) (M : mM) (N : mN) (W : tW) (k : Nat) (v : Int32) : hp_setI (sP h M N W) 327 k v = sP h (up2 M 80 k v) N W := (mI_80 h (up2 M 0 70 (nI W.1)) (uprL N 52 W.2) k v).trans (congrArg (fun z => hm h z (uprL N 52 W.2)) (up2_comm M (by decide) _ _ _ _))
theorem sQ_81 (h : hp_T) (M : mM) (N : mN) (W : tW) (k : Nat) (v : Int32) : hp_setI (sP h M N W) 328 k v = sP h (up2 M 81 k v) N W := (mI_81 h (up2 M 0 70 (nI W.1)) (uprL N 52 W.2) k v).trans (congrArg (fun z => hm h z (uprL N 52 W.2)) (up2_comm M (by decide) _ _ _ _))
theorem sQ_82 (h : hp_T) (M : mM) (N : mN) (W : tW) (k : Nat) (v : Int32) : hp_setI (sP h M N W) 329 k v = sP h (up2 M 82 k v) N W := (mI_82 h (up2 M 0 70 (nI W.1)) (uprL N 52 W.2) k v).trans (congrArg (fun z => hm h z (uprL N 52 W.2)) (up2_comm M (by decide) _ _ _ _))
theorem sQ_83 (h : hp_T) (M : mM) (N : mN) (W : tW) (k : Nat) (v : Int32) : hp_setI (sP h M N W) 330 k v = sP h (up2 M 83 k v) N W := (mI_83 h (up2 M 0 70 (nI W.1)) (uprL N 52 W.2) k v).trans (congrArg (fun z => hm h z (uprL N 52 W.2)) (up2_comm M (by decide) _ _ _ _))
theorem sQ_84 (h : hp_T) (M : mM) (N : mN) (W : tW) (k : Nat) (v : Int32) : hp_setI (sP h M N W) 331 k v = sP h (up2 M 84 k v) N W := (mI_84 h (up2 M 0 70 (nI W.1)) (uprL N 52 W.2) k v).trans (congrArg (fun z => hm h z (uprL N 52 W.2)) (up2_comm M (by decide) _ _ _ _))
theorem sQ_85 (h : hp_T) (M : mM) (N : mN) (W : tW) (k : Nat) (v : Int32) : hp_setI (sP h M N W) 332 k v = sP h (up2 M 85 k v) N W := (mI_85 h (up2 M 0 70 (nI W.1)) (uprL N 52 W.2) k v).trans (congrArg (fun z => hm h z (uprL N 52 W.2)) (up2_comm M (by decide) _ _ _ _))
def golB (n s w g : Nat) (z : qS) (jz : Nat) : qS := (if (zb (jz < w * g ∧ ¬ z.1 34 jz = 0)) = 0 then ((up2 (up2 (up2 (up2 (up2 (up2 z.1 53 jz 0) 54 jz 0) 55 jz 0) 56 jz 0) 57 jz (-1)) 59 jz 0), z.2) else ((up2 ((hepS n s w g jz ((up2 (up2 (up2 (up2 (up2 z.1 53 jz 0) 54 jz 0) 55 jz 0) 56 jz 0) 57 jz (-1)), z.2) 9).2.1) 59 jz ((hepS n s w g jz ((up2 (up2 (up2 (up2 (up2 z.1 53 jz 0) 54 jz 0) 55 jz 0) 56 jz 0) 57 jz (-1)), z.2) 9).1)), (hepS n s w g jz ((up2 (up2 (up2 (up2 (up2 z.1 53 jz 0) 54 jz 0) 55 jz 0) 56 jz 0) 57 jz (-1)), z.2) 9).2.2))
theorem golB_I {n s w g : Nat} (z : qS) (jz : Nat) (I : refI z.1 n s w g) : refI (golB n s w g z jz).1 n s w g := by
  unfold golB
  split
  · exact I
  · exact hep_I (c := jz) (z := (up2 (up2 (up2 (up2 (up2 z.1 53 jz 0) 54 jz 0) 55 jz 0) 56 jz 0) 57 jz (-1), z.2)) I 9
theorem gol_I {n s w g : Nat} {M : mM} {W : tW} (I : refI M n s w g) : ∀ j, refI (itN (golB n s w g) (M, W) j).1 n s w g
  | 0 => I
  | j + 1 => golB_I _ j (gol_I I j)
theorem l_gol (E : gE) {d : Nat} (hd : 8 ≤ d) {n s w g c0 T : Nat} (h : hp_T) (hG : gr h) (M : mM) (N : mN) (I : refI M n s w g) (W : tW) {v : Option Value} {hz : hp_T} (K : gf E mX12_goes d 72 [(0, .ref (E.1 + 247)), (1, .int (nI c0)), (2, .int (nI T)), (3, .int (nI (120 : Nat)))] [] (sP h ((itN (golB n s w g) (M, W) (120 : Nat)).1) N ((itN (golB n s w g) (M, W) (120 : Nat)).2)) v hz) : ∀ (kz jz : Nat), jz + kz = (120 : Nat) → gf E mX12_goes d 2 [(0, .ref (E.1 + 247)), (1, .int (nI c0)), (2, .int (nI T)), (3, .int (nI jz))] [] (sP h ((itN (golB n s w g) (M, W) jz).1) N ((itN (golB n s w g) (M, W) jz).2)) v hz := by
  obtain ⟨w1, w2, g1, g2⟩ := I.2.1.1
  have hn : w * g ≤ 120 := Nat.le_trans (Nat.mul_le_mul w2 g2) (by decide)
  intro kz
  induction kz with
  | zero =>
    intro jz hj
    have hj : (120 : Nat) = jz := by omega
    subst hj
    have Iz : refI (itN (golB n s w g) (M, W) (120 : Nat)).1 n s w g := gol_I I (120 : Nat)
    generalize ez : (itN (golB n s w g) (M, W) (120 : Nat)) = z at K Iz ⊢
    refine gf_iload_n 3 dX12_goes_2 rfl rfl ?_
    refine gf_bipush (120) dX12_goes_3 rfl ?_
    refine gf_icmp_ge 72 dX12_goes_5 rfl (fun _ => ?_) (fun q => absurd (Int32.le_refl _) q)
    exact gf_lw K ⟨rfl, rfl, rfl, rfl, trivial⟩
  | succ kz ih =>
    intro jz hj
    have ih1 := ih (jz + 1) (by omega)
    have Iz : refI (itN (golB n s w g) (M, W) jz).1 n s w g := gol_I I jz
    rw [show (itN (golB n s w g) (M, W) (jz + 1)) = golB n s w g (itN (golB n s w g) (M, W) jz) jz from itN_s _ _ _] at ih1
    generalize (itN (golB n s w g) (M, W) jz) = z at ih1 Iz ⊢
    refine gf_iload_n 3 dX12_goes_2 rfl rfl ?_
    refine gf_bipush (120) dX12_goes_3 rfl ?_
    refine gf_icmp_ge 72 dX12_goes_5 rfl (fun q => absurd q (nI_ge (b := 120) (by omega) (by omega))) (fun _ => ?_)
    refine gf_aload_n 0 dX12_goes_8 rfl rfl ?_
    refine gf_getR flX12_183 rfl dX12_goes_9 (gt_247 hG) (gp_247_75 hG) ?_
    refine gf_iload_n 3 dX12_goes_12 rfl rfl ?_
    refine gf_iconst (0) dX12_goes_13 rfl ?_
    refine gf_iast 120 dX12_goes_14 (gt_300 hG) (gl_300 hG) rfl (by omega) (by decide) ?_
    rw [sQ_53]
    refine gf_aload_n 0 dX12_goes_15 rfl rfl ?_
    refine gf_getR flX12_186 rfl dX12_goes_16 (gt_247 hG) (gp_247_76 hG) ?_
    refine gf_iload_n 3 dX12_goes_19 rfl rfl ?_
    refine gf_iconst (0) dX12_goes_20 rfl ?_
    refine gf_iast 120 dX12_goes_21 (gt_301 hG) (gl_301 hG) rfl (by omega) (by decide) ?_
    rw [sQ_54]
    refine gf_aload_n 0 dX12_goes_22 rfl rfl ?_
    refine gf_getR flX12_189 rfl dX12_goes_23 (gt_247 hG) (gp_247_77 hG) ?_
    refine gf_iload_n 3 dX12_goes_26 rfl rfl ?_
    refine gf_iconst (0) dX12_goes_27 rfl ?_
    refine gf_iast 120 dX12_goes_28 (gt_302 hG) (gl_302 hG) rfl (by omega) (by decide) ?_
    rw [sQ_55]
    refine gf_aload_n 0 dX12_goes_29 rfl rfl ?_
    refine gf_getR flX12_192 rfl dX12_goes_30 (gt_247 hG) (gp_247_78 hG) ?_
    refine gf_iload_n 3 dX12_goes_33 rfl rfl ?_
    refine gf_iconst (0) dX12_goes_34 rfl ?_
    refine gf_iast 120 dX12_goes_35 (gt_303 hG) (gl_303 hG) rfl (by omega) (by decide) ?_
    rw [sQ_56]
    refine gf_aload_n 0 dX12_goes_36 rfl rfl ?_
    refine gf_getR flX12_195 rfl dX12_goes_37 (gt_247 hG) (gp_247_79 hG) ?_
    refine gf_iload_n 3 dX12_goes_40 rfl rfl ?_
    refine gf_iconst (-1) dX12_goes_41 rfl ?_
    refine gf_iast 120 dX12_goes_42 (gt_304 hG) (gl_304 hG) rfl (by omega) (by decide) ?_
    rw [sQ_57]
    refine gf_aload_n 0 dX12_goes_43 rfl rfl ?_
    refine gf_getR flX12_201 rfl dX12_goes_44 (gt_247 hG) (gp_247_81 hG) ?_
    refine gf_iload_n 3 dX12_goes_47 rfl rfl ?_
    refine gf_aload_n 0 dX12_goes_48 rfl rfl ?_
    refine gf_iload_n 3 dX12_goes_49 rfl rfl ?_
    refine gf_callV cmX12_hasHouse lkX12_482 imX12_hasHouse seX12_hasHouse ⟨rfl, by decide⟩ dX12_goes_50 (d1 := d - 1) (by omega) (gt_247 hG) (e_X12_hasHouse E (by omega) (nI jz) (sP h (up2 (up2 (up2 (up2 (up2 z.1 53 jz 0) 54 jz 0) 55 jz 0) 56 jz 0) 57 jz (-1)) N z.2) hG (w := w) (g := g) (show mty (hp_i (sP h (up2 (up2 (up2 (up2 (up2 z.1 53 jz 0) 54 jz 0) 55 jz 0) 56 jz 0) 57 jz (-1)) N z.2)) w g from Iz.2.1)) rfl rfl (Nat.le_of_ble_eq_true rfl) ?_
    rw [show zb ((0 ≤ nI jz ∧ nI jz < nI (w * g)) ∧ ¬ hp_i (sP h (up2 (up2 (up2 (up2 (up2 z.1 53 jz 0) 54 jz 0) 55 jz 0) 56 jz 0) 57 jz (-1)) N z.2) 281 (nI jz).toNatClampNeg = 0) = zb (jz < w * g ∧ ¬ z.1 34 jz = 0) from hh_e (F := z.1 34) (by omega) (by omega)]
    refine gf_if_eq 64 dX12_goes_53 rfl (fun zc53 => ?_) (fun zc53 => ?_)
    · refine gf_iconst (0) dX12_goes_64 rfl ?_
      refine gf_iast 120 dX12_goes_65 (gt_306 hG) (gl_306 hG) rfl (by omega) (by decide) ?_
      rw [sQ_59]
      refine gf_iinc (1) dX12_goes_66 rfl rfl (Nat.le_of_ble_eq_true rfl) ?_
      refine gf_goto 2 dX12_goes_69 rfl ?_
      rw [show golB n s w g z jz = ((up2 (up2 (up2 (up2 (up2 (up2 z.1 53 jz 0) 54 jz 0) 55 jz 0) 56 jz 0) 57 jz (-1)) 59 jz 0), z.2) from if_pos zc53] at ih1
      exact gf_lw ih1 ⟨rfl, rfl, rfl, lvE (nI_1 jz), trivial⟩
    · refine gf_aload_n 0 dX12_goes_56 rfl rfl ?_
      refine gf_iload_n 3 dX12_goes_57 rfl rfl ?_
      refine gf_callV cmX12_helps lkX12_565 imX12_helps seX12_helps ⟨rfl, by decide⟩ dX12_goes_58 (d1 := d - 1) (by omega) (gt_247 hG) (e_X12_helps E (by omega) h hG (up2 (up2 (up2 (up2 (up2 z.1 53 jz 0) 54 jz 0) 55 jz 0) 56 jz 0) 57 jz (-1)) N (show refI (up2 (up2 (up2 (up2 (up2 z.1 53 jz 0) 54 jz 0) 55 jz 0) 56 jz 0) 57 jz (-1)) n s w g from Iz) z.2 (zb_1.mp zc53).1 (zb_1.mp zc53).2) rfl rfl (Nat.le_of_ble_eq_true rfl) ?_
      refine gf_goto 65 dX12_goes_61 rfl ?_
      refine gf_iast 120 dX12_goes_65 (gt_306 hG) (gl_306 hG) rfl (by omega) (by decide) ?_
      rw [sQ_59]
      refine gf_iinc (1) dX12_goes_66 rfl rfl (Nat.le_of_ble_eq_true rfl) ?_
      refine gf_goto 2 dX12_goes_69 rfl ?_
      rw [show golB n s w g z jz = ((up2 ((hepS n s w g jz ((up2 (up2 (up2 (up2 (up2 z.1 53 jz 0) 54 jz 0) 55 jz 0) 56 jz 0) 57 jz (-1)), z.2) 9).2.1) 59 jz ((hepS n s w g jz ((up2 (up2 (up2 (up2 (up2 z.1 53 jz 0) 54 jz 0) 55 jz 0) 56 jz 0) 57 jz (-1)), z.2) 9).1)), (hepS n s w g jz ((up2 (up2 (up2 (up2 (up2 z.1 53 jz 0) 54 jz 0) 55 jz 0) 56 jz 0) 57 jz (-1)), z.2) 9).2.2) from if_neg zc53] at ih1
      exact gf_lw ih1 ⟨rfl, rfl, rfl, lvE (nI_1 jz), trivial⟩
theorem hat_row {n s w g : Nat} {o : Int32} {c : Nat} {z : qS} {r : Nat} (h0 : r ≠ 0) : (hatS n s w g o c z).2.1 r = z.1 r := by
  unfold hatS
  split
  · rfl
  · split
    · rfl
    · show hatM z.1 n s c r = z.1 r
      unfold hatM askM
      rw [up2_row h0, up2_row h0, up2_row h0, up2_row h0]
theorem hep_row {n s w g c : Nat} {z : qS} {r : Nat} (h0 : r ≠ 0) : ∀ o, (hepS n s w g c z o).2.1 r = z.1 r
  | 0 => rfl
  | o + 1 => (hat_row (n := n) (s := s) (w := w) (g := g) h0).trans (hep_row (n := n) (s := s) (w := w) (g := g) h0 o)
theorem gol_row {n s w g : Nat} {z : qS} {r : Nat} (h0 : r ≠ 0) (h3 : r ≠ 53) (h4 : r ≠ 54) (h5 : r ≠ 55) (h6 : r ≠ 56) (h7 : r ≠ 57) (h9 : r ≠ 59) : ∀ j, (itN (golB n s w g) z j).1 r = z.1 r
  | 0 => rfl
  | j + 1 => by
    refine Eq.trans ?_ (gol_row (n := n) (s := s) (w := w) (g := g) h0 h3 h4 h5 h6 h7 h9 j)
    show (golB n s w g (itN (golB n s w g) z j) j).1 r = _
    generalize itN (golB n s w g) z j = y
    unfold golB
    split
    · simp only [up2_row h3, up2_row h4, up2_row h5, up2_row h6, up2_row h7, up2_row h9]
    · simp only [up2_row h9, hep_row h0, up2_row h3, up2_row h4, up2_row h5, up2_row h6, up2_row h7]
def goeB (z : mM) (jz : Nat) : mM := (up2 (up2 (up2 z 60 jz (z 42 jz)) 61 jz (-1)) 62 jz (-1))
theorem goeB_row (z : mM) (jz : Nat) {r : Nat} (h0 : r ≠ 60) (h1 : r ≠ 61) (h2 : r ≠ 62) : goeB z jz r = z r := by
  unfold goeB
  simp only [up2_row h0, up2_row h1, up2_row h2]
theorem l_goe (E : gE) {d : Nat} {w g c0 T m : Nat} (h : hp_T) (hG : gr h) (M : mM) (N : mN) (hme : M 0 54 = nI m) (hm12 : m ≤ 12) {v : Option Value} {hz : hp_T} (K : gf E mX12_goes d 135 [(0, .ref (E.1 + 247)), (1, .int (nI c0)), (2, .int (nI T)), (3, .int (nI m))] [] (hm h (itN (goeB) M m) N) v hz) : ∀ (kz jz : Nat), jz + kz = m → gf E mX12_goes d 95 [(0, .ref (E.1 + 247)), (1, .int (nI c0)), (2, .int (nI T)), (3, .int (nI jz))] [] (hm h (itN (goeB) M jz) N) v hz := by
  intro kz
  induction kz with
  | zero =>
    intro jz hj
    have hj : m = jz := by omega
    subst hj
    have Iz : (itN (goeB) M m) 0 = M 0 := itN_row (fun z j => goeB_row z j (by decide) (by decide) (by decide)) M m
    generalize ez : (itN (goeB) M m) = z at K Iz ⊢
    refine gf_iload_n 3 dX12_goes_95 rfl rfl ?_
    refine gf_aload_n 0 dX12_goes_96 rfl rfl ?_
    refine gf_getI flX12_421 rfl dX12_goes_97 (gt_247 hG) ?_
    rw [show hp_i (hm h z N) 247 54 = nI m from (congrFun Iz 54).trans hme]
    refine gf_icmp_ge 135 dX12_goes_100 rfl (fun _ => ?_) (fun q => absurd (Int32.le_refl _) q)
    exact gf_lw K ⟨rfl, rfl, rfl, rfl, trivial⟩
  | succ kz ih =>
    intro jz hj
    have ih1 := ih (jz + 1) (by omega)
    have Iz : (itN (goeB) M jz) 0 = M 0 := itN_row (fun z j => goeB_row z j (by decide) (by decide) (by decide)) M jz
    rw [show (itN (goeB) M (jz + 1)) = goeB (itN (goeB) M jz) jz from itN_s _ _ _] at ih1
    generalize (itN (goeB) M jz) = z at ih1 Iz ⊢
    refine gf_iload_n 3 dX12_goes_95 rfl rfl ?_
    refine gf_aload_n 0 dX12_goes_96 rfl rfl ?_
    refine gf_getI flX12_421 rfl dX12_goes_97 (gt_247 hG) ?_
    rw [show hp_i (hm h z N) 247 54 = nI m from (congrFun Iz 54).trans hme]
    refine gf_icmp_ge 135 dX12_goes_100 rfl (fun q => absurd q (nI_ge (by omega) (by omega))) (fun _ => ?_)
    refine gf_aload_n 0 dX12_goes_103 rfl rfl ?_
    refine gf_getR flX12_204 rfl dX12_goes_104 (gt_247 hG) (gp_247_82 hG) ?_
    refine gf_iload_n 3 dX12_goes_107 rfl rfl ?_
    refine gf_aload_n 0 dX12_goes_108 rfl rfl ?_
    refine gf_getR flX12_146 rfl dX12_goes_109 (gt_247 hG) (gp_247_56 hG) ?_
    refine gf_iload_n 3 dX12_goes_112 rfl rfl ?_
    refine gf_iald 12 dX12_goes_113 (gt_289 hG) (gl_289 hG) rfl (by omega) (by decide) ?_
    refine gf_iast 12 dX12_goes_114 (gt_307 hG) (gl_307 hG) rfl (by omega) (by decide) ?_
    rw [mI_60]
    refine gf_aload_n 0 dX12_goes_115 rfl rfl ?_
    refine gf_getR flX12_207 rfl dX12_goes_116 (gt_247 hG) (gp_247_83 hG) ?_
    refine gf_iload_n 3 dX12_goes_119 rfl rfl ?_
    refine gf_iconst (-1) dX12_goes_120 rfl ?_
    refine gf_iast 12 dX12_goes_121 (gt_308 hG) (gl_308 hG) rfl (by omega) (by decide) ?_
    rw [mI_61]
    refine gf_aload_n 0 dX12_goes_122 rfl rfl ?_
    refine gf_getR flX12_210 rfl dX12_goes_123 (gt_247 hG) (gp_247_84 hG) ?_
    refine gf_iload_n 3 dX12_goes_126 rfl rfl ?_
    refine gf_iconst (-1) dX12_goes_127 rfl ?_
    refine gf_iast 12 dX12_goes_128 (gt_309 hG) (gl_309 hG) rfl (by omega) (by decide) ?_
    rw [mI_62]
    refine gf_iinc (1) dX12_goes_129 rfl rfl (Nat.le_of_ble_eq_true rfl) ?_
    refine gf_goto 95 dX12_goes_132 rfl ?_
    rw [show goeB z jz = (up2 (up2 (up2 z 60 jz (z 42 jz)) 61 jz (-1)) 62 jz (-1)) from rfl] at ih1
    exact gf_lw ih1 ⟨rfl, rfl, rfl, lvE (nI_1 jz), trivial⟩
/-- engines and their ways are in order -/
def meI (M : mM) (n m : Nat) : Prop := M 0 54 = nI m ∧ m ≤ 12 ∧ (∀ e, e < m → ∃ q, q ≤ 9 ∧ M 43 e = nI q) ∧ (∀ e, e < m → ∃ a, a < n ∧ M 60 e = nI a) ∧ ∀ e, e < m → aimOk n (M 61 e)
theorem meI_of {M Z : mM} {n m : Nat} (h0 : Z 0 = M 0) (h43 : Z 43 = M 43) (h60 : Z 60 = M 60) (h61 : Z 61 = M 61) (I : meI M n m) : meI Z n m := by
  unfold meI
  rw [h0, h43, h60, h61]
  exact I
theorem mpo_row (M : mM) (w g e c : Nat) (t : Int32) {r : Nat} (h3 : r ≠ 53) (h4 : r ≠ 54) (h5 : r ≠ 55) (h2 : r ≠ 62) : mpoX M w g e c t r = M r := by
  have h : mpoA M e t r = M r := by
    unfold mpoA
    split
    · rw [up2_row h2]
    · rfl
  unfold mpoX
  split
  · rw [up2_row h5, h]
  · rw [up2_row h4, up2_row h5, up2_row h3, up2_row h5, h]
theorem mdr2_row (w g e : Nat) (t : Int32) (M : mM) {r : Nat} (h3 : r ≠ 53) (h4 : r ≠ 54) (h5 : r ≠ 55) (h2 : r ≠ 62) (h0 : r ≠ 60) : mdr2 w g e t M r = M r := by
  unfold mdr2
  repeat' split
  all_goals first | rfl | simp only [mpo_row _ _ _ _ _ _ h3 h4 h5 h2, up2_row h0]
theorem mne_row (w g e : Nat) (M : mM) {r : Nat} (h1 : r ≠ 61) : mneX w g e M r = M r := (itN_row (fun z j => mneB_row z j h1) _ _).trans (up2_row h1)
theorem mdr_row (w g e : Nat) (t : Int32) (M : mM) {r : Nat} (h3 : r ≠ 53) (h4 : r ≠ 54) (h5 : r ≠ 55) (h2 : r ≠ 62) (h0 : r ≠ 60) (h1 : r ≠ 61) : mdrV w g e t M r = M r := by
  unfold mdrV
  repeat' split
  all_goals simp only [mdr2_row _ _ _ _ _ h3 h4 h5 h2 h0, mne_row _ _ _ _ h1]
theorem mdr2_60 (w g e : Nat) (t : Int32) (M : mM) {x : Nat} (hx : x ≠ e) : mdr2 w g e t M 60 x = M 60 x := by
  unfold mdr2
  repeat' split
  all_goals first | rfl | (rw [mpo_row _ _ _ _ _ _ (by decide) (by decide) (by decide) (by decide)]; exact up2_k M _ hx) | exact up2_k M _ hx
theorem mdr2_60e (w g e : Nat) (t : Int32) (M : mM) : mdr2 w g e t M 60 e = if M 61 e = -1 then M 60 e else mdrS M e := by
  unfold mdr2
  by_cases q : M 61 e = -1
  · rw [if_pos q, if_pos q]
  · rw [if_neg q, if_neg q]
    repeat' split
    all_goals first | (rw [mpo_row _ _ _ _ _ _ (by decide) (by decide) (by decide) (by decide)]; exact up2_s M 60 e _) | exact up2_s M 60 e _
theorem mdr_I {w g e m : Nat} {t : Int32} {M : mM} (I : mfi M w g) (J : meI M (w * g) m) (he : e < m) : meI (mdrV w g e t M) (w * g) m := by
  have key : ∀ Z : mM, (Z 0 = M 0 ∧ Z 43 = M 43 ∧ Z 60 = M 60) → (∀ x, x < m → aimOk (w * g) (Z 61 x)) → mcty Z w g → meI (mdr2 w g e t Z) (w * g) m := by
    intro Z hZ hA C
    have r0 := mdr2_row w g e t Z (r := 0) (by decide) (by decide) (by decide) (by decide) (by decide)
    have r43 := mdr2_row w g e t Z (r := 43) (by decide) (by decide) (by decide) (by decide) (by decide)
    have r61 := mdr2_row w g e t Z (r := 61) (by decide) (by decide) (by decide) (by decide) (by decide)
    refine ⟨by rw [r0, hZ.1]; exact J.1, J.2.1, by rw [r43, hZ.2.1]; exact J.2.2.1, ?_, by rw [r61]; exact hA⟩
    intro x hx
    by_cases q : x = e
    · subst q
      rw [mdr2_60e]
      split
      · rw [hZ.2.2]; exact J.2.2.2.1 x hx
      · rename_i q
        obtain ⟨b, hb, eb⟩ := (hA x hx).resolve_left q
        obtain ⟨a, ha, ea⟩ := J.2.2.2.1 x hx
        obtain ⟨k, hk, ek⟩ := J.2.2.1 x hx
        obtain ⟨c, hc, ec, -⟩ := mdr_e (M := Z) C ha hb hk (by rw [hZ.2.2]; exact ea) eb (by rw [hZ.2.1]; exact ek)
        exact ⟨c, hc, ec⟩
    · rw [mdr2_60 w g e t Z q, hZ.2.2]
      exact J.2.2.2.1 x hx
  have k1 := key M ⟨rfl, rfl, rfl⟩ J.2.2.2.2 I.1
  have hs : ∃ a, a < w * g ∧ mne0 M e 60 e = nI a := J.2.2.2.1 e he
  have kk := mne_I (w := w) (g := g) (e := e) (n := w * g) (M := mne0 M e) (show mfi (mne0 M e) w g from I) hs (Or.inl (up2_s M 61 e _)) (Nat.le_refl _) (w * g) (Nat.le_refl _)
  have k2 := key (mneX w g e M) ⟨mne_row w g e M (by decide), mne_row w g e M (by decide), mne_row w g e M (by decide)⟩ (fun x hx => by
    by_cases q : x = e
    · subst q; exact kk.2.2
    · have e9 : ∀ n, itN (mneB w g e) (mne0 M e) n 61 x = M 61 x := fun n => by
        induction n with
        | zero => exact up2_k M _ q
        | succ n ih =>
          refine Eq.trans ?_ ih
          show mneB w g e (itN (mneB w g e) (mne0 M e) n) n 61 x = _
          generalize itN (mneB w g e) (mne0 M e) n = y
          unfold mneB
          repeat' split
          all_goals first | rfl | exact up2_k _ _ q
      show aimOk _ (itN (mneB w g e) (mne0 M e) (w * g) 61 x)
      rw [e9]
      exact J.2.2.2.2 x hx) kk.1.1
  unfold mdrV
  repeat' split
  all_goals first | exact k1 | exact k2
def godB (w g t : Nat) (z : mM) (jz : Nat) : mM := (mdrV w g jz (nI t) z)
theorem god_I {w g t m : Nat} {M : mM} (I : mfi M w g) (J : meI M (w * g) m) : ∀ j, j ≤ m → mfi (itN (godB w g t) M j) w g ∧ meI (itN (godB w g t) M j) (w * g) m
  | 0, _ => ⟨I, J⟩
  | j + 1, hj => by
    obtain ⟨a, b⟩ := god_I I J j (by omega)
    have hr : ∀ {r : Nat}, r ≠ 53 → r ≠ 54 → r ≠ 55 → r ≠ 62 → r ≠ 60 → r ≠ 61 → godB w g t (itN (godB w g t) M j) j r = itN (godB w g t) M j r := fun h3 h4 h5 h2 h0 h1 => mdr_row _ _ _ _ _ h3 h4 h5 h2 h0 h1
    exact ⟨mfi_of (hr (by decide) (by decide) (by decide) (by decide) (by decide) (by decide)) (hr (by decide) (by decide) (by decide) (by decide) (by decide) (by decide)) (hr (by decide) (by decide) (by decide) (by decide) (by decide) (by decide)) a, mdr_I a b (by omega)⟩
theorem l_god (E : gE) {d : Nat} (hd : 5 ≤ d) {w g c0 T m t : Nat} (h : hp_T) (hG : gr h) (M : mM) (N : mN) (I : mfi M w g) (J : meI M (w * g) m) {v : Option Value} {hz : hp_T} (K : gf E mX12_goes d 181 [(0, .ref (E.1 + 247)), (1, .int (nI c0)), (2, .int (nI T)), (3, .int (nI t)), (4, .int (nI m))] [] (hm h (itN (godB w g t) M m) N) v hz) : ∀ (kz jz : Nat), jz + kz = m → gf E mX12_goes d 159 [(0, .ref (E.1 + 247)), (1, .int (nI c0)), (2, .int (nI T)), (3, .int (nI t)), (4, .int (nI jz))] [] (hm h (itN (godB w g t) M jz) N) v hz := by
  intro kz
  induction kz with
  | zero =>
    intro jz hj
    have hj : m = jz := by omega
    subst hj
    have Iz := god_I (t := t) I J m (by omega)
    generalize ez : (itN (godB w g t) M m) = z at K Iz ⊢
    refine gf_iload dX12_goes_159 rfl ?_
    refine gf_aload_n 0 dX12_goes_161 rfl rfl ?_
    refine gf_getI flX12_421 rfl dX12_goes_162 (gt_247 hG) ?_
    rw [show hp_i (hm h z N) 247 54 = nI m from Iz.2.1]
    refine gf_icmp_ge 181 dX12_goes_165 rfl (fun _ => ?_) (fun q => absurd (Int32.le_refl _) q)
    exact gf_lw K ⟨rfl, rfl, rfl, rfl, rfl, trivial⟩
  | succ kz ih =>
    intro jz hj
    have ih1 := ih (jz + 1) (by omega)
    have Iz := god_I (t := t) I J jz (by omega)
    rw [show (itN (godB w g t) M (jz + 1)) = godB w g t (itN (godB w g t) M jz) jz from itN_s _ _ _] at ih1
    generalize (itN (godB w g t) M jz) = z at ih1 Iz ⊢
    refine gf_iload dX12_goes_159 rfl ?_
    refine gf_aload_n 0 dX12_goes_161 rfl rfl ?_
    refine gf_getI flX12_421 rfl dX12_goes_162 (gt_247 hG) ?_
    rw [show hp_i (hm h z N) 247 54 = nI m from Iz.2.1]
    refine gf_icmp_ge 181 dX12_goes_165 rfl (fun q => absurd q (nI_ge (by omega) (by have := J.2.1; omega))) (fun _ => ?_)
    refine gf_aload_n 0 dX12_goes_168 rfl rfl ?_
    refine gf_iload dX12_goes_169 rfl ?_
    refine gf_iload_n 3 dX12_goes_171 rfl rfl ?_
    refine gf_callV cmX12_drives lkX12_574 imX12_drives seX12_drives ⟨rfl, by decide⟩ dX12_goes_172 (d1 := d - 1) (by omega) (gt_247 hG) (e_X12_drives E (by omega) (nI t) h hG z N Iz.1 (show jz < 12 by have := J.2.1; omega) (Iz.2.2.2.1 jz (by omega)) (Iz.2.2.2.2.1 jz (by omega)) (Iz.2.2.2.2.2 jz (by omega))) rfl rfl (Nat.le_of_ble_eq_true rfl) ?_
    refine gf_iinc (1) dX12_goes_175 rfl rfl (Nat.le_of_ble_eq_true rfl) ?_
    refine gf_goto 159 dX12_goes_178 rfl ?_
    rw [show godB w g t z jz = (mdrV w g jz (nI t) z) from rfl] at ih1
    exact gf_lw ih1 ⟨rfl, rfl, rfl, rfl, lvE (nI_1 jz), trivial⟩
theorem mgr_I {w g n m : Nat} {M : mM} (I : mfi M w g) (J : meI M n m) (k : Nat) : mfi (itN mgrB M k) w g ∧ meI (itN mgrB M k) n m := by
  have hr : ∀ {r : Nat}, r ≠ 53 → r ≠ 55 → r ≠ 56 → itN mgrB M k r = M r := fun h3 h5 h6 => mgr_row M h3 h5 h6 k
  exact ⟨mfi_of (hr (by decide) (by decide) (by decide)) (hr (by decide) (by decide) (by decide)) (hr (by decide) (by decide) (by decide)) I, meI_of (hr (by decide) (by decide) (by decide)) (hr (by decide) (by decide) (by decide)) (hr (by decide) (by decide) (by decide)) (hr (by decide) (by decide) (by decide)) J⟩
theorem msp_I {w g n m t : Nat} {M : mM} (I : mfi M w g) (J : meI M n m) : mfi (msprX w g t M) w g ∧ meI (msprX w g t M) n m := by
  have hr : ∀ {r : Nat}, r ≠ 53 → r ≠ 54 → r ≠ 55 → r ≠ 57 → r ≠ 58 → msprX w g t M r = M r := fun h3 h4 h5 h7 h8 => mspr_row w g t M h3 h4 h5 h7 h8
  exact ⟨mfi_of (hr (by decide) (by decide) (by decide) (by decide) (by decide)) (hr (by decide) (by decide) (by decide) (by decide) (by decide)) (hr (by decide) (by decide) (by decide) (by decide) (by decide)) I, meI_of (hr (by decide) (by decide) (by decide) (by decide) (by decide)) (hr (by decide) (by decide) (by decide) (by decide) (by decide)) (hr (by decide) (by decide) (by decide) (by decide) (by decide)) (hr (by decide) (by decide) (by decide) (by decide) (by decide)) J⟩
def gomB (w g m : Nat) (z : mM) (jz : Nat) : mM := (if (nI (jz + 1)) < 3 then (msprX w g (jz + 1) (itN mgrB z (w * g))) else (itN (godB w g (jz + 1)) (msprX w g (jz + 1) (itN mgrB z (w * g))) m))
theorem gom_I {w g m : Nat} {M : mM} (I : mfi M w g) (J : meI M (w * g) m) : ∀ j, mfi (itN (gomB w g m) M j) w g ∧ meI (itN (gomB w g m) M j) (w * g) m
  | 0 => ⟨I, J⟩
  | j + 1 => by
    obtain ⟨a, b⟩ := gom_I I J j
    obtain ⟨a1, b1⟩ := mgr_I a b (w * g)
    obtain ⟨a2, b2⟩ := msp_I (t := j + 1) a1 b1
    have h3 := god_I (t := j + 1) a2 b2 m (Nat.le_refl _)
    show mfi (gomB w g m (itN (gomB w g m) M j) j) w g ∧ meI (gomB w g m (itN (gomB w g m) M j) j) (w * g) m
    unfold gomB
    split
    · exact ⟨a2, b2⟩
    · exact h3
theorem l_gom (E : gE) {d : Nat} (hd : 6 ≤ d) {w g c0 T m : Nat} (h : hp_T) (hG : gr h) (M : mM) (N : mN) (I : mfi M w g) (J : meI M (w * g) m) (hT : T ≤ 120) {v : Option Value} {hz : hp_T} (K : gf E mX12_goes d 187 [(0, .ref (E.1 + 247)), (1, .int (nI c0)), (2, .int (nI T)), (3, .int (nI (T + 1)))] [] (hm h (itN (gomB w g m) M T) N) v hz) : ∀ (kz jz : Nat), jz + kz = T → gf E mX12_goes d 137 [(0, .ref (E.1 + 247)), (1, .int (nI c0)), (2, .int (nI T)), (3, .int (nI (jz + 1)))] [] (hm h (itN (gomB w g m) M jz) N) v hz := by
  intro kz
  induction kz with
  | zero =>
    intro jz hj
    have hj : T = jz := by omega
    subst hj
    have Iz := gom_I I J T
    generalize ez : (itN (gomB w g m) M T) = z at K Iz ⊢
    refine gf_iload_n 3 dX12_goes_137 rfl rfl ?_
    refine gf_iload_n 2 dX12_goes_138 rfl rfl ?_
    refine gf_icmp_gt 187 dX12_goes_139 rfl (fun _ => ?_) (fun q => absurd (nI_lt (by omega) (by omega)) q)
    exact gf_lw K ⟨rfl, rfl, rfl, rfl, trivial⟩
  | succ kz ih =>
    intro jz hj
    have ih1 := ih (jz + 1) (by omega)
    have Iz := gom_I I J jz
    rw [show (itN (gomB w g m) M (jz + 1)) = gomB w g m (itN (gomB w g m) M jz) jz from itN_s _ _ _] at ih1
    generalize (itN (gomB w g m) M jz) = z at ih1 Iz ⊢
    refine gf_iload_n 3 dX12_goes_137 rfl rfl ?_
    refine gf_iload_n 2 dX12_goes_138 rfl rfl ?_
    refine gf_icmp_gt 187 dX12_goes_139 rfl (fun q => absurd q (nI_nlt (by omega) (by omega))) (fun _ => ?_)
    refine gf_aload_n 0 dX12_goes_142 rfl rfl ?_
    refine gf_callV cmX12_grows lkX12_568 imX12_grows seX12_grows ⟨rfl, by decide⟩ dX12_goes_143 (d1 := d - 1) (by omega) (gt_247 hG) (e_X12_grows E (by omega) h hG z N Iz.1.1 Iz.1.2.1) rfl rfl (Nat.le_of_ble_eq_true rfl) ?_
    refine gf_aload_n 0 dX12_goes_146 rfl rfl ?_
    refine gf_iload_n 3 dX12_goes_147 rfl rfl ?_
    refine gf_callV cmX12_spreads lkX12_571 imX12_spreads seX12_spreads ⟨rfl, by decide⟩ dX12_goes_148 (d1 := d - 1) (by omega) (gt_247 hG) (e_X12_spreads E (by omega) (t := jz + 1) h hG (itN mgrB z (w * g)) N (mgr_I Iz.1 Iz.2 (w * g)).1 (by omega)) rfl rfl (Nat.le_of_ble_eq_true rfl) ?_
    have I2 := msp_I (t := jz + 1) (mgr_I Iz.1 Iz.2 (w * g)).1 (mgr_I Iz.1 Iz.2 (w * g)).2
    refine gf_iload_n 3 dX12_goes_151 rfl rfl ?_
    refine gf_iconst (3) dX12_goes_152 rfl ?_
    refine gf_icmp_lt 181 dX12_goes_153 rfl (fun zc153 => ?_) (fun zc153 => ?_)
    · refine gf_iinc (1) dX12_goes_181 rfl rfl (Nat.le_of_ble_eq_true rfl) ?_
      refine gf_goto 137 dX12_goes_184 rfl ?_
      rw [show gomB w g m z jz = (msprX w g (jz + 1) (itN mgrB z (w * g))) from if_pos zc153] at ih1
      exact gf_lw ih1 ⟨rfl, rfl, rfl, lvE (nI_1 (jz + 1)), trivial⟩
    · refine gf_iconst (0) dX12_goes_156 rfl ?_
      refine gf_istore dX12_goes_157 (Nat.le_of_ble_eq_true rfl) ?_
      refine gf_lw (l_god E (by omega) (t := jz + 1) h hG (msprX w g (jz + 1) (itN mgrB z (w * g))) N I2.1 I2.2 ?_ m 0 (by omega)) ⟨rfl, rfl, rfl, rfl, rfl, trivial⟩
      refine gf_iinc (1) dX12_goes_181 rfl rfl (Nat.le_of_ble_eq_true rfl) ?_
      refine gf_goto 137 dX12_goes_184 rfl ?_
      rw [show gomB w g m z jz = (itN (godB w g (jz + 1)) (msprX w g (jz + 1) (itN mgrB z (w * g))) m) from if_neg zc153] at ih1
      exact gf_lw ih1 ⟨rfl, rfl, rfl, lvE (nI_1 (jz + 1)), trivial⟩
def goZ (n s w g : Nat) (z : qS) : qS := itN (golB n s w g) z 120
def goM (z : qS) : mM := up2 z.1 0 70 (nI z.2.1)
def goN (N : mN) (z : qS) : mN := uprL N 52 z.2.2
def gopK (c0 m : Nat) (M : mM) : mM := itN goeB (up2 (up2 (up2 M 53 c0 1) 55 c0 1) 57 c0 0) m
/-- the fire from c0, T minutes -/
def goF (n s w g m c0 T : Nat) (z : qS) : mM := itN (gomB w g m) (gopK c0 m (goM (goZ n s w g z))) T
/-- walls, trades, homes, ways of the engines: before a fire -/
def preI (M : mM) (w g m : Nat) : Prop := (∀ c, c < 120 → ∃ k, k < 4 ∧ M 31 c = nI k) ∧ (∀ c, c < 120 → ∃ k, k < 6 ∧ M 32 c = nI k) ∧ M 0 54 = nI m ∧ m ≤ 12 ∧ (∀ e, e < m → ∃ q, q ≤ 9 ∧ M 43 e = nI q) ∧ (∀ e, e < m → ∃ a, a < w * g ∧ M 42 e = nI a)
theorem hat_0 {n s w g : Nat} {o : Int32} {c : Nat} {z : qS} {k : Nat} (h1 : k ≠ 71) (h2 : k ≠ 72) (h3 : k ≠ 73) (h4 : k ≠ 74) : (hatS n s w g o c z).2.1 0 k = z.1 0 k := by
  unfold hatS
  split
  · rfl
  · split
    · rfl
    · show hatM z.1 n s c 0 k = z.1 0 k
      unfold hatM askM
      rw [up2_k _ _ h4, up2_k _ _ h3, up2_k _ _ h2, up2_k _ _ h1]
theorem hep_0 {n s w g c : Nat} {z : qS} {k : Nat} (h1 : k ≠ 71) (h2 : k ≠ 72) (h3 : k ≠ 73) (h4 : k ≠ 74) : ∀ o, (hepS n s w g c z o).2.1 0 k = z.1 0 k
  | 0 => rfl
  | o + 1 => (hat_0 (n := n) (s := s) (w := w) (g := g) h1 h2 h3 h4).trans (hep_0 (n := n) (s := s) (w := w) (g := g) h1 h2 h3 h4 o)
theorem gol_0 {n s w g : Nat} {z : qS} {k : Nat} (h1 : k ≠ 71) (h2 : k ≠ 72) (h3 : k ≠ 73) (h4 : k ≠ 74) : ∀ j, (itN (golB n s w g) z j).1 0 k = z.1 0 k
  | 0 => rfl
  | j + 1 => by
    refine Eq.trans ?_ (gol_0 (n := n) (s := s) (w := w) (g := g) h1 h2 h3 h4 j)
    show (golB n s w g (itN (golB n s w g) z j) j).1 0 k = _
    generalize itN (golB n s w g) z j = y
    unfold golB
    split
    · rfl
    · exact hep_0 (z := (up2 (up2 (up2 (up2 (up2 y.1 53 j 0) 54 j 0) 55 j 0) 56 j 0) 57 j (-1), y.2)) h1 h2 h3 h4 9
theorem goe_60 {n m : Nat} {M : mM} (h : ∀ e, e < m → ∃ a, a < n ∧ M 42 e = nI a) : ∀ j, j ≤ m → ∀ e, e < j → (∃ a, a < n ∧ itN goeB M j 60 e = nI a) ∧ aimOk n (itN goeB M j 61 e)
  | 0, _, e, he => absurd he (Nat.not_lt_zero e)
  | j + 1, hj, e, he => by
    have e42 : itN goeB M j 42 = M 42 := itN_row (fun z j => goeB_row z j (by decide) (by decide) (by decide)) M j
    have ih := goe_60 h j (by omega)
    show (∃ a, a < n ∧ goeB (itN goeB M j) j 60 e = nI a) ∧ aimOk n (goeB (itN goeB M j) j 61 e)
    by_cases q : e = j
    · subst q
      have e1 : goeB (itN goeB M e) e 60 e = itN goeB M e 42 e := up2_s (itN goeB M e) 60 e _
      have e2 : goeB (itN goeB M e) e 61 e = -1 := up2_s (up2 (itN goeB M e) 60 e _) 61 e _
      rw [e1, e2, e42]
      exact ⟨h e (by omega), Or.inl rfl⟩
    · have e1 : goeB (itN goeB M j) j 60 e = itN goeB M j 60 e := up2_k (itN goeB M j) _ q
      have e2 : goeB (itN goeB M j) j 61 e = itN goeB M j 61 e := up2_k (up2 (itN goeB M j) 60 j _) _ q
      rw [e1, e2]
      exact ih e (by omega)
theorem go_I {n s w g m c0 : Nat} {z : qS} (I : refI z.1 n s w g) (J : preI z.1 w g m) : mfi (gopK c0 m (goM (goZ n s w g z))) w g ∧ meI (gopK c0 m (goM (goZ n s w g z))) (w * g) m := by
  have r : ∀ {r : Nat}, r ≠ 0 → r ≠ 53 → r ≠ 54 → r ≠ 55 → r ≠ 56 → r ≠ 57 → r ≠ 59 → r ≠ 60 → r ≠ 61 → r ≠ 62 → gopK c0 m (goM (goZ n s w g z)) r = z.1 r := fun h0 h3 h4 h5 h6 h7 h9 g0 g1 g2 =>
    (itN_row (fun z j => goeB_row z j g0 g1 g2) _ m).trans (((up2_row h7).trans ((up2_row h5).trans ((up2_row h3).trans (up2_row h0)))).trans (gol_row h0 h3 h4 h5 h6 h7 h9 120))
  have r0 : ∀ {k : Nat}, k ≠ 70 → k ≠ 71 → k ≠ 72 → k ≠ 73 → k ≠ 74 → gopK c0 m (goM (goZ n s w g z)) 0 k = z.1 0 k := fun h0 h1 h2 h3 h4 =>
    (congrFun (itN_row (fun z j => goeB_row z j (by decide) (by decide) (by decide)) _ m) _).trans ((up2_k (goZ n s w g z).1 _ h0).trans (gol_0 h1 h2 h3 h4 120))
  have e31 := r (r := 31) (by decide) (by decide) (by decide) (by decide) (by decide) (by decide) (by decide) (by decide) (by decide) (by decide)
  have e32 := r (r := 32) (by decide) (by decide) (by decide) (by decide) (by decide) (by decide) (by decide) (by decide) (by decide) (by decide)
  have e43 := r (r := 43) (by decide) (by decide) (by decide) (by decide) (by decide) (by decide) (by decide) (by decide) (by decide) (by decide)
  have e42 : (goM (goZ n s w g z)) 42 = z.1 42 := (up2_row (by decide)).trans (gol_row (by decide) (by decide) (by decide) (by decide) (by decide) (by decide) (by decide) 120)
  have hg := goe_60 (M := up2 (up2 (up2 (goM (goZ n s w g z)) 53 c0 1) 55 c0 1) 57 c0 0) (n := w * g) (m := m) (by show ∀ e, e < m → ∃ a, a < w * g ∧ goM (goZ n s w g z) 42 e = nI a; rw [e42]; exact J.2.2.2.2.2) m (Nat.le_refl _)
  refine ⟨⟨⟨I.2.1.1, by rw [r0 (by decide) (by decide) (by decide) (by decide) (by decide)]; exact I.2.1.2.1, by rw [r0 (by decide) (by decide) (by decide) (by decide) (by decide)]; exact I.2.1.2.2⟩, by rw [e31]; exact J.1, by rw [e32]; exact J.2.1⟩, by rw [r0 (by decide) (by decide) (by decide) (by decide) (by decide)]; exact J.2.2.1, J.2.2.2.1, by rw [e43]; exact J.2.2.2.2.1, fun e he => (hg e he).1, fun e he => (hg e he).2⟩
theorem e_X12_goes (E : gE) {d : Nat} (hd : 8 ≤ d) {n s w g m c0 T : Nat} (h : hp_T) (hG : gr h) (M : mM) (N : mN) (I : refI M n s w g) (W : tW) (J : preI M w g m) (hc : c0 < w * g) (hT : T ≤ 120) : ev E mX12_goes d [.ref (E.1 + 247), .int (nI c0), .int (nI T)] (sP h M N W) none (hm h (goF n s w g m c0 T (M, W)) (goN N (goZ n s w g (M, W)))) := by
  refine ev_of rfl (fun q => absurd q (by decide)) (Nat.le_of_ble_eq_true rfl) ?_
  obtain ⟨w1, w2, g1, g2⟩ := I.2.1.1
  have hn : w * g ≤ 120 := Nat.le_trans (Nat.mul_le_mul w2 g2) (by decide)
  have hme : (up2 (up2 (up2 (goM (goZ n s w g (M, W))) 53 c0 1) 55 c0 1) 57 c0 0) 0 54 = nI m := by
    show (goZ n s w g (M, W)).1 0 54 = nI m
    exact (gol_0 (by decide) (by decide) (by decide) (by decide) 120).trans J.2.2.1
  refine gf_iconst (0) dX12_goes_0 rfl ?_
  refine gf_istore_n 3 dX12_goes_1 rfl (Nat.le_of_ble_eq_true rfl) ?_
  refine gf_lw (l_gol E (by omega) h hG M N I W ?_ 120 0 (by omega)) ⟨rfl, rfl, rfl, rfl, trivial⟩
  change gf _ _ _ _ _ _ (hm h (goM (goZ n s w g (M, W))) (goN N (goZ n s w g (M, W)))) _ _
  refine gf_aload_n 0 dX12_goes_72 rfl rfl ?_
  refine gf_getR flX12_183 rfl dX12_goes_73 (gt_247 hG) (gp_247_75 hG) ?_
  refine gf_iload_n 1 dX12_goes_76 rfl rfl ?_
  refine gf_iconst (1) dX12_goes_77 rfl ?_
  refine gf_iast 120 dX12_goes_78 (gt_300 hG) (gl_300 hG) rfl (by omega) (by decide) ?_
  rw [mI_53]
  refine gf_aload_n 0 dX12_goes_79 rfl rfl ?_
  refine gf_getR flX12_189 rfl dX12_goes_80 (gt_247 hG) (gp_247_77 hG) ?_
  refine gf_iload_n 1 dX12_goes_83 rfl rfl ?_
  refine gf_iconst (1) dX12_goes_84 rfl ?_
  refine gf_iast 120 dX12_goes_85 (gt_302 hG) (gl_302 hG) rfl (by omega) (by decide) ?_
  rw [mI_55]
  refine gf_aload_n 0 dX12_goes_86 rfl rfl ?_
  refine gf_getR flX12_195 rfl dX12_goes_87 (gt_247 hG) (gp_247_79 hG) ?_
  refine gf_iload_n 1 dX12_goes_90 rfl rfl ?_
  refine gf_iconst (0) dX12_goes_91 rfl ?_
  refine gf_iast 120 dX12_goes_92 (gt_304 hG) (gl_304 hG) rfl (by omega) (by decide) ?_
  rw [mI_57]
  refine gf_iconst (0) dX12_goes_93 rfl ?_
  refine gf_istore_n 3 dX12_goes_94 rfl (Nat.le_of_ble_eq_true rfl) ?_
  refine gf_lw (l_goe E (w := w) (g := g) h hG (up2 (up2 (up2 (goM (goZ n s w g (M, W))) 53 c0 1) 55 c0 1) 57 c0 0) (goN N (goZ n s w g (M, W))) hme J.2.2.2.1 ?_ m 0 (by omega)) ⟨rfl, rfl, rfl, rfl, trivial⟩
  change gf _ _ _ _ _ _ (hm h (gopK c0 m (goM (goZ n s w g (M, W)))) (goN N (goZ n s w g (M, W)))) _ _
  refine gf_iconst (1) dX12_goes_135 rfl ?_
  refine gf_istore_n 3 dX12_goes_136 rfl (Nat.le_of_ble_eq_true rfl) ?_
  refine gf_lw (l_gom E (by omega) h hG (gopK c0 m (goM (goZ n s w g (M, W)))) (goN N (goZ n s w g (M, W))) (go_I (z := (M, W)) (c0 := c0) I J).1 (go_I (z := (M, W)) (c0 := c0) I J).2 hT ?_ T 0 (by omega)) ⟨rfl, rfl, rfl, rfl, trivial⟩
  exact gf_vretE dX12_goes_187 rfl (rfl)
