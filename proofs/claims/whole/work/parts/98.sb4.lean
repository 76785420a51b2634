/-! ===== class against reference: a statement worked out, one code ===== -/
/-- the type stack: true where a truth lies -/
abbrev tyW : Type := Nat × (Nat → Bool)
def tyB (T : tyW) (y : Int32) : tyW := if opd y then (T.1 + 1, va_up T.2 T.1 (decide ((100 ≤ y ∧ y < 1000) ∨ y = 17))) else if y = 16 then T else (T.1 - 1, va_up T.2 (T.1 - 2) (decide (11 ≤ y)))
def tyO (T : tyW) (y : Int32) : Prop := if opd y then T.1 < 64 else if y = 16 then 1 ≤ T.1 ∧ T.2 (T.1 - 1) = true else 2 ≤ T.1 ∧ (if 14 ≤ y then T.2 (T.1 - 2) = true ∧ T.2 (T.1 - 1) = true else T.2 (T.1 - 2) = false ∧ T.2 (T.1 - 1) = false)
/-- the same value on both sides -/
def sl (t : Bool) (u : Int32) (v : Int64) : Prop := v = u.toInt64 ∧ (if t = true then tbd u else vbd u)
theorem sl_t {u : Int32} {v : Int64} (h : sl true u v) : v = u.toInt64 ∧ tbd u := h
theorem sl_f {u : Int32} {v : Int64} (h : sl false u v) : v = u.toInt64 ∧ vbd u := h
def stR (T : tyW) (W : Nat × (Nat → Int32)) (W' : tW) : Prop := W.1 = T.1 ∧ W'.1 = T.1 ∧ ∀ i, i < T.1 → sl (T.2 i) (W.2 i) (W'.2 i)
theorem st_opd {F : Nat → Int32} {off : Int32} {cd : Nat → Int32} {V : Int32 → Int64} {T : tyW} {W : Nat × (Nat → Int32)} {W' : tW} {y x : Int32} {i : Nat} (hx : cd i = x) (R : stR T W W') (ho : opd y) (hO : tyO T y) (h11 : ¬ x &&& 127 = 11) (hj : ¬ (40 ≤ x &&& 127 ∨ x &&& 127 = 7 ∨ x &&& 127 = 8 ∨ x &&& 127 = 12 ∨ x &&& 127 = 13)) (hs : sl (decide ((100 ≤ y ∧ y < 1000) ∨ y = 17)) (sngV F off (x &&& 127) (x >>> (7 &&& 31))) (V y)) : stR (tyB T y) (vofB F off cd W i) (tlB V W' y) := by
  obtain ⟨r1, r2, r3⟩ := R
  have h64 : T.1 < 64 := by
    unfold tyO at hO
    rw [if_pos ho] at hO
    exact hO
  rw [show tyB T y = _ from if_pos ho, show tlB V W' y = _ from if_pos ho]
  unfold vofB
  rw [hx, if_neg (fun z => h11 z.1), if_neg (fun z => hj z.1), if_pos (show W.1 < 64 by omega), r1, r2]
  refine ⟨rfl, rfl, fun k hk => ?_⟩
  dsimp only at hk ⊢
  unfold va_up
  by_cases e : k = T.1
  · rw [if_pos e, if_pos e, if_pos e]
    exact hs
  · rw [if_neg e, if_neg e, if_neg e]
    exact r3 k (by omega)
theorem st_not {F : Nat → Int32} {off : Int32} {cd : Nat → Int32} {V : Int32 → Int64} {T : tyW} {W : Nat × (Nat → Int32)} {W' : tW} {i : Nat} (hx : cd i = 11) (R : stR T W W') (hO : tyO T 16) : stR (tyB T 16) (vofB F off cd W i) (tlB V W' 16) := by
  obtain ⟨r1, r2, r3⟩ := R
  have ho : ¬ opd 16 := by decide
  have h1 : 1 ≤ T.1 ∧ T.2 (T.1 - 1) = true := by
    unfold tyO at hO
    rw [if_neg ho, if_pos rfl] at hO
    exact hO
  have hs := r3 (T.1 - 1) (by have := h1.1; omega)
  rw [h1.2] at hs
  obtain ⟨s1, s2⟩ := sl_t hs
  rw [show tyB T 16 = _ from (if_neg ho).trans (if_pos rfl), show tlB V W' 16 = _ from (if_neg ho).trans (if_pos rfl)]
  unfold vofB
  rw [hx, if_pos (show (11 : Int32) &&& 127 = 11 ∧ 1 ≤ W.1 from ⟨by decide, by rw [r1]; exact h1.1⟩), r1, r2]
  refine ⟨rfl, rfl, fun k hk => ?_⟩
  dsimp only at hk ⊢
  unfold va_up
  by_cases e : k = T.1 - 1
  · rw [if_pos e, if_pos e, e, h1.2, s1]
    exact ⟨(j_not s2).1.symm, (j_not s2).2⟩
  · rw [if_neg e, if_neg e]
    exact r3 k hk
theorem st_join {F : Nat → Int32} {off : Int32} {cd : Nat → Int32} {V : Int32 → Int64} {T : tyW} {W : Nat × (Nat → Int32)} {W' : tW} {y x : Int32} {i : Nat} (hx : cd i = x) (R : stR T W W') (ho : ¬ opd y) (hy : ¬ y = 16) (hO : tyO T y) (h11 : ¬ x &&& 127 = 11) (hj : 40 ≤ x &&& 127 ∨ x &&& 127 = 7 ∨ x &&& 127 = 8 ∨ x &&& 127 = 12 ∨ x &&& 127 = 13) (hs : ∀ u v : Int32, (if 14 ≤ y then tbd u ∧ tbd v else vbd u ∧ vbd v) → sl (decide (11 ≤ y)) (clpV (jnV (x &&& 127) u v)) (mjn y u.toInt64 v.toInt64)) : stR (tyB T y) (vofB F off cd W i) (tlB V W' y) := by
  obtain ⟨r1, r2, r3⟩ := R
  unfold tyO at hO
  rw [if_neg ho, if_neg hy] at hO
  obtain ⟨h2, hT⟩ := hO
  have s1 := r3 (T.1 - 2) (by omega)
  have s2 := r3 (T.1 - 1) (by omega)
  have hb : (if 14 ≤ y then tbd (W.2 (T.1 - 2)) ∧ tbd (W.2 (T.1 - 1)) else vbd (W.2 (T.1 - 2)) ∧ vbd (W.2 (T.1 - 1))) := by
    by_cases q : 14 ≤ y
    · rw [if_pos q] at hT ⊢
      rw [hT.1] at s1
      rw [hT.2] at s2
      exact ⟨(sl_t s1).2, (sl_t s2).2⟩
    · rw [if_neg q] at hT ⊢
      rw [hT.1] at s1
      rw [hT.2] at s2
      exact ⟨(sl_f s1).2, (sl_f s2).2⟩
  have hr := hs _ _ hb
  rw [show tyB T y = _ from (if_neg ho).trans (if_neg hy), show tlB V W' y = _ from (if_neg ho).trans (if_neg hy)]
  unfold vofB
  rw [hx, if_neg (fun z => h11 z.1), if_pos ⟨hj, show 2 ≤ W.1 by omega⟩, r1, r2]
  refine ⟨rfl, rfl, fun k hk => ?_⟩
  dsimp only at hk ⊢
  unfold va_up
  by_cases e : k = T.1 - 2
  · rw [if_pos e, if_pos e, if_pos e, s1.1, s2.1]
    exact hr
  · rw [if_neg e, if_neg e, if_neg e]
    exact r3 k (by omega)
