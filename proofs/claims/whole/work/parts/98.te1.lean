/-! ===== the codes read: what they put on the stack of types ===== -/
def tyA (y : Nat → Int32) (T : tyW) (l m : Nat) : tyW := itN (fun T j => tyB T (y (l + j))) T m
theorem tyA_s (y : Nat → Int32) (T : tyW) (l m : Nat) : tyA y T l (m + 1) = tyB (tyA y T l m) (y (l + m)) := rfl
theorem tyA_a (y : Nat → Int32) (T : tyW) (l m : Nat) : ∀ n, tyA y T l (m + n) = tyA y (tyA y T l m) (l + m) n
  | 0 => rfl
  | n + 1 => by
    show tyB (tyA y T l (m + n)) (y (l + (m + n))) = tyB (tyA y (tyA y T l m) (l + m) n) (y (l + m + n))
    rw [tyA_a y T l m n, Nat.add_assoc]
/-- m codes put one value of the type t over T -/
def psh (y : Nat → Int32) (l m : Nat) (T : tyW) (t : Bool) : Prop := (∀ j, j < m → tyO (tyA y T l j) (y (l + j))) ∧ (tyA y T l m).1 = T.1 + 1 ∧ (tyA y T l m).2 T.1 = t ∧ ∀ i, i < T.1 → (tyA y T l m).2 i = T.2 i
theorem psh_op {y : Nat → Int32} {l : Nat} {T : tyW} {t : Bool} (h : opd (y l)) (ht : decide ((100 ≤ y l ∧ y l < 1000) ∨ y l = 17) = t) (h64 : T.1 < 64) : psh y l 1 T t := by
  have e : tyA y T l 1 = (T.1 + 1, va_up T.2 T.1 t) := by
    show tyB T (y (l + 0)) = _
    rw [Nat.add_zero]
    unfold tyB
    rw [if_pos h, ht]
  refine ⟨fun j hj => ?_, ?_, ?_, fun i hi => ?_⟩
  · have h0 : j = 0 := by omega
    subst h0
    show tyO T (y (l + 0))
    rw [Nat.add_zero]
    unfold tyO
    rw [if_pos h]
    exact h64
  · rw [e]
  · rw [e]
    exact if_pos rfl
  · rw [e]
    exact if_neg (by omega)
theorem psh_not {y : Nat → Int32} {l m : Nat} {T : tyW} (h : psh y l m T true) (hy : y (l + m) = 16) : psh y l (m + 1) T true := by
  obtain ⟨h1, h2, h3, h4⟩ := h
  have e : tyA y T l (m + 1) = tyA y T l m := by
    rw [tyA_s, hy]
    exact (if_neg (by decide)).trans (if_pos rfl)
  refine ⟨fun j hj => ?_, by rw [e]; exact h2, by rw [e]; exact h3, by rw [e]; exact h4⟩
  by_cases q : j < m
  · exact h1 j q
  · have h0 : j = m := by omega
    subst h0
    rw [hy]
    unfold tyO
    rw [if_neg (by decide), if_pos rfl, h2]
    exact ⟨by omega, h3⟩
/-- what a join takes and gives -/
def jnY (y : Int32) (b t : Bool) : Prop := ¬ opd y ∧ ¬ y = 16 ∧ (if 14 ≤ y then b = true else b = false) ∧ decide (11 ≤ y) = t
theorem psh_join {y : Nat → Int32} {l m n : Nat} {T : tyW} {b t : Bool} (h : psh y l m T b) (hS : ∀ S : tyW, S.1 = T.1 + 1 → psh y (l + m) n S b) (hy : jnY (y (l + (m + n))) b t) : psh y l (m + n + 1) T t := by
  obtain ⟨h1, h2, h3, h4⟩ := h
  obtain ⟨g1, g2, g3, g4⟩ := hS (tyA y T l m) h2
  rw [← tyA_a] at g2 g3
  have g5 : ∀ i, i < T.1 + 1 → (tyA y T l (m + n)).2 i = (tyA y T l m).2 i := fun i hi => by
    rw [tyA_a]
    exact g4 i (by omega)
  obtain ⟨y1, y2, y3, y4⟩ := hy
  rw [h2] at g2 g3
  have k1 : (tyA y T l (m + n)).2 T.1 = b := (g5 T.1 (Nat.lt_succ_self _)).trans h3
  have e : tyA y T l (m + n + 1) = (T.1 + 1, va_up (tyA y T l (m + n)).2 T.1 t) := by
    rw [tyA_s]
    unfold tyB
    rw [if_neg y1, if_neg y2, y4, g2]
    rfl
  refine ⟨fun j hj => ?_, by rw [e], ?_, fun i hi => ?_⟩
  · by_cases q : j < m
    · exact h1 j q
    · by_cases q2 : j < m + n
      · obtain ⟨k, ek⟩ : ∃ k, j = m + k := ⟨j - m, by omega⟩
        subst ek
        rw [tyA_a, ← Nat.add_assoc]
        exact g1 k (by omega)
      · have h0 : j = m + n := by omega
        subst h0
        unfold tyO
        rw [if_neg y1, if_neg y2, g2]
        refine ⟨by omega, ?_⟩
        show (if 14 ≤ y (l + (m + n)) then (tyA y T l (m + n)).2 T.1 = true ∧ (tyA y T l (m + n)).2 (T.1 + 1) = true else (tyA y T l (m + n)).2 T.1 = false ∧ (tyA y T l (m + n)).2 (T.1 + 1) = false)
        rw [k1, g3]
        split at y3
        · rename_i z
          rw [if_pos z]
          exact ⟨y3, y3⟩
        · rename_i z
          rw [if_neg z]
          exact ⟨y3, y3⟩
  · rw [e]
    exact if_pos rfl
  · rw [e]
    exact (if_neg (by omega)).trans ((g5 i (by omega)).trans (h4 i hi))
/-- what the reference's code is, by the token of the class's -/
theorem cdR_k {y x : Int32} (h : cdR y x) : ∃ k, k < 128 ∧ x &&& 127 = nI k ∧ (((k = 23 ∨ k ≤ 6) ∧ opd y ∧ decide ((100 ≤ y ∧ y < 1000) ∨ y = 17) = false) ∨ ((k = 10 ∨ k = 9) ∧ opd y ∧ decide ((100 ≤ y ∧ y < 1000) ∨ y = 17) = true) ∨ (k = 11 ∧ y = 16) ∨ ((k = 43 ∨ k = 45 ∨ k = 42 ∨ k = 47 ∨ k = 7 ∨ k = 8) ∧ jnY y false false) ∨ ((k = 60 ∨ k = 62 ∨ k = 61) ∧ jnY y false true) ∨ ((k = 12 ∨ k = 13) ∧ jnY y true true)) := by
  unfold cdR at h
  rcases h with ⟨v, hv, ey, ex⟩ | ⟨o, h8, ey, ex⟩ | ⟨ey, ex⟩ | ⟨ey, ex⟩ | ⟨ey, ex⟩ | ⟨ey, ex⟩ | ⟨ey, ex⟩ | ⟨ey, ex⟩ | ⟨ey, ex⟩ | ⟨ey, ex⟩ | ⟨ey, ex⟩ | ⟨ey, ex⟩ | ⟨ey, ex⟩ | ⟨ey, ex⟩ | ⟨ey, ex⟩ | ⟨ey, ex⟩ | ⟨ey, ex⟩ | ⟨ey, ex⟩ | ⟨ey, ex⟩ | ⟨ey, ex⟩ | ⟨ey, ex⟩ | ⟨ey, ex⟩
  · have hi : y.toInt = ((1000 + v : Nat) : Int) := by rw [ey, nI_toInt (by omega)]
    refine ⟨23, by decide, by rw [ex, tk_and (by omega)], Or.inl ⟨Or.inl rfl, Or.inl ?_, decide_eq_false ?_⟩⟩
    · rw [fa_le, hi, show (100 : Int32).toInt = 100 from by decide]
      omega
    · rintro (⟨-, z⟩ | z)
      · rw [fa_lt, hi, show (1000 : Int32).toInt = 1000 from by decide] at z
        omega
      · rw [z, show (17 : Int32).toInt = 17 from by decide] at hi
        omega
  · have hi : y.toInt = ((100 + o : Nat) : Int) := by rw [ey, nI_toInt (by omega)]
    have h1 : 100 ≤ y := by
      rw [fa_le, hi, show (100 : Int32).toInt = 100 from by decide]
      omega
    refine ⟨10, by decide, by rw [ex, tk_and (by omega)], Or.inr (Or.inl ⟨Or.inl rfl, Or.inl h1, decide_eq_true (Or.inl ⟨h1, ?_⟩)⟩)⟩
    rw [fa_lt, hi, show (1000 : Int32).toInt = 1000 from by decide]
    omega
  · rw [ey, ex]; exact ⟨0, by decide, by decide, Or.inl (by decide)⟩
  · rw [ey, ex]; exact ⟨1, by decide, by decide, Or.inl (by decide)⟩
  · rw [ey, ex]; exact ⟨2, by decide, by decide, Or.inl (by decide)⟩
  · rw [ey, ex]; exact ⟨3, by decide, by decide, Or.inl (by decide)⟩
  · rw [ey, ex]; exact ⟨4, by decide, by decide, Or.inl (by decide)⟩
  · rw [ey, ex]; exact ⟨5, by decide, by decide, Or.inl (by decide)⟩
  · rw [ey, ex]; exact ⟨6, by decide, by decide, Or.inl (by decide)⟩
  · rw [ey, ex]; exact ⟨9, by decide, by decide, Or.inr (Or.inl (by decide))⟩
  · rw [ey, ex]; exact ⟨11, by decide, by decide, Or.inr (Or.inr (Or.inl (by decide)))⟩
  · rw [ey, ex]; exact ⟨43, by decide, by decide, Or.inr (Or.inr (Or.inr (Or.inl ⟨by decide, by decide, by decide, by decide, by decide⟩)))⟩
  · rw [ey, ex]; exact ⟨45, by decide, by decide, Or.inr (Or.inr (Or.inr (Or.inl ⟨by decide, by decide, by decide, by decide, by decide⟩)))⟩
  · rw [ey, ex]; exact ⟨42, by decide, by decide, Or.inr (Or.inr (Or.inr (Or.inl ⟨by decide, by decide, by decide, by decide, by decide⟩)))⟩
  · rw [ey, ex]; exact ⟨47, by decide, by decide, Or.inr (Or.inr (Or.inr (Or.inl ⟨by decide, by decide, by decide, by decide, by decide⟩)))⟩
  · rw [ey, ex]; exact ⟨7, by decide, by decide, Or.inr (Or.inr (Or.inr (Or.inl ⟨by decide, by decide, by decide, by decide, by decide⟩)))⟩
  · rw [ey, ex]; exact ⟨8, by decide, by decide, Or.inr (Or.inr (Or.inr (Or.inl ⟨by decide, by decide, by decide, by decide, by decide⟩)))⟩
  · rw [ey, ex]; exact ⟨60, by decide, by decide, Or.inr (Or.inr (Or.inr (Or.inr (Or.inl ⟨by decide, by decide, by decide, by decide, by decide⟩))))⟩
  · rw [ey, ex]; exact ⟨62, by decide, by decide, Or.inr (Or.inr (Or.inr (Or.inr (Or.inl ⟨by decide, by decide, by decide, by decide, by decide⟩))))⟩
  · rw [ey, ex]; exact ⟨61, by decide, by decide, Or.inr (Or.inr (Or.inr (Or.inr (Or.inl ⟨by decide, by decide, by decide, by decide, by decide⟩))))⟩
  · rw [ey, ex]; exact ⟨12, by decide, by decide, Or.inr (Or.inr (Or.inr (Or.inr (Or.inr ⟨by decide, by decide, by decide, by decide, by decide⟩))))⟩
  · rw [ey, ex]; exact ⟨13, by decide, by decide, Or.inr (Or.inr (Or.inr (Or.inr (Or.inr ⟨by decide, by decide, by decide, by decide, by decide⟩))))⟩
theorem cd_v {y x : Int32} {k : Nat} (h : cdR y x) (e : x &&& 127 = nI k) (hk : k = 23 ∨ k ≤ 6) : opd y ∧ decide ((100 ≤ y ∧ y < 1000) ∨ y = 17) = false := by
  obtain ⟨k2, h2, e2, hh⟩ := cdR_k h
  have := (nI_q (by omega) (by omega)).mp (e.symm.trans e2)
  rcases hh with ⟨-, z⟩ | ⟨z, -⟩ | ⟨z, -⟩ | ⟨z, -⟩ | ⟨z, -⟩ | ⟨z, -⟩
  · exact z
  all_goals (exfalso; omega)
theorem cd_t {y x : Int32} {k : Nat} (h : cdR y x) (e : x &&& 127 = nI k) (hk : k = 10 ∨ k = 9) : opd y ∧ decide ((100 ≤ y ∧ y < 1000) ∨ y = 17) = true := by
  obtain ⟨k2, h2, e2, hh⟩ := cdR_k h
  have := (nI_q (by omega) (by omega)).mp (e.symm.trans e2)
  rcases hh with ⟨z, -⟩ | ⟨-, z⟩ | ⟨z, -⟩ | ⟨z, -⟩ | ⟨z, -⟩ | ⟨z, -⟩
  · exfalso; omega
  · exact z
  all_goals (exfalso; omega)
theorem cd_n {y x : Int32} (h : cdR y x) (e : x &&& 127 = nI 11) : y = 16 := by
  obtain ⟨k2, h2, e2, hh⟩ := cdR_k h
  have := (nI_q (by omega) (by omega)).mp (e.symm.trans e2)
  rcases hh with ⟨z, -⟩ | ⟨z, -⟩ | ⟨-, z⟩ | ⟨z, -⟩ | ⟨z, -⟩ | ⟨z, -⟩
  · exfalso; omega
  · exfalso; omega
  · exact z
  all_goals (exfalso; omega)
theorem cd_j {y x : Int32} {k : Nat} (h : cdR y x) (e : x &&& 127 = nI k) (hk : k = 43 ∨ k = 45 ∨ k = 42 ∨ k = 47 ∨ k = 7 ∨ k = 8) : jnY y false false := by
  obtain ⟨k2, h2, e2, hh⟩ := cdR_k h
  have := (nI_q (by omega) (by omega)).mp (e.symm.trans e2)
  rcases hh with ⟨z, -⟩ | ⟨z, -⟩ | ⟨z, -⟩ | ⟨-, z⟩ | ⟨z, -⟩ | ⟨z, -⟩
  · exfalso; omega
  · exfalso; omega
  · exfalso; omega
  · exact z
  all_goals (exfalso; omega)
theorem cd_c {y x : Int32} {k : Nat} (h : cdR y x) (e : x &&& 127 = nI k) (hk : k = 60 ∨ k = 62 ∨ k = 61) : jnY y false true := by
  obtain ⟨k2, h2, e2, hh⟩ := cdR_k h
  have := (nI_q (by omega) (by omega)).mp (e.symm.trans e2)
  rcases hh with ⟨z, -⟩ | ⟨z, -⟩ | ⟨z, -⟩ | ⟨z, -⟩ | ⟨-, z⟩ | ⟨z, -⟩
  · exfalso; omega
  · exfalso; omega
  · exfalso; omega
  · exfalso; omega
  · exact z
  · exfalso; omega
theorem cd_b {y x : Int32} {k : Nat} (h : cdR y x) (e : x &&& 127 = nI k) (hk : k = 12 ∨ k = 13) : jnY y true true := by
  obtain ⟨k2, h2, e2, hh⟩ := cdR_k h
  have := (nI_q (by omega) (by omega)).mp (e.symm.trans e2)
  rcases hh with ⟨z, -⟩ | ⟨z, -⟩ | ⟨z, -⟩ | ⟨z, -⟩ | ⟨z, -⟩ | ⟨-, z⟩
  · exfalso; omega
  · exfalso; omega
  · exfalso; omega
  · exfalso; omega
  · exfalso; omega
  · exact z
