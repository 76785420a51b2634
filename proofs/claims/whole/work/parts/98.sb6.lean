/-! ===== class against reference: codes in order; operands ===== -/
theorem tyS_1 (cd : Nat → Int32) (x : Nat) : ∀ m, (tyS cd x m).1 = dpS cd x m
  | 0 => rfl
  | m + 1 => by
    have ih := tyS_1 cd x m
    show (tyB (tyS cd x m) (cd (x + m))).1 = (if opd (cd (x + m)) then dpS cd x m + 1 else if cd (x + m) = 16 then dpS cd x m else dpS cd x m - 1)
    unfold tyB
    split
    · rw [← ih]
    · split
      · rw [← ih]
      · rw [← ih]
theorem tyS_le {cd : Nat → Int32} {x m : Nat} (h : tyOk cd x m) : ∀ j, j ≤ m → (tyS cd x j).1 ≤ 64
  | 0, _ => Nat.zero_le _
  | j + 1, hj => by
    have ih := tyS_le h j (by omega)
    have ho := h j (by omega)
    show (tyB (tyS cd x j) (cd (x + j))).1 ≤ 64
    unfold tyO at ho
    unfold tyB
    split
    · rename_i q
      rw [if_pos q] at ho
      exact ho
    · split
      · exact ih
      · show (tyS cd x j).1 - 1 ≤ 64
        omega
theorem okS_of {cd : Nat → Int32} {x m : Nat} (h : tyOk cd x m) : okS cd x m := fun j hj => by
  have ho := h j hj
  have hl := tyS_le h j (by omega)
  rw [← tyS_1]
  unfold tyO at ho
  unfold okc
  split
  · rename_i q
    rw [if_pos q] at ho
    exact Nat.lt_trans ho (by decide)
  · rename_i q
    rw [if_neg q] at ho
    split
    · rename_i q2
      rw [if_pos q2] at ho
      exact ⟨ho.1, by omega⟩
    · rename_i q2
      rw [if_neg q2] at ho
      exact ⟨ho.1, by omega⟩
