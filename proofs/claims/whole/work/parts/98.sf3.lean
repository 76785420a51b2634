/-! ===== class against reference: by parts: sums and floors ===== -/
def sn_f (q : Nat → Bool) (v : Nat → Nat) : Nat → Nat
  | 0 => 0
  | j + 1 => sn_f q v j + (if q j = true then v j else 0)
theorem sn_s (q : Nat → Bool) (v : Nat → Nat) (j : Nat) : sn_f q v (j + 1) = sn_f q v j + (if q j = true then v j else 0) := rfl
theorem sn_b {q : Nat → Bool} {v : Nat → Nat} {K : Nat} : ∀ j, (∀ i, i < j → v i ≤ K) → sn_f q v j ≤ K * j
  | 0, _ => Nat.zero_le _
  | j + 1, h => by
    have i1 := sn_b (q := q) j (fun i hi => h i (by omega))
    have i2 := h j (by omega)
    rw [sn_s, Nat.mul_succ]
    split <;> omega
theorem sn_mono {q : Nat → Bool} {v : Nat → Nat} {j : Nat} : ∀ d, sn_f q v j ≤ sn_f q v (j + d)
  | 0 => Nat.le_refl _
  | d + 1 => by
    have := sn_mono (q := q) (v := v) (j := j) d
    show sn_f q v j ≤ sn_f q v (j + d) + _
    omega
theorem sn_div {q : Nat → Bool} {A : Nat → Nat} {l T : Nat} : ∀ j, sn_f q (fun i => l * A i / T) j * T + sn_f q (fun i => l * A i % T) j = l * sn_f q A j
  | 0 => by
    show 0 * T + 0 = l * 0
    rw [Nat.zero_mul, Nat.mul_zero]
  | j + 1 => by
    have ih := sn_div (q := q) (A := A) (l := l) (T := T) j
    rw [sn_s, sn_s, sn_s]
    by_cases e : q j = true
    · rw [if_pos e, if_pos e, if_pos e, Nat.add_mul, Nat.mul_add, ← ih]
      have h := Nat.div_add_mod (l * A j) T
      rw [Nat.mul_comm T] at h
      omega
    · rw [if_neg e, if_neg e, if_neg e, Nat.add_zero, Nat.add_zero, Nat.add_zero]
      exact ih
theorem sn_pos {q : Nat → Bool} {v : Nat → Nat} : ∀ j, 0 < sn_f q v j → ∃ i, i < j ∧ q i = true ∧ 0 < v i
  | 0, h => absurd h (Nat.lt_irrefl 0)
  | j + 1, h => by
    rw [sn_s] at h
    by_cases e : q j = true ∧ 0 < v j
    · exact ⟨j, by omega, e.1, e.2⟩
    · have h0 : (if q j = true then v j else 0) = 0 := by
        by_cases e1 : q j = true
        · rw [if_pos e1]
          rcases Nat.eq_zero_or_pos (v j) with y | y
          · exact y
          · exact absurd ⟨e1, y⟩ e
        · exact if_neg e1
      rw [h0] at h
      obtain ⟨i, hi, h1, h2⟩ := sn_pos j (by omega)
      exact ⟨i, by omega, h1, h2⟩
theorem sn_ext {q q1 : Nat → Bool} {v : Nat → Nat} : ∀ j, (∀ i, i < j → q i = q1 i) → sn_f q v j = sn_f q1 v j
  | 0, _ => rfl
  | j + 1, h => by rw [sn_s, sn_s, sn_ext j (fun i hi => h i (by omega)), h j (by omega)]
theorem sn_out {q q1 : Nat → Bool} {v : Nat → Nat} {g : Nat} (hg : q g = true) (hg1 : q1 g = false) (ho : ∀ i, i ≠ g → q1 i = q i) : ∀ j, g < j → sn_f q1 v j + v g = sn_f q v j
  | 0, h => absurd h (Nat.not_lt_zero g)
  | j + 1, h => by
    rw [sn_s, sn_s]
    by_cases e : g = j
    · subst e
      rw [if_pos hg, if_neg (show ¬ q1 g = true by rw [hg1]; decide), sn_ext g (fun i hi => ho i (by omega))]
      omega
    · have ih := sn_out (v := v) hg hg1 ho j (by omega)
      rw [ho j (fun y => e y.symm)]
      omega
/-- the items of a house -/
def itmI (B : Nat → Bool) (X Z : mM) (a : Nat → Nat) (A : Nat → Nat) (m : Nat) : Prop := m ≤ 200 ∧ (∀ i, i < m → X 5 i = nI (a i) ∧ a i < 201) ∧ (∀ i j, i < m → j < m → a i = a j → i = j) ∧ ∀ i, i < m → A i < 100000 ∧ X 2 (a i) = nI (A i) ∧ Z 63 (a i) = nI (A i) ∧ ((B (a i) = true ↔ Z 65 (a i) = 1) ∨ (B (a i) = false ∧ Z 65 (a i) = 1 ∧ A i = 0))
def itq (Z : mM) (a : Nat → Nat) (i : Nat) : Bool := decide (Z 65 (a i) = 1)
theorem tog_e {B : Nat → Bool} {X Z : mM} {a A : Nat → Nat} {m : Nat} (I : itmI B X Z a A m) : ∀ j, j ≤ m → itN (togB B X) 0 j = nI (sn_f (itq Z a) A j) ∧ itN (fun z i => if Z 65 (a i) = 1 then z + Int32.toInt64 (Z 63 (a i)) else z) 0 j = nL (sn_f (itq Z a) A j) := by
  intro j
  induction j with
  | zero => exact fun _ => ⟨rfl, rfl⟩
  | succ j ih =>
    intro hj
    obtain ⟨i1, i2⟩ := ih (by omega)
    obtain ⟨hm, h5, -, hA⟩ := I
    obtain ⟨e5, ha⟩ := h5 j (by omega)
    obtain ⟨a1, a2, a3, a4⟩ := hA j (by omega)
    have hb := sn_b (q := itq Z a) (v := A) (K := 100000) j (fun i hi => by have := (hA i (by omega)).1; omega)
    have hb2 : 100000 * j ≤ 100000 * 200 := Nat.mul_le_mul_left _ (by omega)
    rw [itN_s, itN_s, i1, i2, sn_s]
    unfold togB
    rw [e5, nI_clamp (show a j < 2147483648 by omega), a2, a3, nL_w (by omega), nI_add, nL_add (by omega)]
    by_cases q : Z 65 (a j) = 1
    · rw [if_pos q, if_pos (show itq Z a j = true from decide_eq_true q)]
      refine ⟨?_, rfl⟩
      rcases a4 with y | ⟨y1, y2, y3⟩
      · rw [if_pos (y.mpr q)]
      · rw [if_neg (show ¬ B (a j) = true by rw [y1]; decide), y3]
        rfl
    · rw [if_neg q, if_neg (show ¬ itq Z a j = true from fun y => q (of_decide_eq_true y))]
      refine ⟨?_, rfl⟩
      rcases a4 with y | ⟨y1, y2, y3⟩
      · rw [if_neg (fun z => q (y.mp z))]
        rfl
      · exact absurd y2 q
theorem flVR {l A T : Nat} (hl : l < 1000000) (hA : A < 100000) (hT : T < 100000000) (hq : l * A / T < 2147483648) : flV (nI l) (nI T) (nI A) = nI (l * A / T) ∧ flR (nI l) (nI T) (nI A) = nL (l * A % T) ∧ Int64.toInt32 (Int32.toInt64 (nI l) * Int32.toInt64 (nI A) / nL T) = nI (l * A / T) ∧ Int32.toInt64 (nI l) * Int32.toInt64 (nI A) - Int32.toInt64 (nI l) * Int32.toInt64 (nI A) / nL T * nL T = nL (l * A % T) := by
  have hp : l * A ≤ 1000000 * 100000 := Nat.mul_le_mul (by omega) (by omega)
  have hle : l * A / T * T ≤ l * A := Nat.div_mul_le_self _ _
  have e1 : Int32.toInt64 (nI l) * Int32.toInt64 (nI A) = nL (l * A) := by rw [nL_w (by omega), nL_w (by omega), nL_mul (by omega) (by omega) (by omega)]
  have e2 : nL (l * A) / nL T = nL (l * A / T) := nL_div (by omega) (by omega)
  have e3 : nL (l * A / T) * nL T = nL (l * A / T * T) := nL_mul (by omega) (by omega) (by omega)
  have e4 : l * A - l * A / T * T = l * A % T := by
    have := Nat.div_add_mod (l * A) T
    rw [Nat.mul_comm T] at this
    omega
  have e5 : nL (l * A) - nL (l * A / T * T) = nL (l * A % T) := by rw [nL_sub (by omega) hle, e4]
  unfold flV flR
  rw [e1, nL_w (show T < 2147483648 by omega), e2, e3, e5, nL_n hq]
  exact ⟨rfl, rfl, rfl, rfl⟩
