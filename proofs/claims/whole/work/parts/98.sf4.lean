/-! ===== class against reference: by parts: the floors ===== -/
def flI (B : Nat → Bool) (X Z : mM) (N : mN) (a A : Nat → Nat) (l T m j : Nat) (z : fS × Int32) (y : (mM × mN) × Int32) : Prop := (z.2 = nI (l - sn_f (itq Z a) (fun i => l * A i / T) j) ∧ y.2 = z.2) ∧ (∀ r, r ≠ 3 → z.1.1 r = X r) ∧ (∀ r, r ≠ 64 → y.1.1 r = Z r) ∧ (∀ r, r ≠ 67 → y.1.2 r = N r) ∧ (∀ k, k < 201 → z.1.1 3 k = y.1.1 64 k) ∧ (∀ i, i < j → z.1.2 i = if B (a i) = true then nL (l * A i % T) else -1) ∧ (∀ i, i < j → itq Z a i = true → y.1.2 67 (a i) = nL (l * A i % T)) ∧ (∀ i, i < m → B (a i) = false → Z 65 (a i) = 1 → y.1.1 64 (a i) = 0) ∧ (∀ k, (Z 65 k ≠ 1 ∨ ∀ i, i < m → a i ≠ k) → y.1.1 64 k = Z 64 k) ∧ ∀ K, l ≤ K → bd64 Z K → bd64 y.1.1 K
theorem sn_A {q : Nat → Bool} {A : Nat → Nat} {i : Nat} (hq : q i = true) : ∀ j, i < j → A i ≤ sn_f q A j
  | 0, h => absurd h (Nat.not_lt_zero i)
  | j + 1, h => by
    rw [sn_s]
    by_cases e : i = j
    · subst e; rw [if_pos hq]; omega
    · have := sn_A (A := A) hq j (by omega)
      omega
theorem flo_e {B : Nat → Bool} {X Z : mM} {N : mN} {R : Nat → Int64} {a A : Nat → Nat} {l m : Nat} (I : itmI B X Z a A m) (hl : l < sn_f (itq Z a) A m) (hl9 : l < 1000000) (hR : ∀ k, k < 201 → X 3 k = Z 64 k) (hN : ∀ i, i < m → B (a i) = false → Z 65 (a i) = 1 → Z 64 (a i) = 0) : ∀ j, j ≤ m → flI B X Z N a A l (sn_f (itq Z a) A m) m j (itN (flB B (nI l) (nI (sn_f (itq Z a) A m)) (X 5)) ((X, R), nI l) j) (itN (bpfL (nI l) (nL (sn_f (itq Z a) A m)) a) ((Z, N), nI l) j) := by
  obtain ⟨hm, h5, hinj, hA⟩ := I
  have hb := sn_b (q := itq Z a) (v := A) (K := 100000) m (fun i hi => by have := (hA i hi).1; omega)
  have hb2 : 100000 * m ≤ 100000 * 200 := Nat.mul_le_mul_left _ hm
  have hAT : ∀ i, i < m → itq Z a i = true → A i ≤ sn_f (itq Z a) A m := fun i hi hq => sn_A hq m hi
  have hdiv := fun j => sn_div (q := itq Z a) (A := A) (l := l) (T := sn_f (itq Z a) A m) j
  have hmn : ∀ j, j ≤ m → sn_f (itq Z a) A j ≤ sn_f (itq Z a) A m := fun j hj => by
    have := sn_mono (q := itq Z a) (v := A) (j := j) (m - j)
    rw [show j + (m - j) = m by omega] at this
    exact this
  have hsum : ∀ j, j ≤ m → sn_f (itq Z a) (fun i => l * A i / sn_f (itq Z a) A m) j ≤ l := fun j hj => by
    have h1 := hdiv j
    have h2 : l * sn_f (itq Z a) A j ≤ l * sn_f (itq Z a) A m := Nat.mul_le_mul_left _ (hmn j hj)
    exact Nat.le_of_mul_le_mul_right (by omega : _ * sn_f (itq Z a) A m ≤ l * sn_f (itq Z a) A m) (by omega)
  generalize hT : sn_f (itq Z a) A m = T at *
  intro j
  induction j with
  | zero => exact fun _ => ⟨⟨rfl, rfl⟩, fun _ _ => rfl, fun _ _ => rfl, fun _ _ => rfl, hR, fun i hi => absurd hi (Nat.not_lt_zero i), fun i hi => absurd hi (Nat.not_lt_zero i), hN, fun _ _ => rfl, fun _ _ h => h⟩
  | succ j ih =>
    intro hj
    obtain ⟨⟨i1, i2⟩, i3, i4, i4b, i5, i6, i7, i8, i9, i10⟩ := ih (by omega)
    rw [itN_s, itN_s]
    generalize itN (flB B (nI l) (nI T) (X 5)) ((X, R), nI l) j = z at i1 i2 i3 i5 i6 ⊢
    generalize itN (bpfL (nI l) (nL T) a) ((Z, N), nI l) j = y at i2 i4 i4b i5 i7 i8 i9 i10 ⊢
    obtain ⟨e5, ha⟩ := h5 j (by omega)
    obtain ⟨a1, a2, a3, a4⟩ := hA j (by omega)
    have p2 : z.1.1 2 (a j) = nI (A j) := by rw [i3 2 (by decide)]; exact a2
    have q63 : y.1.1 63 (a j) = nI (A j) := by rw [i4 63 (by decide)]; exact a3
    have q65 : y.1.1 65 (a j) = Z 65 (a j) := by rw [i4 65 (by decide)]
    have hT0 : 0 < nI T := by rw [fa_lt, nI_toInt (by omega), ti_0]; omega
    have hsj := hsum (j + 1) hj
    rw [sn_s] at hsj
    unfold flI
    rw [sn_s]
    by_cases hq : itq Z a j = true
    · rw [if_pos hq] at hsj ⊢
      have hZ1 : Z 65 (a j) = 1 := of_decide_eq_true hq
      have hquo : l * A j / T ≤ l := by
        have h1 : l * A j ≤ l * T := Nat.mul_le_mul_left _ (hAT j (by omega) hq)
        have h2 : l * A j / T ≤ l * T / T := Nat.div_le_div_right h1
        rw [Nat.mul_div_cancel l (by omega)] at h2
        exact h2
      obtain ⟨f1, f2, f3, f4⟩ := flVR hl9 a1 (show T < 100000000 by omega) (show l * A j / T < 2147483648 by omega)
      have ey : bpfL (nI l) (nL T) a y j = ((up2 y.1.1 64 (a j) (nI (l * A j / T)), up2 y.1.2 67 (a j) (nL (l * A j % T))), y.2 - nI (l * A j / T)) := by
        unfold bpfL
        rw [q65, if_pos hZ1, q63, f3, f4]
      have e2 : y.2 - nI (l * A j / T) = nI (l - (sn_f (itq Z a) (fun i => l * A i / T) j + l * A j / T)) := by
        rw [i2, i1, nI_sub (by omega)]
        congr 1
        omega
      rw [ey]
      rcases a4 with w | ⟨w1, w2, w3⟩
      · have hB := w.mpr hZ1
        have ez : flB B (nI l) (nI T) (X 5) z j = ((up2 z.1.1 3 (a j) (nI (l * A j / T)), va_up (va_up z.1.2 j (-1)) j (nL (l * A j % T))), z.2 - nI (l * A j / T)) := by
          unfold flB
          rw [e5, nI_clamp (show a j < 2147483648 by omega), if_pos ⟨hT0, hB⟩, p2, f1, f2]
        rw [ez]
        refine ⟨⟨by rw [← i2]; exact e2, by rw [i2]⟩, fun r hr => (up2_row hr).trans (i3 r hr), fun r hr => (up2_row hr).trans (i4 r hr), fun r hr => ?_, fun k hk => ?_, fun i hi => ?_, fun i hi hqi => ?_, fun i hi b1 b2 => ?_, fun k hk => ?_, fun K hK hb => bd64_up (by omega) (i10 K hK hb)⟩
        · refine Eq.trans ?_ (i4b r hr)
          funext k
          exact up2_a _ _ hr
        · dsimp only
          by_cases e : k = a j
          · subst e; rw [up2_s, up2_s]
          · rw [up2_k _ _ e, up2_k _ _ e]; exact i5 k hk
        · dsimp only
          unfold va_up
          by_cases e : i = j
          · subst e; rw [if_pos rfl, if_pos hB]
          · rw [if_neg e, if_neg e]; exact i6 i (by omega)
        · dsimp only
          by_cases e : i = j
          · subst e; exact up2_s _ _ _ _
          · rw [up2_k _ _ (fun c => e (hinj i j (by omega) (by omega) c))]; exact i7 i (by omega) hqi
        · dsimp only
          by_cases e : a i = a j
          · rw [e] at b1; rw [b1] at hB; exact absurd hB (by decide)
          · rw [up2_k _ _ e]; exact i8 i hi b1 b2
        · dsimp only
          by_cases e : k = a j
          · rcases hk with c | c
            · subst e; exact absurd hZ1 c
            · exact absurd e.symm (c j (by omega))
          · rw [up2_k _ _ e]; exact i9 k hk
      · have hB : ¬ B (a j) = true := by rw [w1]; decide
        have h0 : l * A j / T = 0 := by rw [w3, Nat.mul_zero]; exact Nat.zero_div T
        have ez : flB B (nI l) (nI T) (X 5) z j = ((z.1.1, va_up z.1.2 j (-1)), z.2) := by
          unfold flB
          rw [e5, nI_clamp (show a j < 2147483648 by omega), if_neg (fun c => hB c.2)]
        have h64 : y.1.1 64 (a j) = 0 := i8 j (by omega) w1 w2
        rw [ez]
        rw [h0] at e2 ⊢
        refine ⟨⟨by rw [Nat.add_zero]; exact i1, by show y.2 - nI 0 = z.2; rw [i2]; exact Int32.sub_zero z.2⟩, i3, fun r hr => (up2_row hr).trans (i4 r hr), fun r hr => ?_, fun k hk => ?_, fun i hi => ?_, fun i hi hqi => ?_, fun i hi b1 b2 => ?_, fun k hk => ?_, fun K hK hb => bd64_up (Nat.zero_le _) (i10 K hK hb)⟩
        · refine Eq.trans ?_ (i4b r hr)
          funext k
          exact up2_a _ _ hr
        · dsimp only
          by_cases e : k = a j
          · subst e; rw [up2_s, i5 _ hk, h64]; rfl
          · rw [up2_k _ _ e]; exact i5 k hk
        · dsimp only
          unfold va_up
          by_cases e : i = j
          · subst e; rw [if_pos rfl, if_neg hB]
          · rw [if_neg e]; exact i6 i (by omega)
        · dsimp only
          by_cases e : i = j
          · subst e; exact up2_s _ _ _ _
          · rw [up2_k _ _ (fun c => e (hinj i j (by omega) (by omega) c))]; exact i7 i (by omega) hqi
        · dsimp only
          by_cases e : a i = a j
          · rw [e, up2_s]; rfl
          · rw [up2_k _ _ e]; exact i8 i hi b1 b2
        · dsimp only
          by_cases e : k = a j
          · rcases hk with c | c
            · subst e; exact absurd hZ1 c
            · exact absurd e.symm (c j (by omega))
          · rw [up2_k _ _ e]; exact i9 k hk
    · rw [if_neg hq, Nat.add_zero]
      have hZ1 : ¬ Z 65 (a j) = 1 := fun c => hq (decide_eq_true c)
      have hB : ¬ B (a j) = true := fun c => by
        rcases a4 with w | ⟨w1, w2, w3⟩
        · exact hZ1 (w.mp c)
        · exact hZ1 w2
      have ez : flB B (nI l) (nI T) (X 5) z j = ((z.1.1, va_up z.1.2 j (-1)), z.2) := by
        unfold flB
        rw [e5, nI_clamp (show a j < 2147483648 by omega), if_neg (fun c => hB c.2)]
      have ey : bpfL (nI l) (nL T) a y j = y := by
        unfold bpfL
        rw [q65, if_neg hZ1]
      rw [ez, ey]
      refine ⟨⟨i1, i2⟩, i3, i4, i4b, i5, fun i hi => ?_, fun i hi hqi => ?_, i8, i9, i10⟩
      · dsimp only
        unfold va_up
        by_cases e : i = j
        · subst e; rw [if_pos rfl, if_neg hB]
        · rw [if_neg e]; exact i6 i (by omega)
      · by_cases e : i = j
        · subst e; exact absurd hqi hq
        · exact i7 i (by omega) hqi
