/-! ===== class against reference: the wind ===== -/
theorem wgo_v (f0 : Nat → Int32) (v : Int32) : ∀ (n k : Nat) (f : Nat → Int32) (u : Nat), ((k ≤ u ∧ u < k + n ∧ ∀ i, k ≤ i → i ≤ u → f0 i = 0) → wgo f0 v n k f u = v) ∧ (¬ (k ≤ u ∧ u < k + n ∧ ∀ i, k ≤ i → i ≤ u → f0 i = 0) → wgo f0 v n k f u = f u) := by
  intro n
  induction n with
  | zero =>
    intro k f u
    exact ⟨fun q => absurd q.2.1 (by omega), fun _ => rfl⟩
  | succ n ih =>
    intro k f u
    by_cases h0 : f0 k = 0
    · rw [show wgo f0 v (n + 1) k f = wgo f0 v n (k + 1) (va_up f k v) from if_pos h0]
      have hi := ih (k + 1) (va_up f k v) u
      refine ⟨fun q => ?_, fun q => ?_⟩
      · by_cases hk : k = u
        · rw [hi.2 (fun z => by have := z.1; omega), hk]
          exact if_pos rfl
        · exact hi.1 ⟨by have := q.1; omega, by have := q.2.1; omega, fun i h1 h2 => q.2.2 i (by omega) h2⟩
      · have hn : ¬ k = u := fun e => q ⟨by omega, by omega, fun i h1 h2 => by rw [show i = k by omega]; exact h0⟩
        rw [hi.2 (fun z => q ⟨by have := z.1; omega, by have := z.2.1; omega, fun i h1 h2 => by
          rcases Nat.lt_or_ge k i with w9 | w9
          · exact z.2.2 i w9 h2
          · rw [show i = k by omega]; exact h0⟩)]
        exact if_neg (fun e => hn e.symm)
    · rw [show wgo f0 v (n + 1) k f = f from if_neg h0]
      exact ⟨fun q => absurd (q.2.2 k (Nat.le_refl _) q.1) h0, fun _ => rfl⟩
theorem mwS_lo {M M' : mM} {t : Nat} (h : ∀ i, i < t → M' 39 i = M 39 i) : ∀ u, u < t → mwS M' u = mwS M u
  | 0, _ => rfl
  | u + 1, hu => by
    unfold mwS
    rw [h (u + 1) hu, mwS_lo h u (by omega)]
theorem mwS_hi {M M' : mM} {t : Nat} (ht1 : 1 ≤ t) (ht : ¬ M' 39 t = 0) (h : ∀ i, i ≠ t → M' 39 i = M 39 i) : ∀ d, (mwS M' (t + d) = t ∧ ∀ i, t < i → i ≤ t + d → M' 39 i = 0) ∨ (t < mwS M' (t + d) ∧ mwS M' (t + d) = mwS M (t + d) ∧ ∃ i, t < i ∧ i ≤ t + d ∧ ¬ M' 39 i = 0) := by
  intro d
  induction d with
  | zero =>
    refine Or.inl ⟨?_, fun i h1 h2 => absurd h1 (by omega)⟩
    obtain ⟨k, rfl⟩ : ∃ k, t = k + 1 := ⟨t - 1, by omega⟩
    exact if_neg ht
  | succ d ih =>
    by_cases h0 : M' 39 (t + d + 1) = 0
    · have e1 : mwS M' (t + (d + 1)) = mwS M' (t + d) := if_pos h0
      have e2 : mwS M (t + (d + 1)) = mwS M (t + d) := if_pos ((h (t + d + 1) (by omega)).symm.trans h0)
      rw [e1, e2]
      rcases ih with ⟨a1, a2⟩ | ⟨a1, a2, i, b1, b2, b3⟩
      · refine Or.inl ⟨a1, fun i h1 h2 => ?_⟩
        rcases Nat.lt_or_ge i (t + d + 1) with w9 | w9
        · exact a2 i h1 (by omega)
        · rw [show i = t + d + 1 by omega]; exact h0
      · exact Or.inr ⟨a1, a2, i, b1, by omega, b3⟩
    · have e1 : mwS M' (t + (d + 1)) = t + d + 1 := if_neg h0
      have e2 : mwS M (t + (d + 1)) = t + d + 1 := if_neg (fun z => h0 ((h (t + d + 1) (by omega)).trans z))
      rw [e1, e2]
      exact Or.inr ⟨by omega, rfl, t + d + 1, by omega, by omega, h0⟩
/-- what the class keeps of a minute is what was told of it last -/
def relD (M : mM) (r : Nat) (D : Nat → Int32) : Prop := ∀ u, u ≤ 120 → D u = if mwS M u = 0 then 0 else M r (mwS M u)
theorem relD_wind {M M' : mM} {r t : Nat} {D : Nat → Int32} {v : Int32} (ht1 : 1 ≤ t) (ht : t ≤ 120) (h9 : M' 39 = va_up (M 39) t 1) (hr : M' r = va_up (M r) t v) (hD : relD M r D) : relD M' r (wgo (va_up (M 39) t 1) v (120 - t) (t + 1) (va_up D t v)) := by
  intro u hu
  have ht' : ¬ M' 39 t = 0 := by rw [h9]; unfold va_up; rw [if_pos rfl]; decide
  have hk : ∀ i, i ≠ t → M' 39 i = M 39 i := fun i hi => by rw [h9]; exact if_neg hi
  have hkr : ∀ i, i ≠ t → M' r i = M r i := fun i hi => by rw [hr]; exact if_neg hi
  rw [← h9]
  have hw := wgo_v (M' 39) v (120 - t) (t + 1) (va_up D t v) u
  rcases Nat.lt_or_ge u t with w9 | w9
  · rw [hw.2 (fun z => by have := z.1; omega), show va_up D t v u = D u from if_neg (by omega), hD u hu, mwS_lo (fun i hi => hk i (by omega)) u w9]
    have hle := mwS_le M u
    rw [hkr _ (show mwS M u ≠ t by omega)]
  · obtain ⟨d, rfl⟩ : ∃ d, u = t + d := ⟨u - t, by omega⟩
    rcases mwS_hi ht1 ht' hk d with ⟨a1, a2⟩ | ⟨a1, a2, i, b1, b2, b3⟩
    · rw [a1, if_neg (show ¬ t = 0 by omega), show M' r t = v by rw [hr]; exact if_pos rfl]
      rcases Nat.eq_zero_or_pos d with q | q
      · subst q
        rw [hw.2 (fun z => by have := z.1; omega)]
        exact if_pos rfl
      · exact hw.1 ⟨by omega, by omega, fun i h1 h2 => a2 i (by omega) h2⟩
    · rw [hw.2 (fun z => b3 (z.2.2 i (by omega) b2)), show va_up D t v (t + d) = D (t + d) from if_neg (by omega), hD _ hu, a2, hkr _ (show mwS M (t + d) ≠ t by omega)]
