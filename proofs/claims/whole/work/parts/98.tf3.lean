/-! ===== what both read, as terms of an act ===== -/
theorem cd_nn {y x : Int32} (h : cdR y x) : 0 ≤ x := by
  unfold cdR at h
  rcases h with ⟨v, hv, -, e⟩ | ⟨o, ho, -, e⟩ | h
  · rw [e, fa_le, ti_0, nI_toInt (by omega)]; omega
  · rw [e, fa_le, ti_0, nI_toInt (by omega)]; omega
  · rcases h with ⟨-, e⟩ | ⟨-, e⟩ | ⟨-, e⟩ | ⟨-, e⟩ | ⟨-, e⟩ | ⟨-, e⟩ | ⟨-, e⟩ | ⟨-, e⟩ | ⟨-, e⟩ | ⟨-, e⟩ | ⟨-, e⟩ | ⟨-, e⟩ | ⟨-, e⟩ | ⟨-, e⟩ | ⟨-, e⟩ | ⟨-, e⟩ | ⟨-, e⟩ | ⟨-, e⟩ | ⟨-, e⟩ | ⟨-, e⟩ <;> (rw [e]; decide)
theorem tmL_in {kd : Nat → Int32} : ∀ n, ((tmL kd n).1 = -1 ∨ ∃ i, i < n ∧ (tmL kd n).1 = nI i) ∧ ((tmL kd n).2.1 = -1 ∨ ∃ i, i < n ∧ (tmL kd n).2.1 = nI i)
  | 0 => ⟨Or.inl rfl, Or.inl rfl⟩
  | n + 1 => by
    obtain ⟨h1, h2⟩ := tmL_in (kd := kd) n
    rw [show tmL kd (n + 1) = tmB kd (tmL kd n) n from rfl]
    generalize tmL kd n = z at h1 h2 ⊢
    have u1 : z.1 = -1 ∨ ∃ i, i < n + 1 ∧ z.1 = nI i := h1.imp id (fun ⟨i, hi, e⟩ => ⟨i, by omega, e⟩)
    have u2 : z.2.1 = -1 ∨ ∃ i, i < n + 1 ∧ z.2.1 = nI i := h2.imp id (fun ⟨i, hi, e⟩ => ⟨i, by omega, e⟩)
    unfold tmB
    split
    · exact ⟨Or.inr ⟨n, by omega, rfl⟩, u2⟩
    · split
      · exact ⟨u1, Or.inr ⟨n, by omega, rfl⟩⟩
      · split
        · exact ⟨u1, u2⟩
        · exact ⟨u1, u2⟩
/-- the arrays of the new object, read from the reader's rows -/
theorem fr_at {Y : rZ} {j c i : Nat} (hj : j ≤ 24) (hi : i < j) : va_up (cpyF (Y 3) 24 (j + 1)) j (nI c) i = Y 3 i := by
  unfold va_up
  rw [if_neg (by omega)]
  exact cpyF_in (by omega) (by omega)
theorem fr_j {Y : rZ} {j c : Nat} : va_up (cpyF (Y 3) 24 (j + 1)) j (nI c) j = nI c := by
  unfold va_up
  rw [if_pos rfl]
theorem fr_s {Y : rZ} {j c i x : Nat} (hj : j ≤ 24) (hi : i < j) (h1 : i + 1 < j → Y 3 (i + 1) = nI x) (h2 : i + 1 = j → c = x) : va_up (cpyF (Y 3) 24 (j + 1)) j (nI c) (i + 1) = nI x := by
  by_cases q : i + 1 = j
  · rw [q, fr_j, h2 q]
  · rw [fr_at hj (by omega)]
    exact h1 (by omega)
theorem ob_fr {M : mM} {Y : rZ} {c j i : Nat} (hj : j ≤ 24) (hi : i < j) (K : kpI M Y c j i) : ∃ x y, x ≤ y ∧ y ≤ c ∧ va_up (cpyF (Y 3) 24 (j + 1)) j (nI c) i = nI x ∧ va_up (cpyF (Y 3) 24 (j + 1)) j (nI c) (i + 1) = nI y := by
  rcases K with ⟨e, x, he, k1, k2, k3, k4, k5, k6, k7⟩ | ⟨t, x, m, ht, k1, k2, k3, k4, k5, k6, k7, k8, k9⟩
  · exact ⟨x, x, Nat.le_refl _, k4, (fr_at hj hi).trans k5, fr_s hj hi k6 k7⟩
  · exact ⟨x, x + m, Nat.le_add_right _ _, k3, (fr_at hj hi).trans k4, fr_s hj hi k5 k6⟩
theorem ob_st {M M2 : mM} {Y : rZ} {c j i a : Nat} {cs : Nat → Int32} (hc : c ≤ 600) (hj : j ≤ 24) (hi : i < j) (K : kpI M Y c j i) (hD : ∀ k, k < c → cdR (cs k) (Y 1 k)) (e26 : M2 26 (24 * a + i) = M 26 i) (e27 : M2 27 (24 * a + i) = M 27 i) (e28 : M2 28 (24 * a + i) = M 28 i) (e29 : ∀ k, k < c → M2 29 (640 * a + k) = cs k) : stmR M2 a i (cpyF (Y 1) 600 c) (cpyF (Y 2) 24 j) (va_up (cpyF (Y 3) 24 (j + 1)) j (nI c)) := by
  have hk : cpyF (Y 2) 24 j i = Y 2 i := cpyF_in (by omega) hi
  rcases K with ⟨e, x, he, k1, k2, k3, k4, k5, k6, k7⟩ | ⟨t, x, m, ht, k1, k2, k3, k4, k5, k6, k7, k8, k9⟩
  · exact Or.inl ⟨e, he, e26.trans k1, e28.trans k2, hk.trans k3⟩
  · have hcd : ∀ k, k < m → cdR (M2 29 (640 * a + (x + k))) (Y 1 (x + k)) := fun k hk => by
      rw [e29 (x + k) (by omega)]
      exact hD (x + k) (by omega)
    have hp := k9 (fun k => M2 29 (640 * a + k)) hcd
    refine Or.inr ⟨t, x, x, m, ht, e26.trans k1, hk.trans k2, ⟨(fr_at hj hi).trans k4, fr_s hj hi k5 k6, by omega⟩, ⟨e27.trans k7, e28.trans k8, by omega⟩, fun k hk => ?_, hp.1, hp.2.1, hp.2.2.1⟩
    rw [cpyF_in (show x + k < 600 by omega) (show x + k < c by omega)]
    exact hcd k hk
/-- copies: row by row -/
theorem cp1_at {a : Nat} (z : mM) (j : Nat) (hj : j < 24 * a) (r i : Nat) : cp1B a z j r i = if (26 ≤ r ∧ r ≤ 28) ∧ i = 24 * a + j then z r j else z r i := by
  have hj2 : j ≠ 24 * a + j := by omega
  unfold cp1B
  by_cases hr : 26 ≤ r ∧ r ≤ 28
  · by_cases hi : i = 24 * a + j
    · rw [if_pos ⟨hr, hi⟩, hi]
      by_cases h28 : r = 28
      · rw [h28, up2_s, up2_row (show 28 ≠ 27 by decide), up2_row (show 28 ≠ 26 by decide)]
      · rw [up2_row (r := r) h28]
        by_cases h27 : r = 27
        · rw [h27, up2_s, up2_row (show 27 ≠ 26 by decide)]
        · have h26 : r = 26 := by omega
          rw [up2_row (r := r) h27, h26, up2_s]
    · rw [if_neg (fun y => hi y.2), up2_k _ _ hi, up2_k _ _ hi, up2_k _ _ hi]
  · rw [if_neg (fun y => hr y.1), up2_row (r := r) (by omega), up2_row (r := r) (by omega), up2_row (r := r) (by omega)]
theorem cp1_it {a p : Nat} (M : mM) (ha : 1 ≤ a) (hp : p ≤ 24) : ∀ k, k ≤ p → (∀ r i, (¬ (26 ≤ r ∧ r ≤ 28) ∨ i < 24 * a ∨ 24 * a + k ≤ i) → itN (cp1B a) M k r i = M r i) ∧ ∀ r, 26 ≤ r ∧ r ≤ 28 → ∀ i, i < k → itN (cp1B a) M k r (24 * a + i) = M r i
  | 0, _ => ⟨fun _ _ _ => rfl, fun _ _ i hi => absurd hi (Nat.not_lt_zero i)⟩
  | k + 1, hk => by
    obtain ⟨h1, h2⟩ := cp1_it M ha hp k (by omega)
    rw [itN_s]
    generalize itN (cp1B a) M k = z at h1 h2 ⊢
    refine ⟨fun r i h => ?_, fun r hr i hi => ?_⟩
    · rw [cp1_at z k (by omega), if_neg (fun y => by omega)]
      exact h1 r i (by omega)
    · rw [cp1_at z k (by omega)]
      by_cases e : i = k
      · rw [if_pos ⟨hr, by omega⟩, e]
        exact h1 r k (by omega)
      · rw [if_neg (fun y => by omega)]
        exact h2 r hr i (by omega)
theorem cp2_it {a c : Nat} (M : mM) (ha : 1 ≤ a) (hc : c ≤ 640) : ∀ k, k ≤ c → (∀ r, r ≠ 29 → itN (cp2B a) M k r = M r) ∧ (∀ i, i < 640 * a → itN (cp2B a) M k 29 i = M 29 i) ∧ ∀ i, i < k → itN (cp2B a) M k 29 (640 * a + i) = M 29 i
  | 0, _ => ⟨fun _ _ => rfl, fun _ _ => rfl, fun i hi => absurd hi (Nat.not_lt_zero i)⟩
  | k + 1, hk => by
    obtain ⟨h0, h1, h2⟩ := cp2_it M ha hc k (by omega)
    rw [itN_s]
    generalize itN (cp2B a) M k = z at h0 h1 h2 ⊢
    refine ⟨fun r h => (cp2B_row z k h).trans (h0 r h), fun i hi => ?_, fun i hi => ?_⟩
    · unfold cp2B
      rw [up2_k _ _ (show i ≠ 640 * a + k by omega)]
      exact h1 i hi
    · unfold cp2B
      by_cases e : i = k
      · rw [e, up2_s]
        exact h1 k (by omega)
      · rw [up2_k _ _ (show 640 * a + i ≠ 640 * a + k by omega)]
        exact h2 i (by omega)
theorem mcp_at {a p c : Nat} (M : mM) (ha : 1 ≤ a) (hp : p ≤ 24) (hc : c ≤ 640) : (∀ r, ¬ (25 ≤ r ∧ r ≤ 29) → mcpS a p c M r = M r) ∧ (mcpS a p c M 25 a = M 25 0 ∧ ∀ i, i ≠ a → mcpS a p c M 25 i = M 25 i) ∧ ((∀ r, 26 ≤ r ∧ r ≤ 28 → ∀ i, i < 24 * a → mcpS a p c M r i = M r i) ∧ ∀ r, 26 ≤ r ∧ r ≤ 28 → ∀ i, i < p → mcpS a p c M r (24 * a + i) = M r i) ∧ (∀ i, i < 640 * a → mcpS a p c M 29 i = M 29 i) ∧ ∀ i, i < c → mcpS a p c M 29 (640 * a + i) = M 29 i := by
  unfold mcpS
  have A := cp1_it (a := a) (p := p) (up2 M 25 a (M 25 0)) ha hp p (Nat.le_refl p)
  generalize itN (cp1B a) (up2 M 25 a (M 25 0)) p = z at A ⊢
  have B := cp2_it (a := a) (c := c) z ha hc c (Nat.le_refl c)
  generalize itN (cp2B a) z c = y at B ⊢
  obtain ⟨a1, a2⟩ := A
  obtain ⟨b0, b1, b2⟩ := B
  refine ⟨fun r hr => ?_, ⟨?_, fun i hi => ?_⟩, ⟨fun r hr i hi => ?_, fun r hr i hi => ?_⟩, fun i hi => ?_, fun i hi => ?_⟩
  · funext i
    rw [b0 r (by omega), a1 r i (by omega), up2_row (show r ≠ 25 by omega)]
  · rw [b0 25 (by decide), a1 25 a (by omega), up2_s]
  · rw [b0 25 (by decide), a1 25 i (by omega), up2_k _ _ hi]
  · rw [b0 r (by omega), a1 r i (by omega), up2_row (show r ≠ 25 by omega)]
  · rw [b0 r (by omega), a2 r hr i hi, up2_row (show r ≠ 25 by omega)]
  · rw [b1 i hi, a1 29 i (by omega), up2_row (show 29 ≠ 25 by decide)]
  · rw [b2 i hi, a1 29 i (by omega), up2_row (show 29 ≠ 25 by decide)]
