/-! ===== class against reference: paying in turn; long numbers ===== -/
def nL (k : Nat) : Int64 := Int64.ofInt k
theorem nL_i {k : Nat} (h : k < 4611686018427387904) : (nL k).toInt = (k : Int) := by
  unfold nL
  exact Int64.toInt_ofInt_of_le (by omega) (by omega)
theorem nL_of {x : Int64} {k : Nat} (h : k < 4611686018427387904) (e : x.toInt = (k : Int)) : x = nL k := Int64.toInt_inj.mp (e.trans (nL_i h).symm)
theorem nL_w {k : Nat} (h : k < 2147483648) : (nI k).toInt64 = nL k := nL_of (by omega) (by rw [Int32.toInt_toInt64, nI_toInt h])
theorem nL_add {a b : Nat} (h : a + b < 4611686018427387904) : nL a + nL b = nL (a + b) := nL_of h (by
  rw [Int64.toInt_add, nL_i (by omega), nL_i (by omega), Int.bmod_eq_of_le (by omega) (by omega)]
  omega)
theorem nL_sub {a b : Nat} (ha : a < 4611686018427387904) (h : b ≤ a) : nL a - nL b = nL (a - b) := nL_of (by omega) (by
  rw [Int64.toInt_sub, nL_i (by omega), nL_i (by omega), Int.bmod_eq_of_le (by omega) (by omega)]
  omega)
theorem nL_mul {a b : Nat} (h : a * b < 4611686018427387904) (ha : a < 4611686018427387904) (hb : b < 4611686018427387904) : nL a * nL b = nL (a * b) := nL_of h (by
  rw [Int64.toInt_mul, nL_i ha, nL_i hb]
  generalize hx : a * b = x at h
  have e : ((a : Int) * (b : Int)) = (x : Int) := by rw [← hx, Int.natCast_mul]
  rw [e, Int.bmod_eq_of_le (by omega) (by omega)])
theorem nL_div {a b : Nat} (ha : a < 4611686018427387904) (hb : b < 4611686018427387904) : nL a / nL b = nL (a / b) := by
  have hd : a / b ≤ a := Nat.div_le_self a b
  refine nL_of (by omega) ?_
  rw [Int64.toInt_div, nL_i ha, nL_i hb]
  generalize hx : a / b = x at hd
  have e : ((a : Int).tdiv (b : Int)) = (x : Int) := by rw [← hx]; exact (Int.ofNat_tdiv a b).symm
  rw [e, Int.bmod_eq_of_le (by omega) (by omega)]
theorem nL_n {k : Nat} (h : k < 2147483648) : (nL k).toInt32 = nI k := by
  apply Int32.toInt_inj.mp
  rw [Int64.toInt_toInt32, nL_i (by omega), nI_toInt h, Int.bmod_eq_of_le (by omega) (by omega)]
theorem nL_lt {a b : Nat} (ha : a < 4611686018427387904) (hb : b < 4611686018427387904) : nL a < nL b ↔ a < b := by
  rw [fa_lt64, nL_i ha, nL_i hb]
  omega
theorem lg_pos {x y : Int64} : 0 < lg_cmp x y ↔ y < x := by
  have h1 : (0 : Int32) < lg_cmp x y ↔ ¬ lg_cmp x y ≤ 0 := by
    rw [fa_lt, fa_le]
    omega
  rw [h1]
  refine ⟨lt_of_lg, fun h z => nlt_of_lg z h⟩
theorem nI_inj {a b : Nat} (ha : a < 2147483648) (hb : b < 2147483648) (h : nI a = nI b) : a = b := (nI_eq ha hb).mp h
theorem mn2_n {v l : Nat} (hv : v < 2147483648) (hl : l < 2147483648) : mn2 (nI v) (nI l) = nI (min v l) := by
  unfold mn2
  by_cases q : nI l < nI v
  · rw [if_pos q]
    rw [fa_lt, nI_toInt hl, nI_toInt hv] at q
    rw [show min v l = l by omega]
  · rw [if_neg q]
    rw [fa_lt, nI_toInt hl, nI_toInt hv] at q
    rw [show min v l = v by omega]
theorem nI_sub {a b : Nat} (h : b ≤ a) : nI a - nI b = nI (a - b) := by
  rw [show nI a = nI (b + (a - b)) by rw [show b + (a - b) = a by omega]]
  exact nI_off b (a - b)
/-- one act: what is asked is the same on both sides; the manner fits, or nothing is asked -/
def payA (B : Nat → Bool) (how : Int32) (X Z : mM) (a : Nat) : Prop := ∃ v, v < 100000 ∧ X 2 a = nI v ∧ Z 63 a = nI v ∧ ((B a = true ↔ Z 65 a = how) ∨ (B a = false ∧ Z 65 a = how ∧ v = 0))
/-- what is settled stays small -/
def bd64 (Z : mM) (K : Nat) : Prop := ∀ k, k < 201 → ∃ v, v ≤ K ∧ Z 64 k = nI v
theorem bd64_up {Z : mM} {K a v : Nat} (hv : v ≤ K) (h : bd64 Z K) : bd64 (up2 Z 64 a (nI v)) K := fun k hk => by
  by_cases e : k = a
  · subst e; rw [up2_s]; exact ⟨v, hv, rfl⟩
  · rw [up2_k _ _ e]; exact h k hk
def pitI (B : Nat → Bool) (how : Int32) (X Z : mM) (a : Nat → Nat) (l m : Nat) (p q : mM × Int32) : Prop := (∃ l1, l1 ≤ l ∧ p.2 = nI l1 ∧ q.2 = nI l1) ∧ (∀ r, r ≠ 3 → p.1 r = X r) ∧ (∀ r, r ≠ 64 → q.1 r = Z r) ∧ (∀ k, k < 201 → p.1 3 k = q.1 64 k) ∧ (∀ i, i < m → B (a i) = false → Z 65 (a i) = how → q.1 64 (a i) = 0) ∧ (∀ k, (Z 65 k ≠ how ∨ ∀ i, i < m → a i ≠ k) → q.1 64 k = Z 64 k) ∧ ∀ K, 100000 ≤ K → bd64 Z K → bd64 q.1 K
theorem pit_eq {B : Nat → Bool} {how : Int32} {X Z : mM} {a : Nat → Nat} {l m : Nat} (hl : l < 2147483648) (h5 : ∀ i, i < m → X 5 i = nI (a i) ∧ a i < 201) (hA : ∀ i, i < m → payA B how X Z (a i)) (hR : ∀ k, k < 201 → X 3 k = Z 64 k) (hN : ∀ i, i < m → B (a i) = false → Z 65 (a i) = how → Z 64 (a i) = 0) : ∀ j, j ≤ m → pitI B how X Z a l m (itN (pitB B (X 5)) (X, nI l) j) (itN (inrL how a) (Z, nI l) j) := by
  intro j
  induction j with
  | zero => exact fun _ => ⟨⟨l, Nat.le_refl _, rfl, rfl⟩, fun _ _ => rfl, fun _ _ => rfl, hR, hN, fun _ _ => rfl, fun _ _ h => h⟩
  | succ j ih =>
    intro hj
    obtain ⟨⟨l1, hl1, i1, i2⟩, i3, i4, i5, i6, i7, i8⟩ := ih (by omega)
    rw [itN_s, itN_s]
    generalize itN (pitB B (X 5)) (X, nI l) j = p at i1 i3 i5 ⊢
    generalize itN (inrL how a) (Z, nI l) j = q at i2 i4 i5 i6 i7 i8 ⊢
    obtain ⟨e5, ha⟩ := h5 j (by omega)
    obtain ⟨v, hv, v1, v2, v3⟩ := hA j (by omega)
    have p2 : p.1 2 (a j) = nI v := by rw [i3 2 (by decide)]; exact v1
    have q63 : q.1 63 (a j) = nI v := by rw [i4 63 (by decide)]; exact v2
    have q65 : q.1 65 (a j) = Z 65 (a j) := by rw [i4 65 (by decide)]
    have epB : pitB B (X 5) p j = if B (a j) = true then (up2 p.1 3 (a j) (nI (min v l1)), nI (l1 - min v l1)) else p := by
      unfold pitB
      rw [e5, nI_clamp (by omega), p2, i1, mn2_n (by omega) (by omega), nI_sub (by omega)]
    have eqL : inrL how a q j = if Z 65 (a j) = how then (up2 q.1 64 (a j) (nI (min v l1)), nI (l1 - min v l1)) else q := by
      unfold inrL
      rw [q65, q63, i2, mn2_n (by omega) (by omega), nI_sub (by omega)]
    rw [epB, eqL]
    have both : B (a j) = true → Z 65 (a j) = how → pitI B how X Z a l m (up2 p.1 3 (a j) (nI (min v l1)), nI (l1 - min v l1)) (up2 q.1 64 (a j) (nI (min v l1)), nI (l1 - min v l1)) := fun hB hZ => by
      refine ⟨⟨l1 - min v l1, by omega, rfl, rfl⟩, fun r hr => (up2_row hr).trans (i3 r hr), fun r hr => (up2_row hr).trans (i4 r hr), fun k hk => ?_, fun i hi b1 b2 => ?_, fun k hk => ?_, fun K hK hb => bd64_up (by omega) (i8 K hK hb)⟩
      · dsimp only
        by_cases e : k = a j
        · subst e; rw [up2_s, up2_s]
        · rw [up2_k _ _ e, up2_k _ _ e]; exact i5 k hk
      · dsimp only
        by_cases e : a i = a j
        · rw [e] at b1; rw [b1] at hB; exact absurd hB (by decide)
        · rw [up2_k _ _ e]; exact i6 i hi b1 b2
      · dsimp only
        by_cases e : k = a j
        · rcases hk with y | y
          · subst e; exact absurd hZ y
          · exact absurd e.symm (y j (by omega))
        · rw [up2_k _ _ e]; exact i7 k hk
    rcases v3 with v3 | ⟨v3, v4, v5⟩
    · by_cases hB : B (a j) = true
      · rw [if_pos hB, if_pos (v3.mp hB)]
        exact both hB (v3.mp hB)
      · rw [if_neg hB, if_neg (fun y => hB (v3.mpr y))]
        exact ⟨⟨l1, hl1, i1, i2⟩, i3, i4, i5, i6, i7, i8⟩
    · subst v5
      rw [if_neg (show ¬ B (a j) = true by rw [v3]; decide), if_pos v4, Nat.zero_min, Nat.sub_zero]
      have h0 : q.1 64 (a j) = 0 := i6 j (by omega) v3 v4
      refine ⟨⟨l1, hl1, i1, rfl⟩, i3, fun r hr => (up2_row hr).trans (i4 r hr), fun k hk => ?_, fun i hi b1 b2 => ?_, fun k hk => ?_, fun K hK hb => bd64_up (Nat.zero_le _) (i8 K hK hb)⟩
      · dsimp only
        by_cases e : k = a j
        · subst e; rw [up2_s, i5 _ hk, h0]; rfl
        · rw [up2_k _ _ e]; exact i5 k hk
      · dsimp only
        by_cases e : a i = a j
        · rw [e, up2_s]; rfl
        · rw [up2_k _ _ e]; exact i6 i hi b1 b2
      · dsimp only
        by_cases e : k = a j
        · rcases hk with y | y
          · subst e; exact absurd v4 y
          · exact absurd e.symm (y j (by omega))
        · rw [up2_k _ _ e]; exact i7 k hk
/-- nothing is asked, nothing left: nothing changes -/
theorem inr_0 {how : Int32} {Z : mM} {a : Nat → Nat} {m : Nat} (hA : ∀ i, i < m → Z 63 (a i) = 0 ∧ Z 64 (a i) = 0) : ∀ j, j ≤ m → (itN (inrL how a) (Z, 0) j).2 = 0 ∧ (∀ r, r ≠ 64 → (itN (inrL how a) (Z, 0) j).1 r = Z r) ∧ ∀ k, (itN (inrL how a) (Z, 0) j).1 64 k = Z 64 k := by
  intro j
  induction j with
  | zero => exact fun _ => ⟨rfl, fun _ _ => rfl, fun _ => rfl⟩
  | succ j ih =>
    intro hj
    obtain ⟨i1, i2, i3⟩ := ih (by omega)
    rw [itN_s]
    generalize itN (inrL how a) (Z, 0) j = q at i1 i2 i3 ⊢
    obtain ⟨h1, h2⟩ := hA j (by omega)
    unfold inrL
    split
    · rw [i1, i2 63 (by decide), h1, show mn2 0 0 = 0 from by decide]
      refine ⟨show (0 : Int32) - 0 = 0 from by decide, fun r hr => (up2_row hr).trans (i2 r hr), fun k => ?_⟩
      dsimp only
      by_cases e : k = a j
      · subst e; rw [up2_s, h2]
      · rw [up2_k _ _ e]; exact i3 k
    · exact ⟨i1, i2, i3⟩
