/-! ===== the parsers agree: tokens against bytes ===== -/
def tkB9 (tx : Nat → Nat) (L i : Nat) : Bool := (scT tx L (bf tx i) i).isSome
def cnt (tx : Nat → Nat) (L : Nat) : Nat → Nat
  | 0 => 0
  | i + 1 => if tkB9 tx L i = true then cnt tx L i + 1 else cnt tx L i
theorem cnt_le {tx : Nat → Nat} {L : Nat} : ∀ i, cnt tx L i ≤ i
  | 0 => Nat.le_refl _
  | i + 1 => by
    have := cnt_le (tx := tx) (L := L) i
    unfold cnt
    split <;> omega
theorem cnt_mono {tx : Nat → Nat} {L i : Nat} : ∀ k, cnt tx L i ≤ cnt tx L (i + k)
  | 0 => Nat.le_refl _
  | k + 1 => by
    have h := cnt_mono (tx := tx) (L := L) (i := i) k
    have e : cnt tx L (i + (k + 1)) = if tkB9 tx L (i + k) = true then cnt tx L (i + k) + 1 else cnt tx L (i + k) := rfl
    rw [e]
    split <;> omega
theorem cnt_s {tx : Nat → Nat} {L i : Nat} (h : tkB9 tx L i = true) : cnt tx L (i + 1) = cnt tx L i + 1 := if_pos h
theorem cnt_n {tx : Nat → Nat} {L i : Nat} (h : ¬ tkB9 tx L i = true) : cnt tx L (i + 1) = cnt tx L i := if_neg h
theorem cnt_lt {tx : Nat → Nat} {L i n : Nat} (h : tkB9 tx L i = true) (hn : i < n) : cnt tx L i < cnt tx L n := by
  have h1 := cnt_mono (tx := tx) (L := L) (i := i + 1) (n - (i + 1))
  rw [show i + 1 + (n - (i + 1)) = n by omega, cnt_s h] at h1
  omega
theorem cnt_same {tx : Nat → Nat} {L i : Nat} : ∀ k, (∀ j, i ≤ j → j < i + k → ¬ tkB9 tx L j = true) → cnt tx L (i + k) = cnt tx L i
  | 0, _ => rfl
  | k + 1, h => by
    have e : cnt tx L (i + (k + 1)) = cnt tx L (i + k) := cnt_n (i := i + k) (h (i + k) (by omega) (by omega))
    rw [e]
    exact cnt_same k (fun j h1 h2 => h j h1 (by omega))
/-- the tokens of the class stand in their rows -/
def tokI (Z : rZ) (tx : Nat → Nat) (L : Nat) : Prop := Z 0 0 = nI L ∧ L ≤ 600 ∧ Z 0 12 = nI (cnt tx L L) ∧ ∀ i, i < L → ∀ t v, scT tx L (bf tx i) i = some (t, v) → Z 5 (cnt tx L i) = t ∧ Z 6 (cnt tx L i) = nI i ∧ Z 7 (cnt tx L i) = v
theorem sc_at {Z : rZ} {tx : Nat → Nat} {L : Nat} : ∀ n, n ≤ 600 → itN (scB tx L) (up2 Z 0 12 0) n 0 12 = nI (cnt tx L n) ∧ (∀ k, k ≠ 12 → itN (scB tx L) (up2 Z 0 12 0) n 0 k = Z 0 k) ∧ (∀ r, r ≠ 0 → r < 5 → itN (scB tx L) (up2 Z 0 12 0) n r = Z r) ∧ ∀ i, i < n → ∀ t v, scT tx L (bf tx i) i = some (t, v) → itN (scB tx L) (up2 Z 0 12 0) n 5 (cnt tx L i) = t ∧ itN (scB tx L) (up2 Z 0 12 0) n 6 (cnt tx L i) = nI i ∧ itN (scB tx L) (up2 Z 0 12 0) n 7 (cnt tx L i) = v := by
  intro n
  induction n with
  | zero => exact fun _ => ⟨up2_s _ _ _ _, fun k hk => up2_k _ _ hk, fun r hr _ => up2_row hr, fun i hi => absurd hi (Nat.not_lt_zero i)⟩
  | succ n ih =>
    intro hn
    obtain ⟨i1, i0, i9, i2⟩ := ih (by omega)
    have hc := cnt_le (tx := tx) (L := L) n
    rw [itN_s]
    generalize itN (scB tx L) (up2 Z 0 12 0) n = z at i1 i0 i9 i2 ⊢
    unfold scB
    cases hs : scT tx L (bf tx n) n with
    | none =>
      have h0 : ¬ tkB9 tx L n = true := by
        unfold tkB9
        rw [hs]
        exact fun q => Bool.noConfusion q
      rw [cnt_n h0]
      refine ⟨i1, i0, i9, fun i hi t v e => ?_⟩
      by_cases q : i = n
      · subst q
        rw [hs] at e
        cases e
      · exact i2 i (by omega) t v e
    | some x =>
      obtain ⟨t0, v0⟩ := x
      have h1 : tkB9 tx L n = true := by
        unfold tkB9
        rw [hs]
        rfl
      have ea : scA z n (some (t0, v0)) = adT z (z 0 12).toNatClampNeg t0 (nI n) v0 := rfl
      rw [ea, i1, nI_clamp (by omega), cnt_s h1]
      unfold adT
      refine ⟨up2_s _ _ _ _, fun k hk => ?_, fun r hr h5 => ?_, fun i hi t v e => ?_⟩
      · rw [up2_k _ _ hk, up2_a _ _ (show 0 ≠ 7 by decide), up2_a _ _ (show 0 ≠ 6 by decide), up2_a _ _ (show 0 ≠ 5 by decide)]
        exact i0 k hk
      · rw [up2_row hr, up2_row (show r ≠ 7 by omega), up2_row (show r ≠ 6 by omega), up2_row (show r ≠ 5 by omega)]
        exact i9 r hr h5
      · rw [up2_a _ _ (show 5 ≠ 0 by decide), up2_a _ _ (show 5 ≠ 7 by decide), up2_a _ _ (show 5 ≠ 6 by decide), up2_a _ _ (show 6 ≠ 0 by decide), up2_a _ _ (show 6 ≠ 7 by decide), up2_a _ _ (show 7 ≠ 0 by decide)]
        by_cases q : i = n
        · subst q
          rw [hs] at e
          cases e
          refine ⟨up2_s _ _ _ _, up2_s _ _ _ _, up2_s _ _ _ _⟩
        · have hb : tkB9 tx L i = true := by
            unfold tkB9
            rw [e]
            rfl
          have hlt := cnt_lt hb (show i < n by omega)
          have hne : cnt tx L i ≠ cnt tx L n := by omega
          obtain ⟨b1, b2, b3⟩ := i2 i (by omega) t v e
          exact ⟨(up2_k _ _ hne).trans b1, (up2_k _ _ hne).trans ((up2_a _ _ (by decide)).trans b2), (up2_k _ _ hne).trans ((up2_a _ _ (by decide)).trans ((up2_a _ _ (by decide)).trans b3))⟩
theorem scan_I {Z : rZ} {L : Nat} (hL : L ≤ 600) (e : Z 0 0 = nI L) : tokI (scZ L Z L) (txt Z) L := by
  unfold scZ
  obtain ⟨a1, a2, -, a3⟩ := sc_at (Z := Z) (tx := txt Z) (L := L) L hL
  exact ⟨(a2 0 (by decide)).trans e, hL, a1, a3⟩
theorem tokI_fr {Z Y : rZ} {tx : Nat → Nat} {L : Nat} (e0 : Y 0 0 = Z 0 0) (e12 : Y 0 12 = Z 0 12) (e : Y 5 = Z 5 ∧ Y 6 = Z 6 ∧ Y 7 = Z 7) (I : tokI Z tx L) : tokI Y tx L := by
  obtain ⟨i1, i2, i3, i4⟩ := I
  refine ⟨e0.trans i1, i2, e12.trans i3, fun i hi t v h => ?_⟩
  rw [e.1, e.2.1, e.2.2]
  exact i4 i hi t v h
/-- the token that begins at p -/
def tkA (tx : Nat → Nat) (L p : Nat) : Int32 × Int32 := if p < L then (scT tx L (bf tx p) p).getD (24, 0) else (24, 0)
theorem rtk {Z : rZ} {tx : Nat → Nat} {L p : Nat} (I : tokI Z tx L) (e : Z 0 13 = nI (cnt tx L p)) (hp : p ≤ L) (h : p < L → tkB9 tx L p = true) : rtok Z = (tkA tx L p).1 ∧ rher Z = nI p ∧ rval Z = (tkA tx L p).2 := by
  obtain ⟨i1, i2, i3, i4⟩ := I
  have c1 := cnt_le (tx := tx) (L := L) L
  have c2 := cnt_le (tx := tx) (L := L) p
  unfold rtok rher rval tkA
  by_cases q : p < L
  · have hs := h q
    have hlt := cnt_lt hs q
    rw [e, i3, if_pos ((nI_ltI (by omega) (by omega)).mpr hlt), if_pos ((nI_ltI (by omega) (by omega)).mpr hlt), if_pos ((nI_ltI (by omega) (by omega)).mpr hlt), if_pos q, nI_clamp (by omega)]
    unfold tkB9 at hs
    cases hc : scT tx L (bf tx p) p with
    | none =>
      rw [hc] at hs
      exact absurd hs (fun q => Bool.noConfusion q)
    | some x =>
      obtain ⟨t, v⟩ := x
      exact i4 p q t v hc
  · have ep : p = L := by omega
    subst ep
    have hn : ¬ nI (cnt tx p p) < nI (cnt tx p p) := fun z => by
      have := (nI_ltI (by omega) (by omega)).mp z
      omega
    rw [e, i3, if_neg hn, if_neg hn, if_neg hn, if_neg q]
    exact ⟨rfl, i1, rfl⟩
