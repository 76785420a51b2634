/-! ===== the parsers agree: what waits, and what drops it ===== -/
/-- over w0 there wait ps, the top one first -/
def wtI (ws : Nat → Int32) (w0 : Nat) (ps : List Int32) : Prop := ∀ j, j < ps.length → ws (w0 + (ps.length - 1 - j)) = ps.getD j 0
theorem wtI_c {ws : Nat → Int32} {w0 : Nat} {v : Int32} {ps : List Int32} (h : wtI ws w0 (v :: ps)) : ws (w0 + ps.length) = v ∧ wtI ws w0 ps := by
  have hl : (v :: ps).length = ps.length + 1 := rfl
  refine ⟨?_, fun j hj => ?_⟩
  · have := h 0 (by omega)
    rw [hl, show ps.length + 1 - 1 - 0 = ps.length by omega] at this
    exact this
  · have := h (j + 1) (by omega)
    rw [hl, show ps.length + 1 - 1 - (j + 1) = ps.length - 1 - j by omega] at this
    exact this
theorem dw_ps {ws : Nat → Int32} {p : Nat → Bool} {w0 : Nat} (h0 : w0 = 0 ∨ p (w0 - 1) = false) : ∀ (ps : List Int32) (c : Nat) (s : Nat → Int32), wtI ws w0 ps → (∀ j, j < ps.length → p (w0 + j) = true) → (dwS ws p (w0 + ps.length) c s).1 = w0 ∧ (dwS ws p (w0 + ps.length) c s).2.1 = c + ps.length ∧ (∀ i, i < c → (dwS ws p (w0 + ps.length) c s).2.2 i = s i) ∧ ∀ j, j < ps.length → (dwS ws p (w0 + ps.length) c s).2.2 (c + j) = ps.getD j 0
  | [], c, s, _, _ => by
    have e : dwS ws p (w0 + ([] : List Int32).length) c s = (w0, c, s) := by
      show dwS ws p w0 c s = _
      rcases h0 with h | h
      · subst h
        rfl
      · cases w0 with
        | zero => rfl
        | succ w =>
          have e1 : dwS ws p (w + 1) c s = if p w = true then dwS ws p w (c + 1) (va_up s c (ws w)) else (w + 1, c, s) := rfl
          rw [e1, if_neg (fun z => by
            rw [show w + 1 - 1 = w from rfl, z] at h
            exact Bool.noConfusion h)]
    rw [e]
    exact ⟨rfl, rfl, fun _ _ => rfl, fun j hj => absurd hj (Nat.not_lt_zero j)⟩
  | v :: ps, c, s, hw, hp => by
    obtain ⟨a1, a2⟩ := wtI_c hw
    have hl : (v :: ps).length = ps.length + 1 := rfl
    have e1 : dwS ws p (w0 + (v :: ps).length) c s = if p (w0 + ps.length) = true then dwS ws p (w0 + ps.length) (c + 1) (va_up s c (ws (w0 + ps.length))) else (w0 + ps.length + 1, c, s) := rfl
    obtain ⟨i1, i2, i3, i4⟩ := dw_ps h0 ps (c + 1) (va_up s c v) a2 (fun j hj => hp j (by omega))
    rw [e1, if_pos (hp ps.length (by omega)), a1]
    refine ⟨i1, by omega, fun i hi => ?_, fun j hj => ?_⟩
    · rw [i3 i (by omega), va_n (show i ≠ c by omega)]
    · cases j with
      | zero => exact (i3 c (by omega)).trans va_s
      | succ j =>
        have := i4 j (by omega)
        rw [show c + 1 + j = c + (j + 1) by omega] at this
        exact this
/-- the state of both readers: no fault, o are open -/
def prI (M : mM) (tx : Nat → Nat) (L : Nat) (Z : rZ) (q : pS) (o : Nat) : Prop := cur9 M tx L Z q ∧ (q.2.2.1 = 0 ∧ Z 0 1 = 0) ∧ rI L q ∧ q.2.2.2.2.2.2.1 = nI o ∧ o ≤ 6
/-- the codes: those of the reference, then what waits -/
def cdI (tx : Nat → Nat) (L : Nat) (Z : rZ) (q : pS) (ps : List Int32) : Prop := Z 0 4 = nI (q.2.2.2.2.1 + ps.length) ∧ q.2.2.2.2.1 + ps.length ≤ cnt tx L q.1 ∧ (∀ i, i < q.2.2.2.2.1 → cdR (q.2.2.2.2.2.2.2.2.1 i) (Z 1 i)) ∧ ∀ j, j < ps.length → cdR (ps.getD j 0) (Z 1 (q.2.2.2.2.1 + j))
/-- what waits: that of q0, and ps over it -/
def skI9 (q q0 : pS) (ps : List Int32) : Prop := q.2.2.2.2.2.1 = q0.2.2.2.2.2.1 + ps.length ∧ bsQ q = bsQ q0 ∧ (∀ i, i < q0.2.2.2.2.2.1 → q.2.2.2.2.2.2.2.2.2 i = q0.2.2.2.2.2.2.2.2.2 i) ∧ wtI q.2.2.2.2.2.2.2.2.2 q0.2.2.2.2.2.1 ps
/-- what a reader leaves alone -/
def frZ (Z Y : rZ) : Prop := (∀ r, r ≠ 0 → r ≠ 1 → Y r = Z r) ∧ ∀ k, k ≠ 1 → k ≠ 2 → k ≠ 4 → k ≠ 13 → Y 0 k = Z 0 k
theorem frZ_t {X Y Z : rZ} (a : frZ X Y) (b : frZ Y Z) : frZ X Z := ⟨fun r h h1 => (b.1 r h h1).trans (a.1 r h h1), fun k h1 h2 h3 h4 => (b.2 k h1 h2 h3 h4).trans (a.2 k h1 h2 h3 h4)⟩
theorem frZ_n {Z : rZ} : frZ Z (rnxt Z) := ⟨fun r h _ => up2_row h, fun k _ _ _ h => up2_k _ _ h⟩
theorem frZ_r {Z : rZ} {f p : Int32} : frZ Z (rref Z f p) := ⟨fun r h _ => (up2_row h).trans (up2_row h), fun k h1 h2 _ _ => (up2_k _ _ h2).trans (up2_k _ _ h1)⟩
theorem frZ_e {Z : rZ} {t n : Int32} : frZ Z (remi Z t n) := by
  unfold remi
  split
  · exact ⟨fun r h h1 => (up2_row h).trans (up2_row h1), fun k _ _ h _ => (up2_k _ _ h).trans (up2_a _ _ (by decide))⟩
  · exact ⟨fun _ _ _ => rfl, fun _ _ _ _ _ => rfl⟩
/-- the reference stops with the class's fault -/
def stp9 (q : pS) (Y : rZ) : Prop := ¬ q.2.2.1 = 0 ∧ Y 0 1 = q.2.2.1 ∧ Y 0 2 = q.2.2.2.1
/-- the class emits what waits on the other side, or what the other side has just written -/
theorem emi_at {tx : Nat → Nat} {L : Nat} {Z : rZ} {l : Nat} {t n : Int32} (hl : Z 0 4 = nI l) (h6 : l < 600) : remi Z t n 0 4 = nI (l + 1) ∧ remi Z t n 1 l = t + n <<< (7 &&& 31) ∧ (∀ i, i < l → remi Z t n 1 i = Z 1 i) ∧ remi Z t n 0 1 = Z 0 1 ∧ remi Z t n 0 13 = Z 0 13 := by
  have h1 : Z 0 4 < 600 := by
    rw [hl, show (600 : Int32) = nI 600 from rfl]
    exact (nI_ltI (by omega) (by omega)).mpr h6
  unfold remi
  rw [if_pos h1, hl, nI_clamp (by omega)]
  refine ⟨?_, ?_, fun i hi => ?_, ?_, ?_⟩
  · rw [up2_s, nI_1]
  · rw [up2_a _ _ (show 1 ≠ 0 by decide), up2_s]
  · rw [up2_a _ _ (show 1 ≠ 0 by decide), up2_k _ _ (show i ≠ l by omega)]
  · rw [up2_k _ _ (show 1 ≠ 4 by decide), up2_a _ _ (show 0 ≠ 1 by decide)]
  · rw [up2_k _ _ (show 13 ≠ 4 by decide), up2_a _ _ (show 0 ≠ 1 by decide)]
theorem cur_em {M : mM} {tx : Nat → Nat} {L : Nat} {Z : rZ} {q : pS} {t n : Int32} (C : cur9 M tx L Z q) : cur9 M tx L (remi Z t n) q := by
  have f := frZ_e (Z := Z) (t := t) (n := n)
  refine ⟨tokI_fr (f.2 0 (by decide) (by decide) (by decide) (by decide)) (f.2 12 (by decide) (by decide) (by decide) (by decide)) ⟨f.1 5 (by decide) (by decide), f.1 6 (by decide) (by decide), f.1 7 (by decide) (by decide)⟩ C.1, ?_, C.2.2⟩
  rw [← C.2.1]
  unfold remi
  split
  · rw [up2_k _ _ (show 13 ≠ 4 by decide), up2_a _ _ (show 0 ≠ 1 by decide)]
  · rfl
