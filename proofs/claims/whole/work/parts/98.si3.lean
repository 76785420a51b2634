/-! ===== the calls: plan, one set of places ===== -/
abbrev tr3 : Type := Nat × Nat × Nat
def tri (t : tr3) (i : Nat) : Nat := if i = 0 then t.1 else if i = 1 then t.2.1 else t.2.2
def pnM (m k : Nat) (o go po : Int32) (t : tr3) (M : mM) : mM := itN (fun Z i => mstT Z (m + i) o (M 46 (tri t i)) go po) M k
theorem mst_at {Z : mM} {e : Nat} {o c a b : Int32} : (mstT Z e o c a b 41 e = o ∧ mstT Z e o c a b 42 e = c ∧ mstT Z e o c a b 43 e = a ∧ mstT Z e o c a b 44 e = b) ∧ ∀ r x, x ≠ e → mstT Z e o c a b r x = Z r x := by
  unfold mstT
  refine ⟨⟨?_, ?_, ?_, up2_s _ _ _ _⟩, fun r x h => ?_⟩
  · rw [up2_a _ _ (show 41 ≠ 44 by decide), up2_a _ _ (show 41 ≠ 43 by decide), up2_a _ _ (show 41 ≠ 42 by decide), up2_s]
  · rw [up2_a _ _ (show 42 ≠ 44 by decide), up2_a _ _ (show 42 ≠ 43 by decide), up2_s]
  · rw [up2_a _ _ (show 43 ≠ 44 by decide), up2_s]
  · rw [up2_k _ _ h, up2_k _ _ h, up2_k _ _ h, up2_k _ _ h]
theorem pnM_at {m : Nat} {o go po : Int32} {t : tr3} {M : mM} : ∀ k, (∀ r, r < 41 ∨ 44 < r → pnM m k o go po t M r = M r) ∧ (∀ r e, e < m → pnM m k o go po t M r e = M r e) ∧ ∀ i, i < k → pnM m k o go po t M 41 (m + i) = o ∧ pnM m k o go po t M 42 (m + i) = M 46 (tri t i) ∧ pnM m k o go po t M 43 (m + i) = go ∧ pnM m k o go po t M 44 (m + i) = po
  | 0 => ⟨fun _ _ => rfl, fun _ _ _ => rfl, fun i hi => absurd hi (Nat.not_lt_zero i)⟩
  | k + 1 => by
    obtain ⟨i1, i2, i3⟩ := pnM_at (m := m) (o := o) (go := go) (po := po) (t := t) (M := M) k
    have e : pnM m (k + 1) o go po t M = mstT (pnM m k o go po t M) (m + k) o (M 46 (tri t k)) go po := itN_s _ _ _
    rw [e]
    generalize pnM m k o go po t M = Z at i1 i2 i3 ⊢
    obtain ⟨⟨a1, a2, a3, a4⟩, a5⟩ := mst_at (Z := Z) (e := m + k) (o := o) (c := M 46 (tri t k)) (a := go) (b := po)
    refine ⟨fun r h => (mst_row h).trans (i1 r h), fun r e he => (a5 r e (by omega)).trans (i2 r e he), fun i hi => ?_⟩
    by_cases q : i = k
    · subst q
      exact ⟨a1, a2, a3, a4⟩
    · rw [a5 41 _ (show m + i ≠ m + k by omega), a5 42 _ (show m + i ≠ m + k by omega), a5 43 _ (show m + i ≠ m + k by omega), a5 44 _ (show m + i ≠ m + k by omega)]
      exact i3 i (by omega)
theorem ad_at {m : Nat} {Q A : mM} : ∀ k, (∀ r e, r ≠ 0 → e < m → itN (adB m Q) A k r e = A r e) ∧ ∀ i, i < k → itN (adB m Q) A k 1 (m + i) = Q 0 7 ∧ itN (adB m Q) A k 2 (m + i) = Q 1 (Q 3 i).toNatClampNeg ∧ itN (adB m Q) A k 3 (m + i) = Q 0 8 ∧ itN (adB m Q) A k 4 (m + i) = Q 0 9
  | 0 => ⟨fun _ _ _ _ => rfl, fun i hi => absurd hi (Nat.not_lt_zero i)⟩
  | k + 1 => by
    obtain ⟨i1, i2⟩ := ad_at (m := m) (Q := Q) (A := A) k
    refine ⟨fun r e hr he => ad_old m Q A he hr (k + 1), fun i hi => ?_⟩
    rw [itN_s]
    generalize itN (adB m Q) A k = Z at i1 i2 ⊢
    unfold adB
    rw [up2_a _ _ (show 1 ≠ 0 by decide), up2_a _ _ (show 1 ≠ 4 by decide), up2_a _ _ (show 1 ≠ 3 by decide), up2_a _ _ (show 1 ≠ 2 by decide), up2_a _ _ (show 2 ≠ 0 by decide), up2_a _ _ (show 2 ≠ 4 by decide), up2_a _ _ (show 2 ≠ 3 by decide), up2_a _ _ (show 3 ≠ 0 by decide), up2_a _ _ (show 3 ≠ 4 by decide), up2_a _ _ (show 4 ≠ 0 by decide)]
    by_cases q : i = k
    · subst q
      exact ⟨up2_s _ _ _ _, up2_s _ _ _ _, up2_s _ _ _ _, up2_s _ _ _ _⟩
    · have h : m + i ≠ m + k := by omega
      obtain ⟨b1, b2, b3, b4⟩ := i2 i (by omega)
      refine ⟨(up2_k _ _ h).trans b1, (up2_k _ _ h).trans ((up2_a _ _ (by decide)).trans b2), (up2_k _ _ h).trans ((up2_a _ _ (by decide)).trans ((up2_a _ _ (by decide)).trans b3)), (up2_k _ _ h).trans ((up2_a _ _ (by decide)).trans ((up2_a _ _ (by decide)).trans ((up2_a _ _ (by decide)).trans b4)))⟩
theorem ke_at {Q : mM} : ∀ k, ∀ i, i < k → itN keB Q k 2 i = Q 1 (Q 3 i).toNatClampNeg
  | 0, i, hi => absurd hi (Nat.not_lt_zero i)
  | k + 1, i, hi => by
    rw [itN_s]
    show up2 (itN keB Q k) 2 k (itN keB Q k 1 (itN keB Q k 3 k).toNatClampNeg) 2 i = _
    by_cases q : i = k
    · subst q
      rw [up2_s, ke_row Q (show 1 ≠ 2 by decide), ke_row Q (show 3 ≠ 2 by decide)]
    · rw [up2_k _ _ q]
      exact ke_at (Q := Q) k i (by omega)
/-- the reference: one set -/
def pnG (n s w g m k c T : Nat) (o go po : Int32) (t : tr3) (M : mM) (W : tW) : mM := goF n s w g (m + k) c T (pnM m k o go po t M, W)
def pnL (n s w g m k c T : Nat) (o go po : Int32) (t : tr3) (M : mM) (W : tW) : Int32 := itN (fun f v => f + mloV (pnG n s w g m k c T o go po t M W) v) 0 (w * g)
def u85 (G : mM) (t : tr3) : mM := up2 (up2 (up2 G 85 0 (G 46 t.1)) 85 1 (G 46 t.2.1)) 85 2 (G 46 t.2.2)
theorem u85_row {G : mM} {t : tr3} {r : Nat} (h : r ≠ 85) : u85 G t r = G r := (up2_row h).trans ((up2_row h).trans (up2_row h))
theorem u85_at {G : mM} {t : tr3} {i : Nat} (hi : i < 3) : u85 G t 85 i = G 46 (tri t i) := by
  unfold u85 tri
  match i, hi with
  | 0, _ => rw [up2_k _ _ (show 0 ≠ 2 by decide), up2_k _ _ (show 0 ≠ 1 by decide), up2_s]; exact rfl
  | 1, _ => rw [up2_k _ _ (show 1 ≠ 2 by decide), up2_s]; exact rfl
  | 2, _ => rw [up2_s]; exact rfl
def pnS (n s w g m k c T : Nat) (o go po : Int32) (z : (mM × mN × tW) × Int32) (t : tr3) : (mM × mN × tW) × Int32 := if z.2 = -1 ∨ pnL n s w g m k c T o go po t z.1.1 z.1.2.2 < z.2 then ((u85 (pnG n s w g m k c T o go po t z.1.1 z.1.2.2) t, z.1.2.1, (goZ n s w g (pnM m k o go po t z.1.1, z.1.2.2)).2), pnL n s w g m k c T o go po t z.1.1 z.1.2.2) else ((pnG n s w g m k c T o go po t z.1.1 z.1.2.2, z.1.2.1, (goZ n s w g (pnM m k o go po t z.1.1, z.1.2.2)).2), z.2)
/-- class and reference between two sets -/
def pnI (M : mM) (m k p : Nat) (o go po : Int32) (z : skT) (y : (mM × mN × tW) × Int32) : Prop := z.2.1 = y.2 ∧ (z.1.1 0 0 = nI m ∧ ∀ e, e < m → z.1.1 1 e = M 41 e ∧ z.1.1 2 e = M 42 e ∧ z.1.1 3 e = M 43 e ∧ z.1.1 4 e = M 44 e) ∧ (z.1.2.1 0 0 = nI p ∧ z.1.2.1 0 7 = o ∧ z.1.2.1 0 8 = go ∧ z.1.2.1 0 9 = po ∧ ∀ i, i < p → z.1.2.1 1 i = M 46 i) ∧ (∀ r, r ≠ 0 → r < 53 ∨ 66 < r → r < 41 ∨ 44 < r → r ≠ 85 → y.1.1 r = M r) ∧ (∀ r, 41 ≤ r → r ≤ 44 → ∀ e, e < m → y.1.1 r e = M r e) ∧ (∀ j, j < 70 ∨ 74 < j → j ≠ 54 → y.1.1 0 j = M 0 j) ∧ y.1.1 0 54 = nI (m + k)
/-- the best so far -/
def pnB (k : Nat) (z : skT) (y : (mM × mN × tW) × Int32) : Prop := z.1.2.1 0 1 = nI k ∧ ∀ i, i < k → z.1.2.1 2 i = y.1.1 85 i
