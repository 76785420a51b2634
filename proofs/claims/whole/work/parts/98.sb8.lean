/-! ===== class against reference: terms ===== -/
/-- one statement of the act a: the reference's row and the class's places -/
def stmR (M : mM) (a q : Nat) (cd kd fr : Nat → Int32) : Prop := (∃ e, e ≤ 2 ∧ M 26 (24 * a + q) = 5 ∧ M 28 (24 * a + q) = nI e ∧ kd q = nI (20 + e)) ∨ (∃ t x x' m, t ≤ 4 ∧ M 26 (24 * a + q) = nI t ∧ kd q = nI (14 + t) ∧ (fr q = nI x ∧ fr (q + 1) = nI (x + m) ∧ x + m ≤ 600) ∧ (M 27 (24 * a + q) = nI x' ∧ M 28 (24 * a + q) = nI (x' + m) ∧ x' + m ≤ 640) ∧ (∀ j, j < m → cdR (M 29 (640 * a + (x' + j))) (cd (x + j))) ∧ tyOk (fun j => M 29 (640 * a + j)) x' m ∧ (tyS (fun j => M 29 (640 * a + j)) x' m).1 = 1 ∧ (tyS (fun j => M 29 (640 * a + j)) x' m).2 0 = decide (t < 3))
/-- the terms of an act -/
def tmR (M : mM) (a k : Nat) (cd kd fr : Nat → Int32) : Prop := k ≤ 24 ∧ M 25 a = nI k ∧ ∀ q, q < k → stmR M a q cd kd fr
theorem mtI_of {M : mM} {a k : Nat} {cd kd fr : Nat → Int32} (R : tmR M a k cd kd fr) : mtI M a k := by
  refine ⟨R.1, R.2.1, fun q hq h5 => ?_⟩
  rcases R.2.2 q hq with ⟨e, he, e1, -⟩ | ⟨t, x, x', m, ht, e1, e2, e3, e4, e5, e6, e7, e8⟩
  · exact absurd e1 h5
  · exact ⟨x', m, e4.1, e4.2.1, e4.2.2, okS_of e6⟩
/-- a statement of a kind is worth the same on both sides -/
theorem stm_val {M : mM} {a q t : Nat} {cd kd fr : Nat → Int32} {S : kS} {V : Int32 → Int64} {W : tW} (hV : opV (S.1 7) (S.1 6 4) V) (ht : t ≤ 4) (hk : M 26 (24 * a + q) = nI t) (R : stmR M a q cd kd fr) : sl (decide (t < 3)) (vofV (stm S cd fr q)) ((tel V M a q W).2 0) := by
  rcases R with ⟨e, he, e1, -⟩ | ⟨t2, x, x', m, ht2, e1, e2, e3, e4, e5, e6, e7, e8⟩
  · rw [hk] at e1
    exact absurd ((nI_eq (a := t) (b := 5) (by omega) (by omega)).mp e1) (by omega)
  · have et : t = t2 := (nI_eq (by omega) (by omega)).mp (hk.symm.trans e1)
    subst et
    unfold stm vof tel
    rw [e3.1, e3.2.1, e4.1, e4.2.1, nI_clamp (by omega), nI_clamp (by omega), nI_clamp (by omega), nI_clamp (by omega), show x + m - x = m by omega, show x' + m - x' = m by omega, ← e8]
    exact st_val hV e5 e6 (by omega)
/-- kinds of statements agree -/
theorem stm_kind {M : mM} {a q t : Nat} {cd kd fr : Nat → Int32} (ht : t ≤ 4) (R : stmR M a q cd kd fr) : kd q = nI (14 + t) ↔ M 26 (24 * a + q) = nI t := by
  rcases R with ⟨e, he, e1, e2, e3⟩ | ⟨t2, x, x', m, ht2, e1, e2, -⟩
  · rw [e3, e1, nI_eq (by omega) (by omega), show (5 : Int32) = nI 5 from rfl, nI_eq (by omega) (by omega)]
    omega
  · rw [e1, e2, nI_eq (by omega) (by omega), nI_eq (by omega) (by omega)]
    omega
/-- whether one of the statements of a kind holds -/
theorem sm_ho {M : mM} {a n t : Nat} {cd kd fr : Nat → Int32} {S : kS} {V : Int32 → Int64} (hV : opV (S.1 7) (S.1 6 4) V) (ht : t < 3) (R : ∀ q, q < n → stmR M a q cd kd fr) : ∀ (k i : Nat) (w : Nat → Int32) (W : tW), i + k = n → (smF S cd kd fr (nI (14 + t)) k i w).1 = (hoF V M a (nI t) k i W).1 := by
  intro k
  induction k with
  | zero => exact fun _ _ _ _ => rfl
  | succ k ih =>
    intro i w W hi
    have Rq := R i (by omega)
    by_cases hk : M 26 (24 * a + i) = nI t
    · have hv := stm_val (S := kR S w) (W := W) (V := V) hV (by omega) hk Rq
      rw [decide_eq_true ht] at hv
      obtain ⟨v1, v2⟩ := sl_t hv
      rw [show smF S cd kd fr (nI (14 + t)) (k + 1) i w = _ from if_pos ((stm_kind (by omega) Rq).mpr hk), show hoF V M a (nI t) (k + 1) i W = _ from if_pos hk]
      rcases v2 with z | z
      · rw [if_pos z, if_neg (show ¬ (tel V M a i W).2 0 = 1 by rw [v1, z]; decide)]
        exact ih (i + 1) _ _ (by omega)
      · rw [if_neg (show ¬ vofV (stm (kR S w) cd fr i) = 0 by rw [z]; decide), if_pos (show (tel V M a i W).2 0 = 1 by rw [v1, z]; rfl)]
    · rw [show smF S cd kd fr (nI (14 + t)) (k + 1) i w = _ from if_neg (fun z => hk ((stm_kind (by omega) Rq).mp z)), show hoF V M a (nI t) (k + 1) i W = _ from if_neg hk]
      exact ih (i + 1) _ _ (by omega)
