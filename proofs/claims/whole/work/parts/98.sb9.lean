/-! ===== class against reference: the last statement of a kind ===== -/
def laQ (M : mM) (a t n : Nat) (u v : Int32) : Prop := (u = -1 ∧ v = -1) ∨ ∃ q, q < n ∧ u = nI q ∧ v = nI (24 * a + q) ∧ M 26 (24 * a + q) = nI t
def laM (M : mM) (a n : Nat) (u v : Int32) : Prop := (u = 21 ∧ v = -1) ∨ ∃ q e, q < n ∧ e ≤ 2 ∧ u = nI (20 + e) ∧ v = nI (24 * a + q) ∧ M 28 (24 * a + q) = nI e
theorem laQ_s {M : mM} {a t n : Nat} {u v : Int32} (h : laQ M a t n u v) : laQ M a t (n + 1) u v := by
  rcases h with z | ⟨q, hq, z⟩
  · exact Or.inl z
  · exact Or.inr ⟨q, by omega, z⟩
theorem laM_s {M : mM} {a n : Nat} {u v : Int32} (h : laM M a n u v) : laM M a (n + 1) u v := by
  rcases h with z | ⟨q, e, hq, z⟩
  · exact Or.inl z
  · exact Or.inr ⟨q, e, by omega, z⟩
theorem la_rel {M : mM} {a : Nat} {cd kd fr : Nat → Int32} : ∀ n, (∀ q, q < n → stmR M a q cd kd fr) → laQ M a 3 n (tmL kd n).1 (itN (laB M a 3) (-1) n) ∧ laQ M a 4 n (tmL kd n).2.1 (itN (laB M a 4) (-1) n) ∧ laM M a n (tmL kd n).2.2 (itN (laB M a 5) (-1) n)
  | 0, _ => ⟨Or.inl ⟨rfl, rfl⟩, Or.inl ⟨rfl, rfl⟩, Or.inl ⟨rfl, rfl⟩⟩
  | n + 1, R => by
    obtain ⟨i1, i2, i3⟩ := la_rel n (fun q hq => R q (by omega))
    have Rn := R n (by omega)
    rw [show tmL kd (n + 1) = tmB kd (tmL kd n) n from itN_s _ _ _, itN_s, itN_s, itN_s]
    generalize tmL kd n = z at i1 i2 i3 ⊢
    generalize itN (laB M a 3) (-1) n = y3 at i1 ⊢
    generalize itN (laB M a 4) (-1) n = y4 at i2 ⊢
    generalize itN (laB M a 5) (-1) n = y5 at i3 ⊢
    rcases Rn with ⟨e, he, e1, e2, e3⟩ | ⟨t, x, x', m, ht, e1, e2, -⟩
    · rw [show laB M a 3 y3 n = y3 from if_neg (by rw [e1]; decide), show laB M a 4 y4 n = y4 from if_neg (by rw [e1]; decide), show laB M a 5 y5 n = nI (24 * a + n) from if_pos e1]
      have h17 : ¬ kd n = 17 := fun w => absurd ((nI_eq (a := 20 + e) (b := 17) (by omega) (by omega)).mp (e3.symm.trans w)) (by omega)
      have h18 : ¬ kd n = 18 := fun w => absurd ((nI_eq (a := 20 + e) (b := 18) (by omega) (by omega)).mp (e3.symm.trans w)) (by omega)
      have h20 : 20 ≤ kd n := by rw [e3, fa_le, nI_toInt (by omega), show (20 : Int32).toInt = 20 from by decide]; omega
      rw [show tmB kd z n = _ from (if_neg h17).trans ((if_neg h18).trans (if_pos h20))]
      exact ⟨laQ_s i1, laQ_s i2, Or.inr ⟨n, e, Nat.lt_succ_self n, he, e3, rfl, e2⟩⟩
    · have h5 : ¬ M 26 (24 * a + n) = 5 := fun w => absurd ((nI_eq (a := t) (b := 5) (by omega) (by omega)).mp (e1.symm.trans w)) (by omega)
      have h20 : ¬ 20 ≤ kd n := by rw [e2, fa_le, nI_toInt (by omega), show (20 : Int32).toInt = 20 from by decide]; omega
      rw [show laB M a 5 y5 n = y5 from if_neg h5]
      by_cases t3 : t = 3
      · subst t3
        rw [show laB M a 3 y3 n = nI (24 * a + n) from if_pos e1, show laB M a 4 y4 n = y4 from if_neg (by rw [e1]; decide), show tmB kd z n = _ from if_pos e2]
        exact ⟨Or.inr ⟨n, Nat.lt_succ_self n, rfl, rfl, e1⟩, laQ_s i2, laM_s i3⟩
      · have h3 : ¬ M 26 (24 * a + n) = 3 := fun w => t3 ((nI_eq (a := t) (b := 3) (by omega) (by omega)).mp (e1.symm.trans w))
        have h17 : ¬ kd n = 17 := fun w => absurd ((nI_eq (a := 14 + t) (b := 17) (by omega) (by omega)).mp (e2.symm.trans w)) (by omega)
        rw [show laB M a 3 y3 n = y3 from if_neg h3]
        by_cases t4 : t = 4
        · subst t4
          rw [show laB M a 4 y4 n = nI (24 * a + n) from if_pos e1, show tmB kd z n = _ from (if_neg h17).trans (if_pos e2)]
          exact ⟨laQ_s i1, Or.inr ⟨n, Nat.lt_succ_self n, rfl, rfl, e1⟩, laM_s i3⟩
        · have h4 : ¬ M 26 (24 * a + n) = 4 := fun w => t4 ((nI_eq (a := t) (b := 4) (by omega) (by omega)).mp (e1.symm.trans w))
          have h18 : ¬ kd n = 18 := fun w => absurd ((nI_eq (a := 14 + t) (b := 18) (by omega) (by omega)).mp (e2.symm.trans w)) (by omega)
          rw [show laB M a 4 y4 n = y4 from if_neg h4, show tmB kd z n = z from (if_neg h17).trans ((if_neg h18).trans (if_neg h20))]
          exact ⟨laQ_s i1, laQ_s i2, laM_s i3⟩
