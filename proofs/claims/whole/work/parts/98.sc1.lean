/-! ===== class against reference: force ===== -/
/-- the object and its three arrays lie together -/
abbrev nbd (h : hp_T) (b : Nat) : Prop := b + 3 < hp_n h ∧ hp_r h b 1 = some (b + 1) ∧ hp_r h b 2 = some (b + 2) ∧ hp_r h b 3 = some (b + 3)
/-- every act of terms has its object -/
def rT (h : hp_T) (M : mM) (n : Nat) : Prop := ∀ a, 1 ≤ a → a ≤ n → M 47 a = 1 → ∃ b k, 333 ≤ b ∧ hp_r h 162 a = some b ∧ hp_tag h b = 10 ∧ tOK h b ∧ hp_i h b 0 = nI k ∧ tmR M a k (tcd h b) (tkd h b) (tfr h b) ∧ hp_i h b 4 = (tmL (tkd h b) k).1 ∧ hp_i h b 5 = (tmL (tkd h b) k).2.1 ∧ hp_i h b 6 = (tmL (tkd h b) k).2.2 ∧ nbd h b
theorem mtO_in {M : mM} {s : Nat} {o : Int32} : ∀ k, mtO M s o k = 0 ∨ (1 ≤ mtO M s o k ∧ mtO M s o k ≤ k ∧ M 47 (mtO M s o k) = 1 ∧ M 48 (mtO M s o k) = o ∧ knP M s (mtO M s o k))
  | 0 => Or.inl rfl
  | k + 1 => by
    rw [show mtO M s o (k + 1) = mtB M s o (mtO M s o k) k from itN_s _ _ _]
    by_cases q : M 47 (k + 1) = 1 ∧ M 48 (k + 1) = o ∧ knP M s (k + 1)
    · rw [show mtB M s o (mtO M s o k) k = k + 1 from if_pos q]
      exact Or.inr ⟨by omega, Nat.le_refl _, q⟩
    · rw [show mtB M s o (mtO M s o k) k = mtO M s o k from if_neg q]
      rcases mtO_in k with z | ⟨z1, z2, z3⟩
      · exact Or.inl z
      · exact Or.inr ⟨z1, by omega, z3⟩
/-- the terms of an office that are known: the object and the act -/
theorem kn_obj {h : hp_T} {M : mM} {w g n s o : Nat} (A : rA (hp_i h) M w g n) (hs : s ≤ n) (B : rT h M n) (ho : o < 9) : (mtO M s (nI o) n = 0 ∧ (kn h s).2 o = none) ∨ ∃ a b k, mtO M s (nI o) n = a ∧ 1 ≤ a ∧ a ≤ n ∧ (kn h s).2 o = some b ∧ 333 ≤ b ∧ hp_tag h b = 10 ∧ tOK h b ∧ hp_i h b 0 = nI k ∧ tmR M a k (tcd h b) (tkd h b) (tfr h b) ∧ hp_i h b 4 = (tmL (tkd h b) k).1 ∧ hp_i h b 5 = (tmL (tkd h b) k).2.1 ∧ hp_i h b 6 = (tmL (tkd h b) k).2.2 := by
  have e := kn_mtO (R := hp_r h 162) A hs (kS0 h) ho
  rcases mtO_in (M := M) (s := s) (o := nI o) n with z | ⟨z1, z2, z3, z4, z5⟩
  · refine Or.inl ⟨z, ?_⟩
    unfold kn
    rw [e, if_pos z]
  · obtain ⟨b, k, b1, b2, b3, b4, b5, b6, b7, b8, b9, -⟩ := B _ z1 z2 z3
    refine Or.inr ⟨_, b, k, rfl, z1, z2, ?_, b1, b3, b4, b5, b6, b7, b8, b9⟩
    unfold kn
    rw [e, if_neg (by omega)]
    exact b2
theorem force_eq {h : hp_T} {M : mM} {w g n s o : Nat} (A : rA (hp_i h) M w g n) (hs : s ≤ n) (B : rT h M n) (ho : o < 9) : forV h s o = mfoV M n s (nI o) := by
  unfold forV mfoV
  rcases kn_obj A hs B ho with ⟨e1, e2⟩ | ⟨a, b, k, e1, h1, h2, e2, b1, b2, b3, b4, b5, -⟩
  · rw [e2, if_pos e1]
  · rw [e2, e1, if_neg (by omega)]
    exact b4.trans b5.2.1.symm
