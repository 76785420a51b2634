/-! ===== class against reference: what is known ===== -/
theorem kn_iff {F M : mM} {w g n s a : Nat} (Q : acQ F M w g n a) (ha : a ≤ s) : (F 164 a = 0 ∨ nI s < F 164 a) ↔ knP M s a := by
  rw [Q.2.1]
  exact ⟨fun z => ⟨ha, z⟩, fun z => z.2⟩
/-- the terms by office -/
theorem gk_T {F M : mM} {w g n s : Nat} {R : Nat → Option Nat} (A : rA F M w g n) (hs : s ≤ n) (S : kS) {o : Nat} (ho : o < 9) : ∀ k, k ≤ s → (itN (gthB F R s) (gth0 S) k).2 o = (if itN (mtB M s (nI o)) 0 k = 0 then none else R (itN (mtB M s (nI o)) 0 k)) := by
  intro k
  induction k with
  | zero => exact fun _ => itN_none S.2 9 o ho
  | succ k ih =>
    intro hk
    have h1 := ih (by omega)
    have Q := A.2.2 (k + 1) (by omega) (by omega)
    rw [itN_s, itN_s]
    generalize itN (gthB F R s) (gth0 S) k = Y at h1 ⊢
    generalize itN (mtB M s (nI o)) 0 k = y at h1 ⊢
    by_cases hkn : F 164 (k + 1) = 0 ∨ nI s < F 164 (k + 1)
    · have hkn2 := (kn_iff Q hk).mp hkn
      rw [show gthB F R s Y k = notS F R Y (k + 1) from if_pos hkn]
      by_cases h47 : M 47 (k + 1) = 1
      · rw [show notS F R Y (k + 1) = (Y.1, va_up Y.2 (F 159 (k + 1)).toNatClampNeg (R (k + 1))) from if_pos (Q.1.trans h47)]
        obtain ⟨e1, o2, ho2, e2⟩ := Q.2.2.2.2.1 (by rw [h47]; decide)
        rw [e1, e2, nI_clamp (by omega)]
        by_cases e : o2 = o
        · subst e
          rw [show mtB M s (nI o2) y k = k + 1 from if_pos ⟨h47, e2, hkn2⟩, if_neg (Nat.succ_ne_zero k)]
          exact if_pos rfl
        · rw [show mtB M s (nI o) y k = y from if_neg (fun z => e ((nI_eq (by omega) (by omega)).mp (e2.symm.trans z.2.1)))]
          exact (if_neg (fun z => e z.symm)).trans h1
      · rw [show mtB M s (nI o) y k = y from if_neg (fun z => h47 z.1)]
        rw [show notS F R Y (k + 1) = _ from if_neg (fun z => h47 (Q.1.symm.trans z))]
        split
        · exact h1
        · exact h1
    · rw [show gthB F R s Y k = Y from if_neg hkn, show mtB M s (nI o) y k = y from if_neg (fun z => hkn ((kn_iff Q hk).mpr z.2.2))]
      exact h1
/-- acts behind what is known change nothing -/
theorem mtO_s {M : mM} {s : Nat} {o : Int32} : ∀ d, mtO M s o (s + d) = mtO M s o s
  | 0 => rfl
  | d + 1 => (if_neg (fun z => absurd z.2.2.1 (by omega)) : mtB M s o (mtO M s o (s + d)) (s + d) = _).trans (mtO_s d)
theorem kn_mtO {F M : mM} {w g n s : Nat} {R : Nat → Option Nat} (A : rA F M w g n) (hs : s ≤ n) (S : kS) {o : Nat} (ho : o < 9) : (gthS F R s S).2 o = if mtO M s (nI o) n = 0 then none else R (mtO M s (nI o) n) := by
  obtain ⟨d, rfl⟩ : ∃ d, n = s + d := ⟨n - s, by omega⟩
  rw [mtO_s]
  exact gk_T A hs S ho s (Nat.le_refl _)
