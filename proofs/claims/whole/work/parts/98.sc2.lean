/-! ===== class against reference: offices on a cell ===== -/
theorem bit_bv (x : BitVec 32) (s : Nat) (hs : s < 9) : x.sshiftRight s &&& 1#32 = if x.getLsbD s = true then 1#32 else 0#32 := by
  have h1 : ∀ i, i < 32 → (1#32).getLsbD i = decide (i = 0) := by decide
  refine BitVec.eq_of_getLsbD_eq (fun i hi => ?_)
  rw [BitVec.getLsbD_and, BitVec.getLsbD_sshiftRight, h1 i hi]
  by_cases e : i = 0
  · subst e
    rw [if_pos (show s + 0 < 32 by omega), decide_eq_true (show (0 : Nat) = 0 from rfl), Bool.and_true, decide_eq_false (show ¬ 32 ≤ 0 by omega)]
    cases x.getLsbD (s + 0) <;> rfl
  · rw [decide_eq_false e, Bool.and_false]
    cases x.getLsbD s
    · exact (BitVec.getLsbD_zero).symm
    · exact ((h1 i hi).trans (decide_eq_false e)).symm
theorem bit_at (x : Int32) {o : Nat} (ho : o < 9) : x >>> (nI o &&& 31) &&& 1 = if x.toBitVec.getLsbD o = true then 1 else 0 := by
  have go : ∀ s : Nat, s < 9 → (x >>> (nI s &&& 31) &&& 1).toBitVec = x.toBitVec.sshiftRight s &&& 1#32 → x >>> (nI s &&& 31) &&& 1 = if x.toBitVec.getLsbD s = true then 1 else 0 := fun s hs h => by
    refine Int32.toBitVec_inj.mp ?_
    rw [h, bit_bv _ s hs]
    split <;> rfl
  rcases (show o = 0 ∨ o = 1 ∨ o = 2 ∨ o = 3 ∨ o = 4 ∨ o = 5 ∨ o = 6 ∨ o = 7 ∨ o = 8 by omega) with e | e | e | e | e | e | e | e | e <;> subst e <;> exact go _ (by decide) rfl
theorem bit_one : ∀ p, p < 9 → ∀ o, o < 9 → ((1 : Int32) <<< (nI p &&& 31)).toBitVec.getLsbD o = decide (p = o) := by decide
theorem msk_bit {F M : mM} {w g n s c : Nat} (A : rA F M w g n) (hs : s ≤ n) {o : Nat} (ho : o < 9) : ∀ k, k ≤ s → (itN (mskB M s c) 0 k).toBitVec.getLsbD o = anyb (mhB M s (nI o) (nI c)) k := by
  intro k
  induction k with
  | zero => exact fun _ => BitVec.getLsbD_zero
  | succ k ih =>
    intro hk
    have h1 := ih (by omega)
    have Q := A.2.2 (k + 1) (by omega) (by omega)
    rw [itN_s]
    generalize itN (mskB M s c) 0 k = y at h1 ⊢
    show (mskB M s c y k).toBitVec.getLsbD o = (anyb (mhB M s (nI o) (nI c)) k || mhB M s (nI o) (nI c) k)
    rw [← h1]
    by_cases q : mpB M s (nI c) k = true
    · rw [show mskB M s c y k = y ||| (1 <<< (M 48 (k + 1) &&& 31)) from if_pos q, Int32.toBitVec_or, BitVec.getLsbD_or]
      have hp : poP M s (k + 1) ∧ M 49 (k + 1) = nI c := by
        unfold mpB at q
        rw [Bool.and_eq_true] at q
        exact ⟨of_decide_eq_true q.1, of_decide_eq_true q.2⟩
      obtain ⟨-, p, hp8, ep⟩ := Q.2.2.2.2.1 (by rw [hp.1.1]; decide)
      rw [ep, bit_one p (by omega) o ho]
      refine congrArg (fun z => y.toBitVec.getLsbD o || z) ?_
      unfold mhB
      rw [ep]
      by_cases e : p = o
      · subst e
        simp [hp.1, hp.2]
      · have hne : ¬ nI p = nI o := fun z => e ((nI_eq (by omega) (by omega)).mp z)
        simp [e, hne]
    · rw [show mskB M s c y k = y from if_neg q]
      have hf : mhB M s (nI o) (nI c) k = false := by
        have q2 : (decide (poP M s (k + 1)) && decide (M 49 (k + 1) = nI c)) = false := Bool.eq_false_iff.mpr q
        unfold mhB
        rw [← Bool.and_assoc, q2]
        rfl
      rw [hf, Bool.or_false]
