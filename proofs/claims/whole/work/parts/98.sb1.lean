/-! ===== class against reference: the policies known ===== -/
def pcB (M : mM) (s : Nat) (i : Nat) : Bool := decide (poP M s (i + 1))
def mskB (M : mM) (s c : Nat) (m : Int32) (i : Nat) : Int32 := if mpB M s (nI c) i = true then m ||| (1 <<< (M 48 (i + 1) &&& 31)) else m
/-- what is gathered of the acts 1 .. k -/
def gkP (M : mM) (s k : Nat) (Y : kS) : Prop := (∀ c, c < 120 → Y.1 4 c = nI (fa_cnt (mpB M s (nI c)) k)) ∧ (∀ c, c < 120 → Y.1 3 c = itN (mskB M s c) 0 k) ∧ Y.1 0 0 = nI (fa_cnt (pcB M s) k) ∧ ∀ i, i < k → pcB M s i = true → Y.1 2 (fa_cnt (pcB M s) i) = nI (i + 1)
theorem fa_cnt_mono (p : Nat → Bool) {a b : Nat} (h : a ≤ b) : fa_cnt p a ≤ fa_cnt p b := by
  obtain ⟨d, rfl⟩ : ∃ d, b = a + d := ⟨b - a, by omega⟩
  clear h
  induction d with
  | zero => exact Nat.le_refl _
  | succ d ih =>
    refine Nat.le_trans ih ?_
    show fa_cnt p (a + d) ≤ fa_cnt p (a + d) + _
    exact Nat.le_add_right _ _
theorem gkP_no {M : mM} {s k : Nat} {Y : kS} (h : pcB M s k = false) (I : gkP M s k Y) : gkP M s (k + 1) Y := by
  have hm : ∀ c, mpB M s c k = false := fun c => by
    unfold mpB
    rw [show decide (poP M s (k + 1)) = false from h]
    rfl
  refine ⟨fun c hc => ?_, fun c hc => ?_, ?_, fun i hi hp => ?_⟩
  · rw [fa_cnt_no (hm (nI c))]; exact I.1 c hc
  · rw [itN_s, I.2.1 c hc]
    exact (if_neg (by rw [hm]; decide)).symm
  · rw [fa_cnt_no h]; exact I.2.2.1
  · rcases Nat.lt_succ_iff_lt_or_eq.mp hi with w9 | w9
    · exact I.2.2.2 i w9 hp
    · subst w9; rw [h] at hp; exact absurd hp (by decide)
theorem gk_P {F M : mM} {w g n s : Nat} {R : Nat → Option Nat} (A : rA F M w g n) (hs : s ≤ n) (hwg : w * g ≤ 120) (S : kS) : ∀ k, k ≤ s → gkP M s k (itN (gthB F R s) (gth0 S) k) := by
  intro k
  induction k with
  | zero =>
    intro _
    refine ⟨fun c hc => ?_, fun c hc => ?_, ?_, fun i hi => absurd hi (Nat.not_lt_zero i)⟩
    · exact fa_fill_in (f := fun _ => (0 : Int32)) (g := S.1 4) hc
    · exact fa_fill_in (f := fun _ => (0 : Int32)) (g := S.1 3) hc
    · exact up2_s S.1 0 0 0
  | succ k ih =>
    intro hk
    have I := ih (by omega)
    have Q := A.2.2 (k + 1) (by omega) (by omega)
    have hn2 := A.1.2.2
    rw [itN_s]
    generalize itN (gthB F R s) (gth0 S) k = Y at I ⊢
    by_cases hkn : F 164 (k + 1) = 0 ∨ nI s < F 164 (k + 1)
    · have hkn2 := (kn_iff Q hk).mp hkn
      rw [show gthB F R s Y k = notS F R Y (k + 1) from if_pos hkn]
      by_cases h47 : M 47 (k + 1) = 2
      · have hp : pcB M s k = true := decide_eq_true ⟨h47, hkn2⟩
        obtain ⟨e1, e2, ⟨c, hc, ec⟩, -⟩ := Q.2.2.2.2.2 h47
        obtain ⟨e3, o, ho, eo⟩ := Q.2.2.2.2.1 (by rw [h47]; decide)
        rw [show notS F R Y (k + 1) = _ from (if_neg (by rw [Q.1, h47]; decide)).trans (if_pos (Q.1.trans h47)), e1, ec, nI_clamp (by omega), I.2.2.1, nI_clamp (by have := fa_cnt_le (pcB M s) k; omega), e3]
        refine ⟨fun c' hc' => ?_, fun c' hc' => ?_, ?_, fun i hi hpi => ?_⟩
        · dsimp only
          rw [up2_a _ _ (by decide), up2_a _ _ (by decide)]
          by_cases e : c' = c
          · subst e
            rw [up2_s, I.1 c' hc', fa_cnt_yes (show mpB M s (nI c') k = true by unfold mpB; rw [show decide (poP M s (k + 1)) = true from hp, ec, decide_eq_true rfl]; rfl)]
            exact nI_1 _
          · rw [up2_k _ _ e, up2_a _ _ (by decide), I.1 c' hc', fa_cnt_no (show mpB M s (nI c') k = false by unfold mpB; rw [show decide (poP M s (k + 1)) = true from hp, ec, decide_eq_false (fun z => e ((nI_eq (by omega) (by omega)).mp z.symm))]; rfl)]
        · dsimp only
          rw [up2_a _ _ (by decide), up2_a _ _ (by decide), up2_a _ _ (by decide), itN_s]
          by_cases e : c' = c
          · subst e
            rw [up2_s, I.2.1 c' hc']
            exact (if_pos (show mpB M s (nI c') k = true by unfold mpB; rw [show decide (poP M s (k + 1)) = true from hp, ec, decide_eq_true rfl]; rfl)).symm
          · rw [up2_k _ _ e, I.2.1 c' hc']
            exact (if_neg (show ¬ mpB M s (nI c') k = true by unfold mpB; rw [show decide (poP M s (k + 1)) = true from hp, ec, decide_eq_false (fun z => e ((nI_eq (by omega) (by omega)).mp z.symm))]; decide)).symm
        · dsimp only
          rw [up2_s, fa_cnt_yes hp]
          exact nI_1 _
        · dsimp only
          rw [up2_a _ _ (by decide)]
          rcases Nat.lt_succ_iff_lt_or_eq.mp hi with w9 | w9
          · have hlt : fa_cnt (pcB M s) i < fa_cnt (pcB M s) k := by
              have := fa_cnt_mono (pcB M s) (show i + 1 ≤ k from w9)
              rw [fa_cnt_yes hpi] at this
              exact this
            rw [up2_k _ _ (by omega), up2_a _ _ (by decide), up2_a _ _ (by decide)]
            exact I.2.2.2 i w9 hpi
          · subst w9
            rw [up2_s]
      · rw [show notS F R Y (k + 1) = if F 163 (k + 1) = 1 then (Y.1, va_up Y.2 (F 159 (k + 1)).toNatClampNeg (R (k + 1))) else Y from by
          unfold notS
          rw [if_neg (show ¬ F 163 (k + 1) = 2 from fun z => h47 (Q.1.symm.trans z))]]
        have hf : pcB M s k = false := decide_eq_false (fun z => h47 z.1)
        split
        · exact gkP_no hf I
        · exact gkP_no hf I
    · rw [show gthB F R s Y k = Y from if_neg hkn]
      exact gkP_no (decide_eq_false (fun z => hkn ((kn_iff Q hk).mpr z.2))) I
