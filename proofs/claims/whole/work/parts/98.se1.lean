/-! ===== class against reference: a fire, cell by cell, engine by engine ===== -/
/-- what both keep of a cell in a fire -/
def fC (X M : mM) (c : Nat) : Prop := X 1 c = M 34 c ∧ X 3 c = M 53 c ∧ X 4 c = M 54 c ∧ X 5 c = M 55 c ∧ X 6 c = M 56 c ∧ X 7 c = M 57 c ∧ (M 53 c = 1 → ¬ M 34 c = 0) ∧ (∃ k, k ≤ 9 ∧ M 55 c = nI k) ∧ (M 53 c = 0 → ∃ k, k < 160 ∧ M 54 c = nI k)
/-- what both keep of an engine in a fire -/
def fE (X M : mM) (e : Nat) : Prop := X 9 e = M 60 e ∧ X 10 e = M 61 e ∧ X 11 e = M 62 e
def fX (X M : mM) (n m : Nat) : Prop := (∀ c, c < n → fC X M c) ∧ ∀ e, e < m → fE X M e
theorem fC_fr {X X1 M M1 : mM} {c : Nat} (e : ∀ r, r = 1 ∨ (3 ≤ r ∧ r ≤ 7) → X1 r c = X r c) (e2 : ∀ r, r = 34 ∨ (53 ≤ r ∧ r ≤ 57) → M1 r c = M r c) (I : fC X M c) : fC X1 M1 c := by
  unfold fC
  rw [e 1 (by decide), e 3 (by decide), e 4 (by decide), e 5 (by decide), e 6 (by decide), e 7 (by decide), e2 34 (by decide), e2 53 (by decide), e2 54 (by decide), e2 55 (by decide), e2 56 (by decide), e2 57 (by decide)]
  exact I
theorem fE_fr {X X1 M M1 : mM} {c : Nat} (e : ∀ r, 9 ≤ r ∧ r ≤ 11 → X1 r c = X r c) (e2 : ∀ r, 60 ≤ r ∧ r ≤ 62 → M1 r c = M r c) (I : fE X M c) : fE X1 M1 c := by
  unfold fE
  rw [e 9 (by decide), e 10 (by decide), e 11 (by decide), e2 60 (by decide), e2 61 (by decide), e2 62 (by decide)]
  exact I
theorem conX_col {fu : Nat → Int32} {X : mM} {c k r : Nat} (h : k ≠ c) : conX fu X c r k = X r k := by
  unfold conX
  split
  · split
    · rw [up2_k _ _ h, up2_k _ _ h]
    · rw [up2_k _ _ h, up2_k _ _ h, up2_k _ _ h, up2_k _ _ h]
  · rfl
theorem mgrB_col {M : mM} {c k r : Nat} (h : k ≠ c) : mgrB M c r k = M r k := by
  have hF : mgrF M c r k = M r k := by
    unfold mgrF
    split
    · rw [up2_k _ _ h]
    · rfl
  unfold mgrB
  split
  · split
    · rw [up2_k _ _ h]; exact hF
    · rw [up2_k _ _ h, up2_k _ _ h, up2_k _ _ h]; exact hF
  · rfl
/-- a cell burns on -/
theorem fC_con {fu : Nat → Int32} {X M : mM} {c : Nat} (hf : fu c = fuW (M 31) c) (I : fC X M c) : fC (conX fu X c) (mgrB M c) c := by
  obtain ⟨a1, a3, a4, a5, a6, a7, b1, ⟨k, hk, b2⟩, b3⟩ := I
  unfold conX mgrB
  rw [a3, a6, hf]
  by_cases h3 : M 53 c = 1
  · rw [if_pos h3, if_pos h3]
    have hF5 : mgrF M c 55 c = (if X 5 c + 1 < 9 then X 5 c + 1 else 9) ∧ ∃ q, q ≤ 9 ∧ mgrF M c 55 c = nI q := by
      unfold mgrF
      rw [a5, b2]
      by_cases q9 : k < 9
      · rw [if_pos (show nI k < 9 by rw [fa_lt, nI_toInt (by omega), show (9 : Int32).toInt = 9 from by decide]; omega), up2_s, nI_1]
        refine ⟨?_, k + 1, by omega, rfl⟩
        by_cases q8 : k < 8
        · rw [if_pos (show nI (k + 1) < 9 by rw [fa_lt, nI_toInt (by omega), show (9 : Int32).toInt = 9 from by decide]; omega)]
        · rw [show k = 8 by omega]; rfl
      · rw [show k = 9 by omega, if_neg (by decide), b2, show k = 9 by omega]
        exact ⟨by decide, 9, by decide, rfl⟩
    have hFr : ∀ r, r ≠ 55 → mgrF M c r = M r := fun r hr => mgrF_row M c hr
    by_cases h6 : M 56 c + 1 < fuW (M 31) c
    · rw [if_pos h6, if_pos h6]
      unfold fC
      refine ⟨?_, ?_, ?_, ?_, ?_, ?_, ?_, ?_, ?_⟩
      · rw [up2_row (by decide), up2_row (by decide), up2_row (by decide), hFr 34 (by decide)]; exact a1
      · rw [up2_row (by decide), up2_row (by decide), up2_row (by decide), hFr 53 (by decide)]; exact a3
      · rw [up2_row (by decide), up2_row (by decide), up2_row (by decide), hFr 54 (by decide)]; exact a4
      · rw [up2_row (show 5 ≠ 6 by decide), up2_s, up2_row (show 55 ≠ 56 by decide)]; exact hF5.1.symm
      · rw [up2_s, up2_s]
      · rw [up2_row (by decide), up2_row (by decide), up2_row (by decide), hFr 57 (by decide)]; exact a7
      · rw [up2_row (by decide), up2_row (by decide), hFr 53 (by decide), hFr 34 (by decide)]; exact b1
      · rw [up2_row (show 55 ≠ 56 by decide)]; exact hF5.2
      · rw [up2_row (by decide), up2_row (by decide), hFr 53 (by decide), hFr 54 (by decide)]; exact b3
    · rw [if_neg h6, if_neg h6]
      unfold fC
      refine ⟨?_, ?_, ?_, ?_, ?_, ?_, ?_, ?_, ?_⟩
      · rw [up2_row (by decide), up2_row (by decide), up2_row (by decide), up2_row (by decide), up2_row (by decide), up2_row (by decide), up2_row (by decide), hFr 34 (by decide)]; exact a1
      · rw [up2_row (show 3 ≠ 5 by decide), up2_s, up2_row (show 53 ≠ 55 by decide), up2_s]
      · rw [up2_row (by decide), up2_row (by decide), up2_row (by decide), up2_row (by decide), up2_row (by decide), up2_row (by decide), up2_row (by decide), hFr 54 (by decide)]; exact a4
      · rw [up2_s, up2_s]
      · rw [up2_row (show 6 ≠ 5 by decide), up2_row (show 6 ≠ 3 by decide), up2_s, up2_row (show 56 ≠ 55 by decide), up2_row (show 56 ≠ 53 by decide), up2_s]
      · rw [up2_row (by decide), up2_row (by decide), up2_row (by decide), up2_row (by decide), up2_row (by decide), up2_row (by decide), up2_row (by decide), hFr 57 (by decide)]; exact a7
      · rw [up2_row (show 53 ≠ 55 by decide), up2_s]
        exact fun q => absurd q (by decide)
      · rw [up2_s]; exact ⟨0, by decide, rfl⟩
      · rw [up2_row (show 53 ≠ 55 by decide), up2_s]
        exact fun q => absurd q (by decide)
  · rw [if_neg h3, if_neg h3]
    exact ⟨a1, a3, a4, a5, a6, a7, b1, ⟨k, hk, b2⟩, b3⟩
theorem fX_con {fu : Nat → Int32} {X M : mM} {n m : Nat} (hf : ∀ c, fu c = fuW (M 31) c) (I : fX X M n m) : ∀ k, k ≤ n → fX (itN (conX fu) X k) (itN mgrB M k) n m := by
  intro k
  induction k with
  | zero => exact fun _ => I
  | succ k ih =>
    intro hk
    replace ih := ih (by omega)
    have e31 : itN mgrB M k 31 = M 31 := mgr_row M (by decide) (by decide) (by decide) k
    rw [itN_s, itN_s]
    generalize itN (conX fu) X k = Y at ih ⊢
    generalize itN mgrB M k = Z at ih e31 ⊢
    refine ⟨fun c hc => ?_, fun e he => ?_⟩
    · by_cases q : c = k
      · subst q
        exact fC_con (by rw [e31]; exact hf c) (ih.1 c hc)
      · exact fC_fr (fun r _ => conX_col q) (fun r _ => mgrB_col q) (ih.1 c hc)
    · exact fE_fr (fun r hr => congrFun (conX_row (by omega) (by omega) (by omega) Y k) e) (fun r hr => congrFun (mgrB_row Z k (by omega) (by omega) (by omega)) e) (ih.2 e he)
