/-! ===== the parsers agree: places ===== -/
def txM (M : mM) (tx : Nat → Nat) (L : Nat) : Prop := L ≤ 600 ∧ ∀ i, i < L → M 1 i = nI (tx i) ∧ tx i < 256
theorem nI_q {a b : Nat} (ha : a < 2147483648) (hb : b < 2147483648) : nI a = nI b ↔ a = b := ⟨nI_inj ha hb, fun e => by rw [e]⟩
theorem nI_leq {a b : Nat} (ha : a < 2147483648) (hb : b < 2147483648) : nI a ≤ nI b ↔ a ≤ b := by
  rw [fa_le, nI_toInt ha, nI_toInt hb]
  omega
theorem bk_iff {M : mM} {tx : Nat → Nat} {L a : Nat} (T : txM M tx L) (ha : a < L) : bkP M a ↔ srt (tx a) = 0 := by
  obtain ⟨e, hb⟩ := T.2 a ha
  unfold bkP srt
  rw [e, show (10 : Int32) = nI 10 from rfl, show (32 : Int32) = nI 32 from rfl, nI_q (by omega) (by omega), nI_q (by omega) (by omega)]
  repeat' split
  all_goals omega
theorem lt_iff {M : mM} {tx : Nat → Nat} {L a : Nat} (T : txM M tx L) (ha : a < L) : ltP M a ↔ srt (tx a) = 1 := by
  obtain ⟨e, hb⟩ := T.2 a ha
  unfold ltP srt
  rw [e, show (97 : Int32) = nI 97 from rfl, show (122 : Int32) = nI 122 from rfl, nI_leq (by omega) (by omega), nI_leq (by omega) (by omega)]
  repeat' split
  all_goals omega
theorem sk_at {M : mM} {tx : Nat → Nat} {L : Nat} (T : txM M tx L) : ∀ k a, a + k = L → (∀ j, a ≤ j → j < skF M k a → srt (tx j) = 0) ∧ (skF M k a < L → ¬ srt (tx (skF M k a)) = 0)
  | 0, a, h => ⟨fun j h1 h2 => absurd h2 (by show ¬ j < a; omega), fun z => absurd z (by show ¬ a < L; omega)⟩
  | k + 1, a, h => by
    unfold skF
    by_cases q : bkP M a
    · rw [if_pos q]
      obtain ⟨i1, i2⟩ := sk_at T k (a + 1) (by omega)
      refine ⟨fun j h1 h2 => ?_, i2⟩
      by_cases e : j = a
      · rw [e]
        exact (bk_iff T (by omega)).mp q
      · exact i1 j (by omega) h2
    · rw [if_neg q]
      exact ⟨fun j h1 h2 => absurd h2 (by omega), fun z c => q ((bk_iff T z).mpr c)⟩
theorem rnL_at {M : mM} {tx : Nat → Nat} {L : Nat} (T : txM M tx L) : ∀ k a, a + k = L → (∀ j, a ≤ j → j < rnF M k a → srt (tx j) = 1) ∧ (rnF M k a < L → ¬ srt (tx (rnF M k a)) = 1)
  | 0, a, h => ⟨fun j h1 h2 => absurd h2 (by show ¬ j < a; omega), fun z => absurd z (by show ¬ a < L; omega)⟩
  | k + 1, a, h => by
    unfold rnF
    by_cases q : ltP M a
    · rw [if_pos q]
      obtain ⟨i1, i2⟩ := rnL_at T k (a + 1) (by omega)
      refine ⟨fun j h1 h2 => ?_, i2⟩
      by_cases e : j = a
      · rw [e]
        exact (lt_iff T (by omega)).mp q
      · exact i1 j (by omega) h2
    · rw [if_neg q]
      exact ⟨fun j h1 h2 => absurd h2 (by omega), fun z c => q ((lt_iff T z).mpr c)⟩
/-- the place is no middle of a word or number; what has ended here -/
def glU (tx : Nat → Nat) (L a : Nat) (eN : Int32) : Prop := a ≤ L ∧ (a < L → srt (tx a) = 1 ∨ srt (tx a) = 2 → ¬ bf tx a = srt (tx a)) ∧ ∀ b, a ≤ b → b ≤ L → (nI b = eN ↔ b = a ∧ (bf tx a = 1 ∨ bf tx a = 2))
theorem tk_blank {tx : Nat → Nat} {L j : Nat} (h : srt (tx j) = 0) : ¬ tkB9 tx L j = true := by
  unfold tkB9 scT
  rw [if_neg (by omega), if_neg (by omega), if_neg (by omega)]
  exact fun z => Bool.noConfusion z
theorem tk_any {tx : Nat → Nat} {L j : Nat} (h0 : ¬ srt (tx j) = 0) (h : srt (tx j) = 1 ∨ srt (tx j) = 2 → ¬ bf tx j = srt (tx j)) : tkB9 tx L j = true := by
  have h3 := srt_3 (tx j)
  unfold tkB9 scT
  by_cases q3 : srt (tx j) = 3
  · rw [if_pos q3]; rfl
  · rw [if_neg q3]
    by_cases q1 : srt (tx j) = 1
    · rw [if_pos q1, if_neg (show ¬ bf tx j = 1 by rw [← q1]; exact h (Or.inl q1))]; rfl
    · have q2 : srt (tx j) = 2 := by omega
      rw [if_neg q1, if_pos q2, if_neg (show ¬ bf tx j = 2 by rw [← q2]; exact h (Or.inr q2))]; rfl
/-- blanks passed over -/
theorem sk_pl {M : mM} {tx : Nat → Nat} {L a : Nat} {eN : Int32} (T : txM M tx L) (G : glU tx L a eN) : glU tx L (skb M L a) eN ∧ cnt tx L (skb M L a) = cnt tx L a ∧ (skb M L a < L → tkB9 tx L (skb M L a) = true) := by
  obtain ⟨g1, g2, g3⟩ := G
  obtain ⟨s1, s2⟩ := sk_at T (L - a) a (by omega)
  obtain ⟨l1, l2⟩ := skb_le (M := M) (L := L) (a := a)
  have e : skF M (L - a) a = skb M L a := rfl
  rw [e] at s1 s2
  have hL := T.1
  by_cases q : skb M L a = a
  · rw [q] at s2 ⊢
    exact ⟨⟨g1, g2, g3⟩, rfl, fun h => tk_any (s2 h) (g2 h)⟩
  · generalize skb M L a = p at s1 s2 l1 l2 q ⊢
    have hb : bf tx p = 0 := by
      have h1 := s1 (p - 1) (by omega) (by omega)
      have e : bf tx p = srt (tx (p - 1)) := by
        rw [show p = (p - 1) + 1 by omega]
        rfl
      rw [e, h1]
    refine ⟨⟨l2 g1, fun h h2 => by omega, fun b hb1 hb2 => ?_⟩, ?_, fun h => tk_any (s2 h) (fun z => by omega)⟩
    · rw [g3 b (by omega) hb2]
      exact ⟨fun z => absurd z.1 (by omega), fun z => absurd z.2 (by omega)⟩
    · have h := cnt_same (tx := tx) (L := L) (i := a) (p - a) (fun j h1 h2 => tk_blank (s1 j h1 (by omega)))
      rw [show a + (p - a) = p by omega] at h
      exact h
theorem isW_iff {tx : Nat → Nat} {L : Nat} : ∀ (a : Nat) (w : List Nat), isW tx L a w = true ↔ (∀ j, j < w.length → a + j < L ∧ srt (tx (a + j)) = 1 ∧ tx (a + j) = w.getD j 0) ∧ ¬ (a + w.length < L ∧ srt (tx (a + w.length)) = 1)
  | a, [] => by
    have e1 : isW tx L a [] = !decide (a < L ∧ srt (tx a) = 1) := rfl
    rw [e1]
    show _ ↔ (∀ j, j < 0 → _) ∧ ¬ (a + 0 < L ∧ srt (tx (a + 0)) = 1)
    rw [Nat.add_zero]
    by_cases q : a < L ∧ srt (tx a) = 1
    · rw [decide_eq_true q]
      exact ⟨fun z => absurd z (fun z => Bool.noConfusion z), fun z => absurd q z.2⟩
    · rw [decide_eq_false q]
      exact ⟨fun _ => ⟨fun j hj => absurd hj (Nat.not_lt_zero j), q⟩, fun _ => rfl⟩
  | a, c :: w => by
    have e2 : isW tx L a (c :: w) = (decide (a < L ∧ srt (tx a) = 1) && decide (tx a = c) && isW tx L (a + 1) w) := rfl
    have ih := isW_iff (tx := tx) (L := L) (a + 1) w
    rw [e2]
    simp only [Bool.and_eq_true, decide_eq_true_eq]
    rw [ih]
    have hl : (c :: w).length = w.length + 1 := rfl
    rw [hl, show a + (w.length + 1) = a + 1 + w.length by omega]
    refine ⟨fun z => ⟨fun j hj => ?_, z.2.2⟩, fun z => ⟨⟨?_, ?_⟩, fun j hj => ?_, z.2⟩⟩
    · cases j with
      | zero => exact ⟨z.1.1.1, z.1.1.2, z.1.2⟩
      | succ j =>
        have := z.2.1 j (by omega)
        rw [show a + 1 + j = a + (j + 1) by omega] at this
        exact this
    · have := z.1 0 (by omega)
      exact ⟨this.1, this.2.1⟩
    · exact (z.1 0 (by omega)).2.2
    · have := z.1 (j + 1) (by omega)
      rw [show a + (j + 1) = a + 1 + j by omega] at this
      exact this
theorem letr {q : Nat} : srt q = 1 ↔ 97 ≤ q ∧ q ≤ 122 := by
  unfold srt
  repeat' split
  all_goals omega
theorem hrP_iff {M : mM} {tx : Nat → Nat} {L p : Nat} (T : txM M tx L) (hp : p ≤ L) {w : List Nat} {f : Nat → Int32} (hw : ∀ j, j < w.length → 97 ≤ w.getD j 0 ∧ w.getD j 0 ≤ 122) (hf : ∀ j, j < w.length → f j = nI (w.getD j 0)) : hrP M L p w.length f = true ↔ isW tx L p w = true := by
  rw [isW_iff]
  obtain ⟨r1, r2⟩ := rnL_at T (L - p) p (by omega)
  have r3 := rnF_le M (L - p) p
  have er : rnF M (L - p) p = rnE M L p := rfl
  rw [er] at r1 r2 r3
  have hL := T.1
  unfold hrP
  simp only [Bool.and_eq_true, decide_eq_true_eq, Bool.not_eq_true']
  generalize rnE M L p = e at r1 r2 r3
  refine ⟨fun z => ⟨fun j hj => ?_, fun c => ?_⟩, fun z => ⟨?_, ?_⟩⟩
  · have h0 : p + j < L := by have := z.1; omega
    have h1 := anyb_at z.2 hj
    simp only [decide_eq_false_iff_not, Decidable.not_not] at h1
    obtain ⟨t1, t2⟩ := T.2 (p + j) h0
    rw [t1, hf j hj] at h1
    have hwj := hw j hj
    exact ⟨h0, r1 (p + j) (by omega) (by have := z.1; omega), nI_inj (by omega) (by omega) h1⟩
  · have := z.1
    rw [← this] at c
    exact r2 c.1 c.2
  · obtain ⟨z1, z2⟩ := z
    rcases Nat.lt_trichotomy e (p + w.length) with h | h | h
    · have h2 := (z1 (e - p) (by omega)).2.1
      have h3 := (z1 (e - p) (by omega)).1
      rw [show p + (e - p) = e by omega] at h2 h3
      exact absurd h2 (r2 h3)
    · exact h
    · exact absurd ⟨by omega, r1 (p + w.length) (by omega) h⟩ z2
  · refine anyb_no (fun j hj => ?_)
    obtain ⟨z1, z2, z3⟩ := z.1 j hj
    obtain ⟨t1, t2⟩ := T.2 (p + j) z1
    simp only [decide_eq_false_iff_not, Decidable.not_not]
    rw [t1, z3, hf j hj]
