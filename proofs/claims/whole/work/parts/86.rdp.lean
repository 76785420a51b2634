/-! ===== the reference's reader: what stays within bounds; a part ===== -/
/-- the place within the tape; no more codes and waiting ones than bytes read -/
abbrev rI (L : Nat) (q : pS) : Prop := q.1 ≤ L ∧ q.2.2.2.2.1 + q.2.2.2.2.2.1 ≤ q.1 + 2
theorem skb_I {M : mM} {L : Nat} {q : pS} (I : rI L q) : rI L (skb M L q.1, q.2) := by
  have h := skb_le (M := M) (L := L) (a := q.1)
  have h1 := I.1
  have h2 := I.2
  exact ⟨h.2 h1, by show q.2.2.2.2.1 + q.2.2.2.2.2.1 ≤ skb M L q.1 + 2; omega⟩
theorem flS_I {L : Nat} {q : pS} {k p : Int32} (I : rI L q) : rI L (flS9 q k p) := by
  unfold flS9
  split
  · exact I
  · exact I
theorem hrS_I {M : mM} {L : Nat} {q : pS} (I : rI L q) : rI L (hrS M L q) := by
  unfold hrS
  split
  · exact skb_I I
  · exact I
theorem hrP_le {M : mM} {L p l : Nat} {f : Nat → Int32} (h : hrP M L p l f = true) (hp : p ≤ L) : p + l ≤ L := by
  unfold hrP at h
  rw [Bool.and_eq_true] at h
  have e := of_decide_eq_true h.1
  have := rnF_le M (L - p) p
  unfold rnE at e
  omega
theorem hrQ_p {M : mM} {L : Nat} {q : pS} {l : Nat} {f : Nat → Int32} (h : hrQ M L q l f = true) : q.2.2.1 = 0 ∧ hrP M L (skb M L q.1) l f = true := by
  unfold hrQ at h
  split at h
  · rename_i h0
    split at h
    · split at h
      · cases h
      · exact ⟨h0, h⟩
    · cases h
  · cases h
theorem tkS_I {M : mM} {L : Nat} {q : pS} {l : Nat} {f : Nat → Int32} (I : rI L q) : rI L (tkS9 M L q l f) := by
  unfold tkS9
  split
  · rename_i h
    have h0 := skb_le (M := M) (L := L) (a := q.1)
    have h1 := I.1
    have h2 := I.2
    have h3 := hrP_le (hrQ_p h).2 (h0.2 h1)
    exact ⟨h3, by show q.2.2.2.2.1 + q.2.2.2.2.2.1 ≤ skb M L q.1 + l + 2; omega⟩
  · exact hrS_I I
theorem tkS_P {M : mM} {L : Nat} {q : pS} {l : Nat} {f : Nat → Int32} (h : hrQ M L q l f = true) : tkS9 M L q l f = (skb M L q.1 + l, nI (skb M L q.1 + l), q.2.2) ∧ q.1 + l ≤ skb M L q.1 + l := by
  have h0 := skb_le (M := M) (L := L) (a := q.1)
  exact ⟨if_pos h, by omega⟩
theorem asS_I {M : mM} {L : Nat} {q : pS} {l : Nat} {f : Nat → Int32} (I : rI L q) : rI L (asS9 M L q l f) := by
  unfold asS9
  split
  · split
    · exact tkS_I I
    · exact flS_I (hrS_I I)
  · exact I
theorem lkV_lt {M : mM} {L a : Nat} {c : Int32} (hc : ¬ c = -1) (h : lkV M L a = c) : skb M L a < L := by
  unfold lkV at h
  split at h
  · assumption
  · exact absurd h.symm hc
theorem tgS_I {M : mM} {L : Nat} {q : pS} {c : Int32} (hc : ¬ c = -1) (I : rI L q) : rI L (tgS M L q c) := by
  unfold tgS
  have h0 := skb_le (M := M) (L := L) (a := q.1)
  have h2 := I.2
  split
  · split
    · rename_i h
      have := lkV_lt hc h
      exact ⟨this, by show q.2.2.2.2.1 + q.2.2.2.2.2.1 ≤ skb M L q.1 + 1 + 2; omega⟩
    · exact skb_I I
  · exact I
theorem tgS_P {M : mM} {L : Nat} {q : pS} {c : Int32} (h : tgQ M L q c = true) : tgS M L q c = (skb M L q.1 + 1, q.2) ∧ q.1 ≤ skb M L q.1 := by
  have h0 := skb_le (M := M) (L := L) (a := q.1)
  unfold tgQ at h
  split at h
  · rename_i h1
    exact ⟨(if_pos h1).trans (if_pos (of_decide_eq_true h)), h0.1⟩
  · cases h
theorem agS_I {M : mM} {L : Nat} {q : pS} {c : Int32} (hc : ¬ c = -1) (I : rI L q) : rI L (agS M L q c) := by
  unfold agS
  split
  · split
    · exact tgS_I hc I
    · exact flS_I (tgS_I hc I)
  · exact I
theorem nuS_le {M : mM} {L b : Nat} (hb : b ≤ L) : b ≤ (nuS M L b).2.1 ∧ (nuS M L b).2.1 ≤ L := by
  have := nuF_le M b (L - b) b 0
  unfold nuS
  omega
theorem nbV_I {M : mM} {L : Nat} {q : pS} {lo hi : Int32} (I : rI L q) : rI L (nbV M L q lo hi).2 := by
  have h0 := skb_le (M := M) (L := L) (a := q.1)
  have h1 := I.1
  have h2 := I.2
  have h3 := nuS_le (M := M) (h0.2 h1)
  have h4 : ∀ e : Int32, rI L ((nuS M L (skb M L q.1)).2.1, e, q.2.2) := fun e => ⟨h3.2, by show q.2.2.2.2.1 + q.2.2.2.2.2.1 ≤ (nuS M L (skb M L q.1)).2.1 + 2; omega⟩
  unfold nbV
  repeat' split
  all_goals first | exact I | exact flS_I (skb_I I) | exact flS_I (h4 _) | exact h4 _
/-- a number that is read is at least one byte -/
theorem nuS_1 {M : mM} {L b : Nat} (hb : b < L) (hd : dgP M b) : b < (nuS M L b).2.1 := by
  have e : L - b = (L - b - 1) + 1 := by omega
  unfold nuS
  rw [e]
  unfold nuF
  rw [if_pos hd, if_neg (by rw [Nat.sub_self]; decide)]
  have := nuF_le M b (L - b - 1) (b + 1) (10 * 0 + M 1 b - 48)
  omega
theorem flS_b {q : pS} {k p : Int32} (hk : ¬ k = 0) (h : (flS9 q k p).2.2.1 = 0) : False := by
  unfold flS9 at h
  split at h
  · exact hk h
  · rename_i h0
    exact h0 h
theorem nbV_1 {M : mM} {L : Nat} {q : pS} {lo hi : Int32} (I : rI L q) (h : (nbV M L q lo hi).2.2.2.1 = 0) : q.1 + 1 ≤ (nbV M L q lo hi).2.1 ∧ q.2.2.1 = 0 := by
  have h0 := skb_le (M := M) (L := L) (a := q.1)
  revert h
  unfold nbV
  split
  · rename_i hb
    split
    · rename_i hd
      have hlt : skb M L q.1 < L := by
        rcases Nat.lt_or_ge (skb M L q.1) L with w | w
        · exact w
        · have e : lkV M L q.1 = -1 := if_neg (by omega)
          rw [e] at hd
          exact absurd hd.1 (by decide)
      have e : lkV M L q.1 = M 1 (skb M L q.1) := if_pos hlt
      rw [e] at hd
      have h1 := nuS_1 hlt hd
      repeat' split
      · intro h; exact absurd (flS_b (by decide) h) id
      · intro h; exact absurd (flS_b (by decide) h) id
      · intro _; exact ⟨by show q.1 + 1 ≤ (nuS M L (skb M L q.1)).2.1; omega, hb⟩
      · intro h; exact absurd (flS_b (by decide) h) id
    · intro h; exact absurd (flS_b (by decide) h) id
  · rename_i hb
    intro h
    exact absurd h hb
theorem npS_I {M : mM} {L : Nat} {q : pS} (I : rI L q) : rI L (npS M L q) := by
  unfold npS
  split
  · rename_i h
    have h1 := nbV_1 I h
    have h2 := I.2
    have h3 := nbV_I (M := M) (lo := 0) (hi := 99999) I
    have e4 : (nbV M L q 0 99999).2.2.2.2.2.1 = q.2.2.2.2.1 := nbV_c
    have e5 : (nbV M L q 0 99999).2.2.2.2.2.2.1 = q.2.2.2.2.2.1 := nbV_w
    exact ⟨h3.1, by show (nbV M L q 0 99999).2.2.2.2.2.1 + 1 + (nbV M L q 0 99999).2.2.2.2.2.2.1 ≤ (nbV M L q 0 99999).2.1 + 2; omega⟩
  · exact nbV_I I
theorem opS_r {q : pS} {v p : Int32} : (opS q v p).1 = q.1 ∧ (opS q v p).2.2.2.2.1 = q.2.2.2.2.1 ∧ (opS q v p).2.2.2.2.2.1 ≤ q.2.2.2.2.2.1 + 1 := by
  unfold opS
  split
  · have := flS_c q 3 p
    exact ⟨this.1, by rw [this.2], by rw [this.2]; omega⟩
  · exact ⟨rfl, rfl, Nat.le_refl _⟩
theorem opS_I {L : Nat} {q : pS} {v p : Int32} (I : rI L q) (hl : q.1 < L) : rI L ((opS q v p).1 + 1, (opS q v p).2) := by
  have h := opS_r (q := q) (v := v) (p := p)
  have h2 := I.2
  exact ⟨by show (opS q v p).1 + 1 ≤ L; omega, by show (opS q v p).2.2.2.2.1 + (opS q v p).2.2.2.2.2.1 ≤ (opS q v p).1 + 1 + 2; omega⟩
theorem dwQ_I {L : Nat} {q : pS} {p : Nat → Bool} (I : rI L q) : rI L (dwQ q p) := by
  have h := dwS_le q.2.2.2.2.2.2.2.2.2 p q.2.2.2.2.2.1 q.2.2.2.2.1 q.2.2.2.2.2.2.2.2.1
  have h2 := I.2
  exact ⟨I.1, by show (dwS _ _ _ _ _).2.1 + (dwS _ _ _ _ _).1 ≤ q.1 + 2; omega⟩
theorem dnQ_I {L : Nat} {q : pS} (I : rI L q) : rI L (dnQ q) := by
  unfold dnQ
  split
  · have h := dnF_le q.2.2.2.2.2.2.2.2.2 q.2.2.2.2.2.1 q.2.2.2.2.1 q.2.2.2.2.2.2.1 q.2.2.2.2.2.2.2.2.1
    have h2 := I.2
    exact ⟨I.1, by show (dnF _ _ _ _ _).2.1 + (dnF _ _ _ _ _).1 ≤ q.1 + 2; omega⟩
  · exact I
theorem cdS_I {L : Nat} {q : pS} {v : Int32} (h1 : q.1 ≤ L) (h2 : q.2.2.2.2.1 + q.2.2.2.2.2.1 + 1 ≤ q.1 + 2) : rI L (cdS q v) := ⟨h1, by show q.2.2.2.2.1 + 1 + q.2.2.2.2.2.1 ≤ q.1 + 2; omega⟩
theorem skb_skb {M : mM} {L a : Nat} (ha : a ≤ L) : skb M L (skb M L a) = skb M L a := by
  have key : ∀ k a, a + k = L → skF M (L - skF M k a) (skF M k a) = skF M k a := by
    intro k
    induction k with
    | zero =>
      intro a h
      show skF M (L - a) a = a
      rw [show L - a = 0 by omega]
      rfl
    | succ k ih =>
      intro a h
      by_cases q : bkP M a
      · rw [show skF M (k + 1) a = skF M k (a + 1) from if_pos q]
        exact ih (a + 1) (by omega)
      · rw [show skF M (k + 1) a = a from if_neg q, show L - a = k + 1 by omega]
        exact if_neg q
  exact key (L - a) a (by omega)
theorem lkV_skb {M : mM} {L a : Nat} (ha : a ≤ L) : lkV M L (skb M L a) = lkV M L a := by
  unfold lkV
  rw [skb_skb ha]
