/-! ===== the reference's reader: its state; bytes, words, signs, numbers ===== -/
/-- at, ended, bad, badPlace, coded, waits, open, base, codes, wait -/
abbrev pS : Type := Nat × Int32 × Int32 × Int32 × Nat × Nat × Int32 × Nat × (Nat → Int32) × (Nat → Int32)
def pM (M : mM) (q : pS) : mM := fun x i =>
  if x = 0 then (if i = 2 then nI q.1 else if i = 4 then q.2.1 else if i = 5 then q.2.2.1 else if i = 6 then q.2.2.2.1 else if i = 37 then nI q.2.2.2.2.1 else if i = 39 then nI q.2.2.2.2.2.1 else if i = 40 then q.2.2.2.2.2.2.1 else if i = 41 then nI q.2.2.2.2.2.2.2.1 else M 0 i)
  else if x = 29 then q.2.2.2.2.2.2.2.2.1 i else if x = 30 then q.2.2.2.2.2.2.2.2.2 i else M x i
/-- one place of the state written -/
abbrev s0 (q : pS) (x : Nat) : pS := (x, q.2)
abbrev s1 (q : pS) (x : Int32) : pS := (q.1, x, q.2.2)
abbrev s2 (q : pS) (x : Int32) : pS := (q.1, q.2.1, x, q.2.2.2)
abbrev s3 (q : pS) (x : Int32) : pS := (q.1, q.2.1, q.2.2.1, x, q.2.2.2.2)
abbrev s4 (q : pS) (x : Nat) : pS := (q.1, q.2.1, q.2.2.1, q.2.2.2.1, x, q.2.2.2.2.2)
abbrev s5 (q : pS) (x : Nat) : pS := (q.1, q.2.1, q.2.2.1, q.2.2.2.1, q.2.2.2.2.1, x, q.2.2.2.2.2.2)
abbrev s6 (q : pS) (x : Int32) : pS := (q.1, q.2.1, q.2.2.1, q.2.2.2.1, q.2.2.2.2.1, q.2.2.2.2.2.1, x, q.2.2.2.2.2.2.2)
abbrev s7 (q : pS) (x : Nat) : pS := (q.1, q.2.1, q.2.2.1, q.2.2.2.1, q.2.2.2.2.1, q.2.2.2.2.2.1, q.2.2.2.2.2.2.1, x, q.2.2.2.2.2.2.2.2)
abbrev s8 (q : pS) (x : Nat → Int32) : pS := (q.1, q.2.1, q.2.2.1, q.2.2.2.1, q.2.2.2.2.1, q.2.2.2.2.2.1, q.2.2.2.2.2.2.1, q.2.2.2.2.2.2.2.1, x, q.2.2.2.2.2.2.2.2.2)
abbrev s9 (q : pS) (x : Nat → Int32) : pS := (q.1, q.2.1, q.2.2.1, q.2.2.2.1, q.2.2.2.2.1, q.2.2.2.2.2.1, q.2.2.2.2.2.2.1, q.2.2.2.2.2.2.2.1, q.2.2.2.2.2.2.2.2.1, x)
/-- the tape: L bytes -/
def tpI (M : mM) (L : Nat) : Prop := M 0 3 = nI L ∧ L ≤ 600 ∧ ∀ i, i < L → ∃ q, q < 256 ∧ M 1 i = nI q
theorem pM_2 (M : mM) (q : pS) (x : Nat) : up2 (pM M q) 0 2 (nI x) = pM M (x, q.2.1, q.2.2.1, q.2.2.2.1, q.2.2.2.2.1, q.2.2.2.2.2.1, q.2.2.2.2.2.2.1, q.2.2.2.2.2.2.2.1, q.2.2.2.2.2.2.2.2.1, q.2.2.2.2.2.2.2.2.2) := by
  funext y j
  by_cases h0 : y = 0
  · subst h0
    by_cases h1 : j = 2
    · subst h1; rfl
    · rw [up2_k _ _ h1]
      show (if j = 2 then nI q.1 else if j = 4 then q.2.1 else if j = 5 then q.2.2.1 else if j = 6 then q.2.2.2.1 else if j = 37 then nI q.2.2.2.2.1 else if j = 39 then nI q.2.2.2.2.2.1 else if j = 40 then q.2.2.2.2.2.2.1 else if j = 41 then nI q.2.2.2.2.2.2.2.1 else M 0 j) = _
      show _ = (if j = 2 then nI x else if j = 4 then q.2.1 else if j = 5 then q.2.2.1 else if j = 6 then q.2.2.2.1 else if j = 37 then nI q.2.2.2.2.1 else if j = 39 then nI q.2.2.2.2.2.1 else if j = 40 then q.2.2.2.2.2.2.1 else if j = 41 then nI q.2.2.2.2.2.2.2.1 else M 0 j)
      simp only [h1, if_false]
  · rw [up2_row h0]
    unfold pM
    rw [if_neg h0, if_neg h0]
theorem pM_4 (M : mM) (q : pS) (x : Int32) : up2 (pM M q) 0 4 (x) = pM M (q.1, x, q.2.2.1, q.2.2.2.1, q.2.2.2.2.1, q.2.2.2.2.2.1, q.2.2.2.2.2.2.1, q.2.2.2.2.2.2.2.1, q.2.2.2.2.2.2.2.2.1, q.2.2.2.2.2.2.2.2.2) := by
  funext y j
  by_cases h0 : y = 0
  · subst h0
    by_cases h1 : j = 4
    · subst h1; rfl
    · rw [up2_k _ _ h1]
      show (if j = 2 then nI q.1 else if j = 4 then q.2.1 else if j = 5 then q.2.2.1 else if j = 6 then q.2.2.2.1 else if j = 37 then nI q.2.2.2.2.1 else if j = 39 then nI q.2.2.2.2.2.1 else if j = 40 then q.2.2.2.2.2.2.1 else if j = 41 then nI q.2.2.2.2.2.2.2.1 else M 0 j) = _
      show _ = (if j = 2 then nI q.1 else if j = 4 then x else if j = 5 then q.2.2.1 else if j = 6 then q.2.2.2.1 else if j = 37 then nI q.2.2.2.2.1 else if j = 39 then nI q.2.2.2.2.2.1 else if j = 40 then q.2.2.2.2.2.2.1 else if j = 41 then nI q.2.2.2.2.2.2.2.1 else M 0 j)
      simp only [h1, if_false]
  · rw [up2_row h0]
    unfold pM
    rw [if_neg h0, if_neg h0]
theorem pM_5 (M : mM) (q : pS) (x : Int32) : up2 (pM M q) 0 5 (x) = pM M (q.1, q.2.1, x, q.2.2.2.1, q.2.2.2.2.1, q.2.2.2.2.2.1, q.2.2.2.2.2.2.1, q.2.2.2.2.2.2.2.1, q.2.2.2.2.2.2.2.2.1, q.2.2.2.2.2.2.2.2.2) := by
  funext y j
  by_cases h0 : y = 0
  · subst h0
    by_cases h1 : j = 5
    · subst h1; rfl
    · rw [up2_k _ _ h1]
      show (if j = 2 then nI q.1 else if j = 4 then q.2.1 else if j = 5 then q.2.2.1 else if j = 6 then q.2.2.2.1 else if j = 37 then nI q.2.2.2.2.1 else if j = 39 then nI q.2.2.2.2.2.1 else if j = 40 then q.2.2.2.2.2.2.1 else if j = 41 then nI q.2.2.2.2.2.2.2.1 else M 0 j) = _
      show _ = (if j = 2 then nI q.1 else if j = 4 then q.2.1 else if j = 5 then x else if j = 6 then q.2.2.2.1 else if j = 37 then nI q.2.2.2.2.1 else if j = 39 then nI q.2.2.2.2.2.1 else if j = 40 then q.2.2.2.2.2.2.1 else if j = 41 then nI q.2.2.2.2.2.2.2.1 else M 0 j)
      simp only [h1, if_false]
  · rw [up2_row h0]
    unfold pM
    rw [if_neg h0, if_neg h0]
theorem pM_6 (M : mM) (q : pS) (x : Int32) : up2 (pM M q) 0 6 (x) = pM M (q.1, q.2.1, q.2.2.1, x, q.2.2.2.2.1, q.2.2.2.2.2.1, q.2.2.2.2.2.2.1, q.2.2.2.2.2.2.2.1, q.2.2.2.2.2.2.2.2.1, q.2.2.2.2.2.2.2.2.2) := by
  funext y j
  by_cases h0 : y = 0
  · subst h0
    by_cases h1 : j = 6
    · subst h1; rfl
    · rw [up2_k _ _ h1]
      show (if j = 2 then nI q.1 else if j = 4 then q.2.1 else if j = 5 then q.2.2.1 else if j = 6 then q.2.2.2.1 else if j = 37 then nI q.2.2.2.2.1 else if j = 39 then nI q.2.2.2.2.2.1 else if j = 40 then q.2.2.2.2.2.2.1 else if j = 41 then nI q.2.2.2.2.2.2.2.1 else M 0 j) = _
      show _ = (if j = 2 then nI q.1 else if j = 4 then q.2.1 else if j = 5 then q.2.2.1 else if j = 6 then x else if j = 37 then nI q.2.2.2.2.1 else if j = 39 then nI q.2.2.2.2.2.1 else if j = 40 then q.2.2.2.2.2.2.1 else if j = 41 then nI q.2.2.2.2.2.2.2.1 else M 0 j)
      simp only [h1, if_false]
  · rw [up2_row h0]
    unfold pM
    rw [if_neg h0, if_neg h0]
theorem pM_37 (M : mM) (q : pS) (x : Nat) : up2 (pM M q) 0 37 (nI x) = pM M (q.1, q.2.1, q.2.2.1, q.2.2.2.1, x, q.2.2.2.2.2.1, q.2.2.2.2.2.2.1, q.2.2.2.2.2.2.2.1, q.2.2.2.2.2.2.2.2.1, q.2.2.2.2.2.2.2.2.2) := by
  funext y j
  by_cases h0 : y = 0
  · subst h0
    by_cases h1 : j = 37
    · subst h1; rfl
    · rw [up2_k _ _ h1]
      show (if j = 2 then nI q.1 else if j = 4 then q.2.1 else if j = 5 then q.2.2.1 else if j = 6 then q.2.2.2.1 else if j = 37 then nI q.2.2.2.2.1 else if j = 39 then nI q.2.2.2.2.2.1 else if j = 40 then q.2.2.2.2.2.2.1 else if j = 41 then nI q.2.2.2.2.2.2.2.1 else M 0 j) = _
      show _ = (if j = 2 then nI q.1 else if j = 4 then q.2.1 else if j = 5 then q.2.2.1 else if j = 6 then q.2.2.2.1 else if j = 37 then nI x else if j = 39 then nI q.2.2.2.2.2.1 else if j = 40 then q.2.2.2.2.2.2.1 else if j = 41 then nI q.2.2.2.2.2.2.2.1 else M 0 j)
      simp only [h1, if_false]
  · rw [up2_row h0]
    unfold pM
    rw [if_neg h0, if_neg h0]
theorem pM_39 (M : mM) (q : pS) (x : Nat) : up2 (pM M q) 0 39 (nI x) = pM M (q.1, q.2.1, q.2.2.1, q.2.2.2.1, q.2.2.2.2.1, x, q.2.2.2.2.2.2.1, q.2.2.2.2.2.2.2.1, q.2.2.2.2.2.2.2.2.1, q.2.2.2.2.2.2.2.2.2) := by
  funext y j
  by_cases h0 : y = 0
  · subst h0
    by_cases h1 : j = 39
    · subst h1; rfl
    · rw [up2_k _ _ h1]
      show (if j = 2 then nI q.1 else if j = 4 then q.2.1 else if j = 5 then q.2.2.1 else if j = 6 then q.2.2.2.1 else if j = 37 then nI q.2.2.2.2.1 else if j = 39 then nI q.2.2.2.2.2.1 else if j = 40 then q.2.2.2.2.2.2.1 else if j = 41 then nI q.2.2.2.2.2.2.2.1 else M 0 j) = _
      show _ = (if j = 2 then nI q.1 else if j = 4 then q.2.1 else if j = 5 then q.2.2.1 else if j = 6 then q.2.2.2.1 else if j = 37 then nI q.2.2.2.2.1 else if j = 39 then nI x else if j = 40 then q.2.2.2.2.2.2.1 else if j = 41 then nI q.2.2.2.2.2.2.2.1 else M 0 j)
      simp only [h1, if_false]
  · rw [up2_row h0]
    unfold pM
    rw [if_neg h0, if_neg h0]
theorem pM_40 (M : mM) (q : pS) (x : Int32) : up2 (pM M q) 0 40 (x) = pM M (q.1, q.2.1, q.2.2.1, q.2.2.2.1, q.2.2.2.2.1, q.2.2.2.2.2.1, x, q.2.2.2.2.2.2.2.1, q.2.2.2.2.2.2.2.2.1, q.2.2.2.2.2.2.2.2.2) := by
  funext y j
  by_cases h0 : y = 0
  · subst h0
    by_cases h1 : j = 40
    · subst h1; rfl
    · rw [up2_k _ _ h1]
      show (if j = 2 then nI q.1 else if j = 4 then q.2.1 else if j = 5 then q.2.2.1 else if j = 6 then q.2.2.2.1 else if j = 37 then nI q.2.2.2.2.1 else if j = 39 then nI q.2.2.2.2.2.1 else if j = 40 then q.2.2.2.2.2.2.1 else if j = 41 then nI q.2.2.2.2.2.2.2.1 else M 0 j) = _
      show _ = (if j = 2 then nI q.1 else if j = 4 then q.2.1 else if j = 5 then q.2.2.1 else if j = 6 then q.2.2.2.1 else if j = 37 then nI q.2.2.2.2.1 else if j = 39 then nI q.2.2.2.2.2.1 else if j = 40 then x else if j = 41 then nI q.2.2.2.2.2.2.2.1 else M 0 j)
      simp only [h1, if_false]
  · rw [up2_row h0]
    unfold pM
    rw [if_neg h0, if_neg h0]
theorem pM_41 (M : mM) (q : pS) (x : Nat) : up2 (pM M q) 0 41 (nI x) = pM M (q.1, q.2.1, q.2.2.1, q.2.2.2.1, q.2.2.2.2.1, q.2.2.2.2.2.1, q.2.2.2.2.2.2.1, x, q.2.2.2.2.2.2.2.2.1, q.2.2.2.2.2.2.2.2.2) := by
  funext y j
  by_cases h0 : y = 0
  · subst h0
    by_cases h1 : j = 41
    · subst h1; rfl
    · rw [up2_k _ _ h1]
      show (if j = 2 then nI q.1 else if j = 4 then q.2.1 else if j = 5 then q.2.2.1 else if j = 6 then q.2.2.2.1 else if j = 37 then nI q.2.2.2.2.1 else if j = 39 then nI q.2.2.2.2.2.1 else if j = 40 then q.2.2.2.2.2.2.1 else if j = 41 then nI q.2.2.2.2.2.2.2.1 else M 0 j) = _
      show _ = (if j = 2 then nI q.1 else if j = 4 then q.2.1 else if j = 5 then q.2.2.1 else if j = 6 then q.2.2.2.1 else if j = 37 then nI q.2.2.2.2.1 else if j = 39 then nI q.2.2.2.2.2.1 else if j = 40 then q.2.2.2.2.2.2.1 else if j = 41 then nI x else M 0 j)
      simp only [h1, if_false]
  · rw [up2_row h0]
    unfold pM
    rw [if_neg h0, if_neg h0]
theorem pM_r29 (M : mM) (q : pS) (k : Nat) (v : Int32) : up2 (pM M q) 29 k v = pM M (q.1, q.2.1, q.2.2.1, q.2.2.2.1, q.2.2.2.2.1, q.2.2.2.2.2.1, q.2.2.2.2.2.2.1, q.2.2.2.2.2.2.2.1, va_up (q.2.2.2.2.2.2.2.2.1) k v, q.2.2.2.2.2.2.2.2.2) := by
  funext y j
  by_cases h0 : y = 29
  · subst h0
    rw [up2_r]
    rfl
  · rw [up2_row h0]
    unfold pM
    by_cases h1 : y = 0
    · rw [if_pos h1, if_pos h1]
    · rw [if_neg h1, if_neg h1]
      by_cases h2 : y = 29
      · exact absurd h2 h0
      · rw [if_neg h2, if_neg h2]

theorem pM_r30 (M : mM) (q : pS) (k : Nat) (v : Int32) : up2 (pM M q) 30 k v = pM M (q.1, q.2.1, q.2.2.1, q.2.2.2.1, q.2.2.2.2.1, q.2.2.2.2.2.1, q.2.2.2.2.2.2.1, q.2.2.2.2.2.2.2.1, q.2.2.2.2.2.2.2.2.1, va_up (q.2.2.2.2.2.2.2.2.2) k v) := by
  funext y j
  by_cases h0 : y = 30
  · subst h0
    rw [up2_r]
    rfl
  · rw [up2_row h0]
    unfold pM
    by_cases h1 : y = 0
    · rw [if_pos h1, if_pos h1]
    · rw [if_neg h1, if_neg h1]
      by_cases h2 : y = 29
      · rw [if_pos h2, if_pos h2]
      · rw [if_neg h2, if_neg h2]
        rw [if_neg h0, if_neg h0]
/-- blanks are passed over -/
abbrev bkP (M : mM) (a : Nat) : Prop := M 1 a = 10 ∨ M 1 a = 32
def skF (M : mM) : Nat → Nat → Nat
  | 0, a => a
  | k + 1, a => if bkP M a then skF M k (a + 1) else a
def skb (M : mM) (L a : Nat) : Nat := skF M (L - a) a
def lkV (M : mM) (L a : Nat) : Int32 := if skb M L a < L then M 1 (skb M L a) else -1
theorem skF_le (M : mM) : ∀ k a, a ≤ skF M k a ∧ skF M k a ≤ a + k
  | 0, a => ⟨Nat.le_refl _, Nat.le_refl _⟩
  | k + 1, a => by
    unfold skF
    split
    · have := skF_le M k (a + 1)
      omega
    · omega
theorem skb_le {M : mM} {L a : Nat} : a ≤ skb M L a ∧ (a ≤ L → skb M L a ≤ L) := by
  have := skF_le M (L - a) a
  unfold skb
  omega
/-- the end of a run -/
abbrev ltP (M : mM) (a : Nat) : Prop := 97 ≤ M 1 a ∧ M 1 a ≤ 122
def rnF (M : mM) : Nat → Nat → Nat
  | 0, a => a
  | k + 1, a => if ltP M a then rnF M k (a + 1) else a
def rnE (M : mM) (L a : Nat) : Nat := rnF M (L - a) a
theorem rnF_le (M : mM) : ∀ k a, a ≤ rnF M k a ∧ rnF M k a ≤ a + k
  | 0, a => ⟨Nat.le_refl _, Nat.le_refl _⟩
  | k + 1, a => by
    unfold rnF
    split
    · have := rnF_le M k (a + 1)
      omega
    · omega
/-- a word stands at p -/
def hrP (M : mM) (L p l : Nat) (f : Nat → Int32) : Bool := decide (rnE M L p = p + l) && !anyb (fun j => decide (¬ M 1 (p + j) = f j)) l
/-- takes the word -/
def hrQ (M : mM) (L : Nat) (q : pS) (l : Nat) (f : Nat → Int32) : Bool := if q.2.2.1 = 0 then (if 97 ≤ lkV M L q.1 ∧ lkV M L q.1 ≤ 122 then (if nI (skb M L q.1) = q.2.1 then false else hrP M L (skb M L q.1) l f) else false) else false
def hrS (M : mM) (L : Nat) (q : pS) : pS := if q.2.2.1 = 0 then (skb M L q.1, q.2) else q
def tkS9 (M : mM) (L : Nat) (q : pS) (l : Nat) (f : Nat → Int32) : pS := if hrQ M L q l f = true then (skb M L q.1 + l, nI (skb M L q.1 + l), q.2.2) else hrS M L q
def flS9 (q : pS) (k p : Int32) : pS := if q.2.2.1 = 0 then (q.1, q.2.1, k, p, q.2.2.2.2) else q
def asS9 (M : mM) (L : Nat) (q : pS) (l : Nat) (f : Nat → Int32) : pS := if q.2.2.1 = 0 then (if hrQ M L q l f = true then tkS9 M L q l f else flS9 (hrS M L q) 1 (nI (hrS M L q).1)) else q
def tgQ (M : mM) (L : Nat) (q : pS) (c : Int32) : Bool := if q.2.2.1 = 0 then decide (lkV M L q.1 = c) else false
def tgS (M : mM) (L : Nat) (q : pS) (c : Int32) : pS := if q.2.2.1 = 0 then (if lkV M L q.1 = c then (skb M L q.1 + 1, q.2) else (skb M L q.1, q.2)) else q
def agS (M : mM) (L : Nat) (q : pS) (c : Int32) : pS := if q.2.2.1 = 0 then (if tgQ M L q c = true then tgS M L q c else flS9 (tgS M L q c) 1 (nI (tgS M L q c).1)) else q
theorem e_X12_fail (E : gE) {d : Nat} (k p : Int32) (h : hp_T) (hG : gr h) (M : mM) (N : mN) (aT : Nat) (eN bD bP : Int32) (cD wT : Nat) (oP : Int32) (bS : Nat) (cS wS : Nat → Int32) : ev E mX12_fail d [.ref (E.1 + 247), .int k, .int p] (hm h (pM M (aT, eN, bD, bP, cD, wT, oP, bS, cS, wS)) N) none (hm h (pM M (flS9 (aT, eN, bD, bP, cD, wT, oP, bS, cS, wS) k p)) N) := by
  refine ev_of rfl (fun q => absurd q (by decide)) (Nat.le_of_ble_eq_true rfl) ?_
  refine gf_aload_n 0 dX12_fail_0 rfl rfl ?_
  refine gf_getI flX12_285 rfl dX12_fail_1 (gt_247 hG) ?_
  rw [show hp_i (hm h (pM M (aT, eN, bD, bP, cD, wT, oP, bS, cS, wS)) N) 247 5 = bD from rfl]
  refine gf_if_eq 8 dX12_fail_4 rfl (fun zc4 => ?_) (fun zc4 => ?_)
  · refine gf_aload_n 0 dX12_fail_8 rfl rfl ?_
    refine gf_iload_n 1 dX12_fail_9 rfl rfl ?_
    refine gf_putI flX12_285 rfl rfl dX12_fail_10 (gt_247 hG) ⟨rfl, rfl⟩ ?_
    rw [mI_0, pM_5]
    refine gf_aload_n 0 dX12_fail_13 rfl rfl ?_
    refine gf_iload_n 2 dX12_fail_14 rfl rfl ?_
    refine gf_putI flX12_288 rfl rfl dX12_fail_15 (gt_247 hG) ⟨rfl, rfl⟩ ?_
    rw [mI_0, pM_6]
    exact gf_vretE dX12_fail_18 rfl (by rw [show flS9 (aT, eN, bD, bP, cD, wT, oP, bS, cS, wS) k p = (aT, eN, k, p, cD, wT, oP, bS, cS, wS) from if_pos zc4]; first | done | rfl)
  · exact gf_vretE dX12_fail_7 rfl (by rw [show flS9 (aT, eN, bD, bP, cD, wT, oP, bS, cS, wS) k p = (aT, eN, bD, bP, cD, wT, oP, bS, cS, wS) from if_neg zc4]; first | done | rfl)
theorem e_X12_isLetter (E : gE) {d : Nat} (c : Int32) (h : hp_T) : ev E mX12_isLetter d [.int c] h (some (.int (zb (97 ≤ c ∧ c ≤ 122)))) h := by
  refine ev_of rfl (fun q => absurd q (by decide)) (Nat.le_of_ble_eq_true rfl) ?_
  refine gf_iload_n 0 dX12_isLetter_0 rfl rfl ?_
  refine gf_bipush (97) dX12_isLetter_1 rfl ?_
  refine gf_icmp_lt 16 dX12_isLetter_3 rfl (fun zc3 => ?_) (fun zc3 => ?_)
  · refine gf_iconst (0) dX12_isLetter_16 rfl ?_
    exact gf_zretE dX12_isLetter_17 rfl (rfl) ((zb_f (fun w => by have q := zc3; rw [fa_lt] at q; have w1 := w.1; rw [fa_le] at w1; omega)).symm) (rfl)
  · refine gf_iload_n 0 dX12_isLetter_6 rfl rfl ?_
    refine gf_bipush (122) dX12_isLetter_7 rfl ?_
    refine gf_icmp_gt 16 dX12_isLetter_9 rfl (fun zc9 => ?_) (fun zc9 => ?_)
    · refine gf_iconst (0) dX12_isLetter_16 rfl ?_
      exact gf_zretE dX12_isLetter_17 rfl (rfl) ((zb_f (fun w => by have q := zc9; rw [fa_lt] at q; have w1 := w.2; rw [fa_le] at w1; omega)).symm) (rfl)
    · refine gf_iconst (1) dX12_isLetter_12 rfl ?_
      refine gf_goto 17 dX12_isLetter_13 rfl ?_
      exact gf_zretE dX12_isLetter_17 rfl (rfl) ((zb_t ⟨by rw [fa_le]; have q := zc3; rw [fa_lt] at q; omega, by rw [fa_le]; have q := zc9; rw [fa_lt] at q; omega⟩).symm) (rfl)
theorem e_X12_isDigit (E : gE) {d : Nat} (c : Int32) (h : hp_T) : ev E mX12_isDigit d [.int c] h (some (.int (zb (48 ≤ c ∧ c ≤ 57)))) h := by
  refine ev_of rfl (fun q => absurd q (by decide)) (Nat.le_of_ble_eq_true rfl) ?_
  refine gf_iload_n 0 dX12_isDigit_0 rfl rfl ?_
  refine gf_bipush (48) dX12_isDigit_1 rfl ?_
  refine gf_icmp_lt 16 dX12_isDigit_3 rfl (fun zc3 => ?_) (fun zc3 => ?_)
  · refine gf_iconst (0) dX12_isDigit_16 rfl ?_
    exact gf_zretE dX12_isDigit_17 rfl (rfl) ((zb_f (fun w => by have q := zc3; rw [fa_lt] at q; have w1 := w.1; rw [fa_le] at w1; omega)).symm) (rfl)
  · refine gf_iload_n 0 dX12_isDigit_6 rfl rfl ?_
    refine gf_bipush (57) dX12_isDigit_7 rfl ?_
    refine gf_icmp_gt 16 dX12_isDigit_9 rfl (fun zc9 => ?_) (fun zc9 => ?_)
    · refine gf_iconst (0) dX12_isDigit_16 rfl ?_
      exact gf_zretE dX12_isDigit_17 rfl (rfl) ((zb_f (fun w => by have q := zc9; rw [fa_lt] at q; have w1 := w.2; rw [fa_le] at w1; omega)).symm) (rfl)
    · refine gf_iconst (1) dX12_isDigit_12 rfl ?_
      refine gf_goto 17 dX12_isDigit_13 rfl ?_
      exact gf_zretE dX12_isDigit_17 rfl (rfl) ((zb_t ⟨by rw [fa_le]; have q := zc3; rw [fa_lt] at q; omega, by rw [fa_le]; have q := zc9; rw [fa_lt] at q; omega⟩).symm) (rfl)
theorem l_look (E : gE) {d : Nat} {L : Nat} (h : hp_T) (hG : gr h) (M : mM) (N : mN) (T : tpI M L) (aT : Nat) (eN bD bP : Int32) (cD wT : Nat) (oP : Int32) (bS : Nat) (cS wS : Nat → Int32) : ∀ (kz a : Nat), a + kz = L → gf E mX12_look d 0 [(0, .ref (E.1 + 247))] [] (hm h (pM M (a, eN, bD, bP, cD, wT, oP, bS, cS, wS)) N) (some (.int (if skF M kz a < L then M 1 (skF M kz a) else -1))) (hm h (pM M ((skF M kz a), eN, bD, bP, cD, wT, oP, bS, cS, wS)) N) := by
  have hL6 := T.2.1
  intro kz
  induction kz with
  | zero =>
    intro a hj
    refine gf_aload_n 0 dX12_look_0 rfl rfl ?_
    refine gf_getI flX12_291 rfl dX12_look_1 (gt_247 hG) ?_
    rw [show hp_i (hm h (pM M (a, eN, bD, bP, cD, wT, oP, bS, cS, wS)) N) 247 2 = (nI a) from rfl]
    refine gf_aload_n 0 dX12_look_4 rfl rfl ?_
    refine gf_getI flX12_294 rfl dX12_look_5 (gt_247 hG) ?_
    rw [show hp_i (hm h (pM M (a, eN, bD, bP, cD, wT, oP, bS, cS, wS)) N) 247 3 = nI L from T.1]
    refine gf_icmp_ge 52 dX12_look_8 rfl (fun _ => ?_) (fun q => absurd (nI_le (by omega) (by omega)) q)
    refine gf_aload_n 0 dX12_look_52 rfl rfl ?_
    refine gf_getI flX12_291 rfl dX12_look_53 (gt_247 hG) ?_
    rw [show hp_i (hm h (pM M (a, eN, bD, bP, cD, wT, oP, bS, cS, wS)) N) 247 2 = (nI a) from rfl]
    refine gf_aload_n 0 dX12_look_56 rfl rfl ?_
    refine gf_getI flX12_294 rfl dX12_look_57 (gt_247 hG) ?_
    rw [show hp_i (hm h (pM M (a, eN, bD, bP, cD, wT, oP, bS, cS, wS)) N) 247 3 = nI L from T.1]
    refine gf_icmp_ge 75 dX12_look_60 rfl (fun _ => ?_) (fun q => absurd (nI_le (by omega) (by omega)) q)
    refine gf_iconst (-1) dX12_look_75 rfl ?_
    exact gf_iretE dX12_look_76 rfl ((if_neg (by show ¬ a < L; omega)).symm) (rfl)
  | succ kz ih =>
    intro a hj
    refine gf_aload_n 0 dX12_look_0 rfl rfl ?_
    refine gf_getI flX12_291 rfl dX12_look_1 (gt_247 hG) ?_
    rw [show hp_i (hm h (pM M (a, eN, bD, bP, cD, wT, oP, bS, cS, wS)) N) 247 2 = (nI a) from rfl]
    refine gf_aload_n 0 dX12_look_4 rfl rfl ?_
    refine gf_getI flX12_294 rfl dX12_look_5 (gt_247 hG) ?_
    rw [show hp_i (hm h (pM M (a, eN, bD, bP, cD, wT, oP, bS, cS, wS)) N) 247 3 = nI L from T.1]
    refine gf_icmp_ge 52 dX12_look_8 rfl (fun q => absurd q (nI_ge (by omega) (by omega))) (fun _ => ?_)
    refine gf_aload_n 0 dX12_look_11 rfl rfl ?_
    refine gf_getR flX12_7 rfl dX12_look_12 (gt_247 hG) (gp_247_0 hG) ?_
    refine gf_aload_n 0 dX12_look_15 rfl rfl ?_
    refine gf_getI flX12_291 rfl dX12_look_16 (gt_247 hG) ?_
    rw [show hp_i (hm h (pM M (a, eN, bD, bP, cD, wT, oP, bS, cS, wS)) N) 247 2 = (nI a) from rfl]
    refine gf_iald 600 dX12_look_19 (gt_248 hG) (gl_248 hG) rfl (by omega) (by decide) ?_
    refine gf_bipush (10) dX12_look_20 rfl ?_
    refine gf_icmp_eq 39 dX12_look_22 rfl (fun zc22 => ?_) (fun zc22 => ?_)
    · refine gf_aload_n 0 dX12_look_39 rfl rfl ?_
      refine gf_dup dX12_look_40 rfl ?_
      refine gf_getI flX12_291 rfl dX12_look_41 (gt_247 hG) ?_
      rw [show hp_i (hm h (pM M (a, eN, bD, bP, cD, wT, oP, bS, cS, wS)) N) 247 2 = (nI a) from rfl]
      refine gf_iconst (1) dX12_look_44 rfl ?_
      refine gf_iadd dX12_look_45 ?_
      rw [nI_1 a]
      refine gf_putI flX12_291 rfl rfl dX12_look_46 (gt_247 hG) ⟨rfl, rfl⟩ ?_
      rw [mI_0, pM_2]
      refine gf_goto 0 dX12_look_49 rfl ?_
      rw [show skF M (kz + 1) a = skF M kz (a + 1) from if_pos (Or.inl zc22)]
      exact gf_lw (ih (a + 1) (by omega)) ⟨rfl, trivial⟩
    · refine gf_aload_n 0 dX12_look_25 rfl rfl ?_
      refine gf_getR flX12_7 rfl dX12_look_26 (gt_247 hG) (gp_247_0 hG) ?_
      refine gf_aload_n 0 dX12_look_29 rfl rfl ?_
      refine gf_getI flX12_291 rfl dX12_look_30 (gt_247 hG) ?_
      rw [show hp_i (hm h (pM M (a, eN, bD, bP, cD, wT, oP, bS, cS, wS)) N) 247 2 = (nI a) from rfl]
      refine gf_iald 600 dX12_look_33 (gt_248 hG) (gl_248 hG) rfl (by omega) (by decide) ?_
      refine gf_bipush (32) dX12_look_34 rfl ?_
      refine gf_icmp_ne 52 dX12_look_36 rfl (fun zc36 => ?_) (fun zc36 => ?_)
      · refine gf_aload_n 0 dX12_look_52 rfl rfl ?_
        refine gf_getI flX12_291 rfl dX12_look_53 (gt_247 hG) ?_
        rw [show hp_i (hm h (pM M (a, eN, bD, bP, cD, wT, oP, bS, cS, wS)) N) 247 2 = (nI a) from rfl]
        refine gf_aload_n 0 dX12_look_56 rfl rfl ?_
        refine gf_getI flX12_294 rfl dX12_look_57 (gt_247 hG) ?_
        rw [show hp_i (hm h (pM M (a, eN, bD, bP, cD, wT, oP, bS, cS, wS)) N) 247 3 = nI L from T.1]
        refine gf_icmp_ge 75 dX12_look_60 rfl (fun q => absurd q (nI_ge (by omega) (by omega))) (fun _ => ?_)
        refine gf_aload_n 0 dX12_look_63 rfl rfl ?_
        refine gf_getR flX12_7 rfl dX12_look_64 (gt_247 hG) (gp_247_0 hG) ?_
        refine gf_aload_n 0 dX12_look_67 rfl rfl ?_
        refine gf_getI flX12_291 rfl dX12_look_68 (gt_247 hG) ?_
        rw [show hp_i (hm h (pM M (a, eN, bD, bP, cD, wT, oP, bS, cS, wS)) N) 247 2 = (nI a) from rfl]
        refine gf_iald 600 dX12_look_71 (gt_248 hG) (gl_248 hG) rfl (by omega) (by decide) ?_
        refine gf_goto 76 dX12_look_72 rfl ?_
        exact gf_iretE dX12_look_76 rfl (by rw [show skF M (kz + 1) a = a from if_neg (fun q => Or.elim q zc22 zc36), if_pos (show a < L by omega)]; rfl) (by rw [show skF M (kz + 1) a = a from if_neg (fun q => Or.elim q zc22 zc36)])
      · refine gf_aload_n 0 dX12_look_39 rfl rfl ?_
        refine gf_dup dX12_look_40 rfl ?_
        refine gf_getI flX12_291 rfl dX12_look_41 (gt_247 hG) ?_
        rw [show hp_i (hm h (pM M (a, eN, bD, bP, cD, wT, oP, bS, cS, wS)) N) 247 2 = (nI a) from rfl]
        refine gf_iconst (1) dX12_look_44 rfl ?_
        refine gf_iadd dX12_look_45 ?_
        rw [nI_1 a]
        refine gf_putI flX12_291 rfl rfl dX12_look_46 (gt_247 hG) ⟨rfl, rfl⟩ ?_
        rw [mI_0, pM_2]
        refine gf_goto 0 dX12_look_49 rfl ?_
        rw [show skF M (kz + 1) a = skF M kz (a + 1) from if_pos (Or.inr zc36)]
        exact gf_lw (ih (a + 1) (by omega)) ⟨rfl, trivial⟩
theorem e_X12_look (E : gE) {d : Nat} {L : Nat} (h : hp_T) (hG : gr h) (M : mM) (N : mN) (T : tpI M L) (aT : Nat) (eN bD bP : Int32) (cD wT : Nat) (oP : Int32) (bS : Nat) (cS wS : Nat → Int32) (ha : aT ≤ L) : ev E mX12_look d [.ref (E.1 + 247)] (hm h (pM M (aT, eN, bD, bP, cD, wT, oP, bS, cS, wS)) N) (some (.int (lkV M L aT))) (hm h (pM M ((skb M L aT), eN, bD, bP, cD, wT, oP, bS, cS, wS)) N) := by
  refine ev_of rfl (fun q => absurd q (by decide)) (Nat.le_of_ble_eq_true rfl) ?_
  exact gf_lw (l_look E h hG M N T aT eN bD bP cD wT oP bS cS wS (L - aT) aT (by omega)) ⟨rfl, trivial⟩
theorem l_hr1 (E : gE) {d : Nat} (hd : 1 ≤ d) {L : Nat} (h : hp_T) (hG : gr h) (M : mM) (N : mN) (T : tpI M L) (aT : Nat) (eN bD bP : Int32) (cD wT : Nat) (oP : Int32) (bS : Nat) (cS wS : Nat → Int32) {A l : Nat} {f : Nat → Int32} (hWt : hp_tag h A = 13) (hWl : hp_len h A = l) (hWc : ∀ (q : pS) (j : Nat), hp_i (hm h (pM M q) N) A j = f j) (hl : l ≤ 20) (p : Nat) {v : Option Value} {hz : hp_T} : ∀ (kz a : Nat), a + kz = L → gf E mX12_isHere d 61 [(0, .ref (E.1 + 247)), (1, .ref (E.1 + A)), (2, .int (nI (rnF M kz a)))] [] (hm h (pM M (p, eN, bD, bP, cD, wT, oP, bS, cS, wS)) N) v hz → gf E mX12_isHere d 35 [(0, .ref (E.1 + 247)), (1, .ref (E.1 + A)), (2, .int (nI a))] [] (hm h (pM M (p, eN, bD, bP, cD, wT, oP, bS, cS, wS)) N) v hz := by
  have hL6 := T.2.1
  intro kz
  induction kz with
  | zero =>
    intro a hj K
    refine gf_iload_n 2 dX12_isHere_35 rfl rfl ?_
    refine gf_aload_n 0 dX12_isHere_36 rfl rfl ?_
    refine gf_getI flX12_294 rfl dX12_isHere_37 (gt_247 hG) ?_
    rw [show hp_i (hm h (pM M (p, eN, bD, bP, cD, wT, oP, bS, cS, wS)) N) 247 3 = nI L from T.1]
    refine gf_icmp_ge 61 dX12_isHere_40 rfl (fun _ => ?_) (fun q => absurd (nI_le (by omega) (by omega)) q)
    exact gf_lw K ⟨rfl, rfl, rfl, trivial⟩
  | succ kz ih =>
    intro a hj K
    refine gf_iload_n 2 dX12_isHere_35 rfl rfl ?_
    refine gf_aload_n 0 dX12_isHere_36 rfl rfl ?_
    refine gf_getI flX12_294 rfl dX12_isHere_37 (gt_247 hG) ?_
    rw [show hp_i (hm h (pM M (p, eN, bD, bP, cD, wT, oP, bS, cS, wS)) N) 247 3 = nI L from T.1]
    refine gf_icmp_ge 61 dX12_isHere_40 rfl (fun q => absurd q (nI_ge (by omega) (by omega))) (fun _ => ?_)
    refine gf_aload_n 0 dX12_isHere_43 rfl rfl ?_
    refine gf_getR flX12_7 rfl dX12_isHere_44 (gt_247 hG) (gp_247_0 hG) ?_
    refine gf_iload_n 2 dX12_isHere_47 rfl rfl ?_
    refine gf_iald 600 dX12_isHere_48 (gt_248 hG) (gl_248 hG) rfl (by omega) (by decide) ?_
    refine gf_callS cmX12_isLetter lkX12_301 stX12_isLetter dX12_isHere_49 (d1 := d - 1) (by omega) (e_X12_isLetter E (M 1 a) _) rfl rfl (Nat.le_of_ble_eq_true rfl) ?_
    refine gf_if_eq 61 dX12_isHere_52 rfl (fun zc52 => ?_) (fun zc52 => ?_)
    · rw [show rnF M (kz + 1) a = a from if_neg (zb_0.mp zc52)] at K
      exact gf_lw K ⟨rfl, rfl, rfl, trivial⟩
    · refine gf_iinc (1) dX12_isHere_55 rfl rfl (Nat.le_of_ble_eq_true rfl) ?_
      rw [nI_1 a]
      refine gf_goto 35 dX12_isHere_58 rfl ?_
      rw [show rnF M (kz + 1) a = rnF M kz (a + 1) from if_pos (zb_1.mp zc52)] at K
      exact gf_lw (ih (a + 1) (by omega) K) ⟨rfl, rfl, rfl, trivial⟩
theorem l_hr2 (E : gE) {d : Nat} {L : Nat} (h : hp_T) (hG : gr h) (M : mM) (N : mN) (T : tpI M L) (aT : Nat) (eN bD bP : Int32) (cD wT : Nat) (oP : Int32) (bS : Nat) (cS wS : Nat → Int32) {A l : Nat} {f : Nat → Int32} (hWt : hp_tag h A = 13) (hWl : hp_len h A = l) (hWc : ∀ (q : pS) (j : Nat), hp_i (hm h (pM M q) N) A j = f j) (hl : l ≤ 20) (p : Nat) (k2 : Int32) (hp : p + l ≤ L) : ∀ (kz jz : Nat), jz + kz = l → (∀ i, i < jz → decide (¬ M 1 (p + i) = f i) = false) → gf E mX12_isHere d 76 [(0, .ref (E.1 + 247)), (1, .ref (E.1 + A)), (2, .int k2), (3, .int (nI jz))] [] (hm h (pM M (p, eN, bD, bP, cD, wT, oP, bS, cS, wS)) N) (some (.int (bI (!anyb (fun j => decide (¬ M 1 (p + j) = f j)) l)))) (hm h (pM M (p, eN, bD, bP, cD, wT, oP, bS, cS, wS)) N) := by
  have hL6 := T.2.1
  intro kz
  induction kz with
  | zero =>
    intro jz hj hno
    have hj : l = jz := by omega
    subst hj
    refine gf_iload_n 3 dX12_isHere_76 rfl rfl ?_
    refine gf_aload_n 1 dX12_isHere_77 rfl rfl ?_
    refine gf_alen l dX12_isHere_78 hWt (by decide) (by decide) hWl ?_
    refine gf_icmp_ge 107 dX12_isHere_79 rfl (fun _ => ?_) (fun q => absurd (Int32.le_refl _) q)
    refine gf_iconst (1) dX12_isHere_107 rfl ?_
    exact gf_bret dX12_isHere_108 rfl (by rw [anyb_no hno]; rfl) (rfl)
  | succ kz ih =>
    intro jz hj hno
    refine gf_iload_n 3 dX12_isHere_76 rfl rfl ?_
    refine gf_aload_n 1 dX12_isHere_77 rfl rfl ?_
    refine gf_alen l dX12_isHere_78 hWt (by decide) (by decide) hWl ?_
    refine gf_icmp_ge 107 dX12_isHere_79 rfl (fun q => absurd q (nI_ge (by omega) (by omega))) (fun _ => ?_)
    refine gf_aload_n 0 dX12_isHere_82 rfl rfl ?_
    refine gf_getR flX12_7 rfl dX12_isHere_83 (gt_247 hG) (gp_247_0 hG) ?_
    refine gf_aload_n 0 dX12_isHere_86 rfl rfl ?_
    refine gf_getI flX12_291 rfl dX12_isHere_87 (gt_247 hG) ?_
    rw [show hp_i (hm h (pM M (p, eN, bD, bP, cD, wT, oP, bS, cS, wS)) N) 247 2 = (nI p) from rfl]
    refine gf_iload_n 3 dX12_isHere_90 rfl rfl ?_
    refine gf_iadd dX12_isHere_91 ?_
    rw [nI_add p jz]
    refine gf_iald 600 dX12_isHere_92 (gt_248 hG) (gl_248 hG) rfl (by omega) (by decide) ?_
    refine gf_aload_n 1 dX12_isHere_93 rfl rfl ?_
    refine gf_iload_n 3 dX12_isHere_94 rfl rfl ?_
    refine gf_cald l dX12_isHere_95 hWt hWl rfl (by omega) (by omega) ?_
    rw [hWc _ jz]
    refine gf_icmp_eq 101 dX12_isHere_96 rfl (fun zc96 => ?_) (fun zc96 => ?_)
    · refine gf_iinc (1) dX12_isHere_101 rfl rfl (Nat.le_of_ble_eq_true rfl) ?_
      rw [nI_1 jz]
      refine gf_goto 76 dX12_isHere_104 rfl ?_
      exact gf_lw (ih (jz + 1) (by omega) (fun i hi => by rcases Nat.lt_succ_iff_lt_or_eq.mp hi with w9 | w9; exact hno i w9; rw [w9]; exact decide_eq_false (not_not_intro zc96))) ⟨rfl, rfl, rfl, rfl, trivial⟩
    · refine gf_iconst (0) dX12_isHere_99 rfl ?_
      exact gf_bret dX12_isHere_100 rfl (by rw [anyb_in (k := jz) (by omega) (decide_eq_true (show ¬ M 1 (p + jz) = f jz from zc96))]; rfl) (rfl)
theorem e_X12_isHere (E : gE) {d : Nat} (hd : 1 ≤ d) {L : Nat} (h : hp_T) (hG : gr h) (M : mM) (N : mN) (T : tpI M L) (aT : Nat) (eN bD bP : Int32) (cD wT : Nat) (oP : Int32) (bS : Nat) (cS wS : Nat → Int32) {A l : Nat} {f : Nat → Int32} (hWt : hp_tag h A = 13) (hWl : hp_len h A = l) (hWc : ∀ (q : pS) (j : Nat), hp_i (hm h (pM M q) N) A j = f j) (hl : l ≤ 20) (ha : aT ≤ L) : ev E mX12_isHere d [.ref (E.1 + 247), .ref (E.1 + A)] (hm h (pM M (aT, eN, bD, bP, cD, wT, oP, bS, cS, wS)) N) (some (.int (bI (hrQ M L (aT, eN, bD, bP, cD, wT, oP, bS, cS, wS) l f)))) (hm h (pM M (hrS M L (aT, eN, bD, bP, cD, wT, oP, bS, cS, wS))) N) := by
  refine ev_of rfl (fun q => absurd q (by decide)) (Nat.le_of_ble_eq_true rfl) ?_
  have hL6 := T.2.1
  have hsk := skb_le (M := M) (L := L) (a := aT)
  have hrl := rnF_le M (L - skb M L aT) (skb M L aT)
  rw [show rnF M (L - skb M L aT) (skb M L aT) = rnE M L (skb M L aT) from rfl] at hrl
  refine gf_aload_n 0 dX12_isHere_0 rfl rfl ?_
  refine gf_getI flX12_285 rfl dX12_isHere_1 (gt_247 hG) ?_
  rw [show hp_i (hm h (pM M (aT, eN, bD, bP, cD, wT, oP, bS, cS, wS)) N) 247 5 = bD from rfl]
  refine gf_if_ne 28 dX12_isHere_4 rfl (fun zc4 => ?_) (fun zc4 => ?_)
  · refine gf_iconst (0) dX12_isHere_28 rfl ?_
    exact gf_bret dX12_isHere_29 rfl (by rw [show hrQ M L (aT, eN, bD, bP, cD, wT, oP, bS, cS, wS) l f = false from if_neg zc4]; rfl) (by rw [show hrS M L (aT, eN, bD, bP, cD, wT, oP, bS, cS, wS) = (aT, eN, bD, bP, cD, wT, oP, bS, cS, wS) from if_neg zc4])
  · refine gf_aload_n 0 dX12_isHere_7 rfl rfl ?_
    refine gf_callV cmX12_look lkX12_297 imX12_look seX12_look ⟨rfl, by decide⟩ dX12_isHere_8 (d1 := d - 1) (by omega) (gt_247 hG) (e_X12_look E h hG M N T aT eN bD bP cD wT oP bS cS wS (by omega)) rfl rfl (Nat.le_of_ble_eq_true rfl) ?_
    refine gf_callS cmX12_isLetter lkX12_301 stX12_isLetter dX12_isHere_11 (d1 := d - 1) (by omega) (e_X12_isLetter E (lkV M L aT) _) rfl rfl (Nat.le_of_ble_eq_true rfl) ?_
    refine gf_if_eq 28 dX12_isHere_14 rfl (fun zc14 => ?_) (fun zc14 => ?_)
    · refine gf_iconst (0) dX12_isHere_28 rfl ?_
      exact gf_bret dX12_isHere_29 rfl (by rw [show hrQ M L (aT, eN, bD, bP, cD, wT, oP, bS, cS, wS) l f = false from (if_pos zc4).trans (if_neg (zb_0.mp zc14))]; rfl) (by rw [show hrS M L (aT, eN, bD, bP, cD, wT, oP, bS, cS, wS) = ((skb M L aT), eN, bD, bP, cD, wT, oP, bS, cS, wS) from if_pos zc4])
    · refine gf_aload_n 0 dX12_isHere_17 rfl rfl ?_
      refine gf_getI flX12_291 rfl dX12_isHere_18 (gt_247 hG) ?_
      rw [show hp_i (hm h (pM M ((skb M L aT), eN, bD, bP, cD, wT, oP, bS, cS, wS)) N) 247 2 = (nI (skb M L aT)) from rfl]
      refine gf_aload_n 0 dX12_isHere_21 rfl rfl ?_
      refine gf_getI flX12_305 rfl dX12_isHere_22 (gt_247 hG) ?_
      rw [show hp_i (hm h (pM M ((skb M L aT), eN, bD, bP, cD, wT, oP, bS, cS, wS)) N) 247 4 = eN from rfl]
      refine gf_icmp_ne 30 dX12_isHere_25 rfl (fun zc25 => ?_) (fun zc25 => ?_)
      · refine gf_aload_n 0 dX12_isHere_30 rfl rfl ?_
        refine gf_getI flX12_291 rfl dX12_isHere_31 (gt_247 hG) ?_
        rw [show hp_i (hm h (pM M ((skb M L aT), eN, bD, bP, cD, wT, oP, bS, cS, wS)) N) 247 2 = (nI (skb M L aT)) from rfl]
        refine gf_istore_n 2 dX12_isHere_34 rfl (Nat.le_of_ble_eq_true rfl) ?_
        refine gf_lw (l_hr1 E (by omega) h hG M N T aT eN bD bP cD wT oP bS cS wS hWt hWl hWc hl (skb M L aT) (L - (skb M L aT)) (skb M L aT) (by omega) ?_) ⟨rfl, rfl, rfl, trivial⟩
        change gf _ _ _ _ [(0, .ref (E.1 + 247)), (1, .ref (E.1 + A)), (2, .int (nI (rnE M L (skb M L aT))))] _ _ _ _
        refine gf_iload_n 2 dX12_isHere_61 rfl rfl ?_
        refine gf_aload_n 0 dX12_isHere_62 rfl rfl ?_
        refine gf_getI flX12_291 rfl dX12_isHere_63 (gt_247 hG) ?_
        rw [show hp_i (hm h (pM M ((skb M L aT), eN, bD, bP, cD, wT, oP, bS, cS, wS)) N) 247 2 = (nI (skb M L aT)) from rfl]
        refine gf_isub dX12_isHere_66 ?_
        rw [show nI (rnE M L (skb M L aT)) - nI (skb M L aT) = nI (rnE M L (skb M L aT) - (skb M L aT)) from pk_sub (by omega)]
        refine gf_aload_n 1 dX12_isHere_67 rfl rfl ?_
        refine gf_alen l dX12_isHere_68 hWt (by decide) (by decide) hWl ?_
        refine gf_icmp_eq 74 dX12_isHere_69 rfl (fun zc69 => ?_) (fun zc69 => ?_)
        · have hrn : rnE M L (skb M L aT) = skb M L aT + l := by have q := (nI_eq (by omega) (by omega)).mp zc69; omega
          refine gf_iconst (0) dX12_isHere_74 rfl ?_
          refine gf_istore_n 3 dX12_isHere_75 rfl (Nat.le_of_ble_eq_true rfl) ?_
          rw [show hrQ M L (aT, eN, bD, bP, cD, wT, oP, bS, cS, wS) l f = !anyb (fun j => decide (¬ M 1 ((skb M L aT) + j) = f j)) l from (if_pos zc4).trans ((if_pos (zb_1.mp zc14)).trans ((if_neg zc25).trans (by unfold hrP; rw [decide_eq_true hrn]; rfl))), show hrS M L (aT, eN, bD, bP, cD, wT, oP, bS, cS, wS) = ((skb M L aT), eN, bD, bP, cD, wT, oP, bS, cS, wS) from if_pos zc4]
          exact gf_lw (l_hr2 E h hG M N T aT eN bD bP cD wT oP bS cS wS hWt hWl hWc hl (skb M L aT) _ (by omega) l 0 (by omega) (fun i hi => absurd hi (Nat.not_lt_zero i))) ⟨rfl, rfl, rfl, rfl, trivial⟩
        · have hrn : ¬ rnE M L (skb M L aT) = skb M L aT + l := fun q => zc69 (by rw [q, Nat.add_sub_cancel_left])
          refine gf_iconst (0) dX12_isHere_72 rfl ?_
          exact gf_bret dX12_isHere_73 rfl (by rw [show hrQ M L (aT, eN, bD, bP, cD, wT, oP, bS, cS, wS) l f = false from (if_pos zc4).trans ((if_pos (zb_1.mp zc14)).trans ((if_neg zc25).trans (by unfold hrP; rw [decide_eq_false hrn]; rfl)))]; rfl) (by rw [show hrS M L (aT, eN, bD, bP, cD, wT, oP, bS, cS, wS) = ((skb M L aT), eN, bD, bP, cD, wT, oP, bS, cS, wS) from if_pos zc4])
      · refine gf_iconst (0) dX12_isHere_28 rfl ?_
        exact gf_bret dX12_isHere_29 rfl (by rw [show hrQ M L (aT, eN, bD, bP, cD, wT, oP, bS, cS, wS) l f = false from (if_pos zc4).trans ((if_pos (zb_1.mp zc14)).trans (if_pos zc25))]; rfl) (by rw [show hrS M L (aT, eN, bD, bP, cD, wT, oP, bS, cS, wS) = ((skb M L aT), eN, bD, bP, cD, wT, oP, bS, cS, wS) from if_pos zc4])
theorem e_X12_takes (E : gE) {d : Nat} (hd : 2 ≤ d) {L : Nat} (h : hp_T) (hG : gr h) (M : mM) (N : mN) (T : tpI M L) (aT : Nat) (eN bD bP : Int32) (cD wT : Nat) (oP : Int32) (bS : Nat) (cS wS : Nat → Int32) {A l : Nat} {f : Nat → Int32} (hWt : hp_tag h A = 13) (hWl : hp_len h A = l) (hWc : ∀ (q : pS) (j : Nat), hp_i (hm h (pM M q) N) A j = f j) (hl : l ≤ 20) (ha : aT ≤ L) : ev E mX12_takes d [.ref (E.1 + 247), .ref (E.1 + A)] (hm h (pM M (aT, eN, bD, bP, cD, wT, oP, bS, cS, wS)) N) (some (.int (bI (hrQ M L (aT, eN, bD, bP, cD, wT, oP, bS, cS, wS) l f)))) (hm h (pM M (tkS9 M L (aT, eN, bD, bP, cD, wT, oP, bS, cS, wS) l f)) N) := by
  refine ev_of rfl (fun q => absurd q (by decide)) (Nat.le_of_ble_eq_true rfl) ?_
  refine gf_aload_n 0 dX12_takes_0 rfl rfl ?_
  refine gf_aload_n 1 dX12_takes_1 rfl rfl ?_
  refine gf_callV cmX12_isHere lkX12_308 imX12_isHere seX12_isHere ⟨rfl, by decide⟩ dX12_takes_2 (d1 := d - 1) (by omega) (gt_247 hG) (e_X12_isHere E (by omega) h hG M N T aT eN bD bP cD wT oP bS cS wS hWt hWl hWc hl ha) rfl rfl (Nat.le_of_ble_eq_true rfl) ?_
  refine gf_if_ne 10 dX12_takes_5 rfl (fun zc5 => ?_) (fun zc5 => ?_)
  · have hb0 : bD = 0 := by
      by_cases q : bD = 0
      · exact q
      · exact absurd (show (hrQ M L (aT, eN, bD, bP, cD, wT, oP, bS, cS, wS) l f) = false from if_neg q) (by rw [bI_t zc5]; decide)
    rw [show (hrS M L (aT, eN, bD, bP, cD, wT, oP, bS, cS, wS)) = ((skb M L aT), eN, bD, bP, cD, wT, oP, bS, cS, wS) from if_pos hb0]
    refine gf_aload_n 0 dX12_takes_10 rfl rfl ?_
    refine gf_dup dX12_takes_11 rfl ?_
    refine gf_getI flX12_291 rfl dX12_takes_12 (gt_247 hG) ?_
    rw [show hp_i (hm h (pM M ((skb M L aT), eN, bD, bP, cD, wT, oP, bS, cS, wS)) N) 247 2 = (nI (skb M L aT)) from rfl]
    refine gf_aload_n 1 dX12_takes_15 rfl rfl ?_
    refine gf_alen l dX12_takes_16 hWt (by decide) (by decide) hWl ?_
    refine gf_iadd dX12_takes_17 ?_
    rw [nI_add (skb M L aT) l]
    refine gf_putI flX12_291 rfl rfl dX12_takes_18 (gt_247 hG) ⟨rfl, rfl⟩ ?_
    rw [mI_0, pM_2]
    refine gf_aload_n 0 dX12_takes_21 rfl rfl ?_
    refine gf_aload_n 0 dX12_takes_22 rfl rfl ?_
    refine gf_getI flX12_291 rfl dX12_takes_23 (gt_247 hG) ?_
    rw [show hp_i (hm h (pM M (((skb M L aT) + l), eN, bD, bP, cD, wT, oP, bS, cS, wS)) N) 247 2 = (nI ((skb M L aT) + l)) from rfl]
    refine gf_putI flX12_305 rfl rfl dX12_takes_26 (gt_247 hG) ⟨rfl, rfl⟩ ?_
    rw [mI_0, pM_4]
    refine gf_iconst (1) dX12_takes_29 rfl ?_
    exact gf_bret dX12_takes_30 rfl (by rw [bI_t zc5]; rfl) (by rw [show tkS9 M L (aT, eN, bD, bP, cD, wT, oP, bS, cS, wS) l f = (((skb M L aT) + l), (nI ((skb M L aT) + l)), bD, bP, cD, wT, oP, bS, cS, wS) from if_pos (bI_t zc5)])
  · refine gf_iconst (0) dX12_takes_8 rfl ?_
    exact gf_bret dX12_takes_9 rfl (by rw [bI_f zc5]; rfl) (by rw [show tkS9 M L (aT, eN, bD, bP, cD, wT, oP, bS, cS, wS) l f = (hrS M L (aT, eN, bD, bP, cD, wT, oP, bS, cS, wS)) from if_neg (by rw [bI_f zc5]; decide)])
theorem e_X12_asks (E : gE) {d : Nat} (hd : 3 ≤ d) {L : Nat} (h : hp_T) (hG : gr h) (M : mM) (N : mN) (T : tpI M L) (aT : Nat) (eN bD bP : Int32) (cD wT : Nat) (oP : Int32) (bS : Nat) (cS wS : Nat → Int32) {A l : Nat} {f : Nat → Int32} (hWt : hp_tag h A = 13) (hWl : hp_len h A = l) (hWc : ∀ (q : pS) (j : Nat), hp_i (hm h (pM M q) N) A j = f j) (hl : l ≤ 20) (ha : aT ≤ L) : ev E mX12_asks d [.ref (E.1 + 247), .ref (E.1 + A)] (hm h (pM M (aT, eN, bD, bP, cD, wT, oP, bS, cS, wS)) N) none (hm h (pM M (asS9 M L (aT, eN, bD, bP, cD, wT, oP, bS, cS, wS) l f)) N) := by
  refine ev_of rfl (fun q => absurd q (by decide)) (Nat.le_of_ble_eq_true rfl) ?_
  refine gf_aload_n 0 dX12_asks_0 rfl rfl ?_
  refine gf_getI flX12_285 rfl dX12_asks_1 (gt_247 hG) ?_
  rw [show hp_i (hm h (pM M (aT, eN, bD, bP, cD, wT, oP, bS, cS, wS)) N) 247 5 = bD from rfl]
  refine gf_if_ne 24 dX12_asks_4 rfl (fun zc4 => ?_) (fun zc4 => ?_)
  · exact gf_vretE dX12_asks_24 rfl (by rw [show asS9 M L (aT, eN, bD, bP, cD, wT, oP, bS, cS, wS) l f = (aT, eN, bD, bP, cD, wT, oP, bS, cS, wS) from if_neg zc4])
  · refine gf_aload_n 0 dX12_asks_7 rfl rfl ?_
    refine gf_aload_n 1 dX12_asks_8 rfl rfl ?_
    refine gf_callV cmX12_takes lkX12_312 imX12_takes seX12_takes ⟨rfl, by decide⟩ dX12_asks_9 (d1 := d - 1) (by omega) (gt_247 hG) (e_X12_takes E (by omega) h hG M N T aT eN bD bP cD wT oP bS cS wS hWt hWl hWc hl ha) rfl rfl (Nat.le_of_ble_eq_true rfl) ?_
    refine gf_if_ne 24 dX12_asks_12 rfl (fun zc12 => ?_) (fun zc12 => ?_)
    · exact gf_vretE dX12_asks_24 rfl (by rw [show asS9 M L (aT, eN, bD, bP, cD, wT, oP, bS, cS, wS) l f = (tkS9 M L (aT, eN, bD, bP, cD, wT, oP, bS, cS, wS) l f) from (if_pos zc4).trans (if_pos (bI_t zc12))])
    · rw [show (tkS9 M L (aT, eN, bD, bP, cD, wT, oP, bS, cS, wS) l f) = (hrS M L (aT, eN, bD, bP, cD, wT, oP, bS, cS, wS)) from if_neg (by rw [bI_f zc12]; decide)]
      refine gf_aload_n 0 dX12_asks_15 rfl rfl ?_
      refine gf_iconst (1) dX12_asks_16 rfl ?_
      refine gf_aload_n 0 dX12_asks_17 rfl rfl ?_
      refine gf_getI flX12_291 rfl dX12_asks_18 (gt_247 hG) ?_
      rw [show hp_i (hm h (pM M (hrS M L (aT, eN, bD, bP, cD, wT, oP, bS, cS, wS))) N) 247 2 = (nI ((hrS M L (aT, eN, bD, bP, cD, wT, oP, bS, cS, wS)).1)) from rfl]
      refine gf_callV cmX12_fail lkX12_315 imX12_fail seX12_fail ⟨rfl, by decide⟩ dX12_asks_21 (d1 := d - 1) (by omega) (gt_247 hG) (e_X12_fail E 1 (nI ((hrS M L (aT, eN, bD, bP, cD, wT, oP, bS, cS, wS)).1)) h hG M N ((hrS M L (aT, eN, bD, bP, cD, wT, oP, bS, cS, wS)).1) ((hrS M L (aT, eN, bD, bP, cD, wT, oP, bS, cS, wS)).2.1) ((hrS M L (aT, eN, bD, bP, cD, wT, oP, bS, cS, wS)).2.2.1) ((hrS M L (aT, eN, bD, bP, cD, wT, oP, bS, cS, wS)).2.2.2.1) ((hrS M L (aT, eN, bD, bP, cD, wT, oP, bS, cS, wS)).2.2.2.2.1) ((hrS M L (aT, eN, bD, bP, cD, wT, oP, bS, cS, wS)).2.2.2.2.2.1) ((hrS M L (aT, eN, bD, bP, cD, wT, oP, bS, cS, wS)).2.2.2.2.2.2.1) ((hrS M L (aT, eN, bD, bP, cD, wT, oP, bS, cS, wS)).2.2.2.2.2.2.2.1) ((hrS M L (aT, eN, bD, bP, cD, wT, oP, bS, cS, wS)).2.2.2.2.2.2.2.2.1) ((hrS M L (aT, eN, bD, bP, cD, wT, oP, bS, cS, wS)).2.2.2.2.2.2.2.2.2)) rfl rfl (Nat.le_of_ble_eq_true rfl) ?_
      exact gf_vretE dX12_asks_24 rfl (by rw [show asS9 M L (aT, eN, bD, bP, cD, wT, oP, bS, cS, wS) l f = (flS9 (hrS M L (aT, eN, bD, bP, cD, wT, oP, bS, cS, wS)) 1 (nI ((hrS M L (aT, eN, bD, bP, cD, wT, oP, bS, cS, wS)).1))) from (if_pos zc4).trans (if_neg (by rw [bI_f zc12]; decide))])
theorem e_X12_takesSign (E : gE) {d : Nat} (hd : 1 ≤ d) {L : Nat} (h : hp_T) (hG : gr h) (M : mM) (N : mN) (T : tpI M L) (aT : Nat) (eN bD bP : Int32) (cD wT : Nat) (oP : Int32) (bS : Nat) (cS wS : Nat → Int32) (c : Int32) (ha : aT ≤ L) : ev E mX12_takesSign d [.ref (E.1 + 247), .int c] (hm h (pM M (aT, eN, bD, bP, cD, wT, oP, bS, cS, wS)) N) (some (.int (bI (tgQ M L (aT, eN, bD, bP, cD, wT, oP, bS, cS, wS) c)))) (hm h (pM M (tgS M L (aT, eN, bD, bP, cD, wT, oP, bS, cS, wS) c)) N) := by
  refine ev_of rfl (fun q => absurd q (by decide)) (Nat.le_of_ble_eq_true rfl) ?_
  refine gf_aload_n 0 dX12_takesSign_0 rfl rfl ?_
  refine gf_getI flX12_285 rfl dX12_takesSign_1 (gt_247 hG) ?_
  rw [show hp_i (hm h (pM M (aT, eN, bD, bP, cD, wT, oP, bS, cS, wS)) N) 247 5 = bD from rfl]
  refine gf_if_ne 15 dX12_takesSign_4 rfl (fun zc4 => ?_) (fun zc4 => ?_)
  · refine gf_iconst (0) dX12_takesSign_15 rfl ?_
    exact gf_bret dX12_takesSign_16 rfl (by rw [show tgQ M L (aT, eN, bD, bP, cD, wT, oP, bS, cS, wS) c = false from if_neg zc4]; rfl) (by rw [show tgS M L (aT, eN, bD, bP, cD, wT, oP, bS, cS, wS) c = (aT, eN, bD, bP, cD, wT, oP, bS, cS, wS) from if_neg zc4])
  · refine gf_aload_n 0 dX12_takesSign_7 rfl rfl ?_
    refine gf_callV cmX12_look lkX12_297 imX12_look seX12_look ⟨rfl, by decide⟩ dX12_takesSign_8 (d1 := d - 1) (by omega) (gt_247 hG) (e_X12_look E h hG M N T aT eN bD bP cD wT oP bS cS wS (by omega)) rfl rfl (Nat.le_of_ble_eq_true rfl) ?_
    refine gf_iload_n 1 dX12_takesSign_11 rfl rfl ?_
    refine gf_icmp_eq 17 dX12_takesSign_12 rfl (fun zc12 => ?_) (fun zc12 => ?_)
    · refine gf_aload_n 0 dX12_takesSign_17 rfl rfl ?_
      refine gf_dup dX12_takesSign_18 rfl ?_
      refine gf_getI flX12_291 rfl dX12_takesSign_19 (gt_247 hG) ?_
      rw [show hp_i (hm h (pM M ((skb M L aT), eN, bD, bP, cD, wT, oP, bS, cS, wS)) N) 247 2 = (nI (skb M L aT)) from rfl]
      refine gf_iconst (1) dX12_takesSign_22 rfl ?_
      refine gf_iadd dX12_takesSign_23 ?_
      rw [nI_1 (skb M L aT)]
      refine gf_putI flX12_291 rfl rfl dX12_takesSign_24 (gt_247 hG) ⟨rfl, rfl⟩ ?_
      rw [mI_0, pM_2]
      refine gf_iconst (1) dX12_takesSign_27 rfl ?_
      exact gf_bret dX12_takesSign_28 rfl (by rw [show tgQ M L (aT, eN, bD, bP, cD, wT, oP, bS, cS, wS) c = true from (if_pos zc4).trans (decide_eq_true zc12)]; rfl) (by rw [show tgS M L (aT, eN, bD, bP, cD, wT, oP, bS, cS, wS) c = (((skb M L aT) + 1), eN, bD, bP, cD, wT, oP, bS, cS, wS) from (if_pos zc4).trans (if_pos zc12)])
    · refine gf_iconst (0) dX12_takesSign_15 rfl ?_
      exact gf_bret dX12_takesSign_16 rfl (by rw [show tgQ M L (aT, eN, bD, bP, cD, wT, oP, bS, cS, wS) c = false from (if_pos zc4).trans (decide_eq_false zc12)]; rfl) (by rw [show tgS M L (aT, eN, bD, bP, cD, wT, oP, bS, cS, wS) c = ((skb M L aT), eN, bD, bP, cD, wT, oP, bS, cS, wS) from (if_pos zc4).trans (if_neg zc12)])
theorem e_X12_asksSign (E : gE) {d : Nat} (hd : 2 ≤ d) {L : Nat} (h : hp_T) (hG : gr h) (M : mM) (N : mN) (T : tpI M L) (aT : Nat) (eN bD bP : Int32) (cD wT : Nat) (oP : Int32) (bS : Nat) (cS wS : Nat → Int32) (c : Int32) (ha : aT ≤ L) : ev E mX12_asksSign d [.ref (E.1 + 247), .int c] (hm h (pM M (aT, eN, bD, bP, cD, wT, oP, bS, cS, wS)) N) none (hm h (pM M (agS M L (aT, eN, bD, bP, cD, wT, oP, bS, cS, wS) c)) N) := by
  refine ev_of rfl (fun q => absurd q (by decide)) (Nat.le_of_ble_eq_true rfl) ?_
  refine gf_aload_n 0 dX12_asksSign_0 rfl rfl ?_
  refine gf_getI flX12_285 rfl dX12_asksSign_1 (gt_247 hG) ?_
  rw [show hp_i (hm h (pM M (aT, eN, bD, bP, cD, wT, oP, bS, cS, wS)) N) 247 5 = bD from rfl]
  refine gf_if_ne 24 dX12_asksSign_4 rfl (fun zc4 => ?_) (fun zc4 => ?_)
  · exact gf_vretE dX12_asksSign_24 rfl (by rw [show agS M L (aT, eN, bD, bP, cD, wT, oP, bS, cS, wS) c = (aT, eN, bD, bP, cD, wT, oP, bS, cS, wS) from if_neg zc4])
  · refine gf_aload_n 0 dX12_asksSign_7 rfl rfl ?_
    refine gf_iload_n 1 dX12_asksSign_8 rfl rfl ?_
    refine gf_callV cmX12_takesSign lkX12_319 imX12_takesSign seX12_takesSign ⟨rfl, by decide⟩ dX12_asksSign_9 (d1 := d - 1) (by omega) (gt_247 hG) (e_X12_takesSign E (by omega) h hG M N T aT eN bD bP cD wT oP bS cS wS c ha) rfl rfl (Nat.le_of_ble_eq_true rfl) ?_
    refine gf_if_ne 24 dX12_asksSign_12 rfl (fun zc12 => ?_) (fun zc12 => ?_)
    · exact gf_vretE dX12_asksSign_24 rfl (by rw [show agS M L (aT, eN, bD, bP, cD, wT, oP, bS, cS, wS) c = (tgS M L (aT, eN, bD, bP, cD, wT, oP, bS, cS, wS) c) from (if_pos zc4).trans (if_pos (bI_t zc12))])
    · refine gf_aload_n 0 dX12_asksSign_15 rfl rfl ?_
      refine gf_iconst (1) dX12_asksSign_16 rfl ?_
      refine gf_aload_n 0 dX12_asksSign_17 rfl rfl ?_
      refine gf_getI flX12_291 rfl dX12_asksSign_18 (gt_247 hG) ?_
      rw [show hp_i (hm h (pM M (tgS M L (aT, eN, bD, bP, cD, wT, oP, bS, cS, wS) c)) N) 247 2 = (nI ((tgS M L (aT, eN, bD, bP, cD, wT, oP, bS, cS, wS) c).1)) from rfl]
      refine gf_callV cmX12_fail lkX12_315 imX12_fail seX12_fail ⟨rfl, by decide⟩ dX12_asksSign_21 (d1 := d - 1) (by omega) (gt_247 hG) (e_X12_fail E 1 (nI ((tgS M L (aT, eN, bD, bP, cD, wT, oP, bS, cS, wS) c).1)) h hG M N ((tgS M L (aT, eN, bD, bP, cD, wT, oP, bS, cS, wS) c).1) ((tgS M L (aT, eN, bD, bP, cD, wT, oP, bS, cS, wS) c).2.1) ((tgS M L (aT, eN, bD, bP, cD, wT, oP, bS, cS, wS) c).2.2.1) ((tgS M L (aT, eN, bD, bP, cD, wT, oP, bS, cS, wS) c).2.2.2.1) ((tgS M L (aT, eN, bD, bP, cD, wT, oP, bS, cS, wS) c).2.2.2.2.1) ((tgS M L (aT, eN, bD, bP, cD, wT, oP, bS, cS, wS) c).2.2.2.2.2.1) ((tgS M L (aT, eN, bD, bP, cD, wT, oP, bS, cS, wS) c).2.2.2.2.2.2.1) ((tgS M L (aT, eN, bD, bP, cD, wT, oP, bS, cS, wS) c).2.2.2.2.2.2.2.1) ((tgS M L (aT, eN, bD, bP, cD, wT, oP, bS, cS, wS) c).2.2.2.2.2.2.2.2.1) ((tgS M L (aT, eN, bD, bP, cD, wT, oP, bS, cS, wS) c).2.2.2.2.2.2.2.2.2)) rfl rfl (Nat.le_of_ble_eq_true rfl) ?_
      exact gf_vretE dX12_asksSign_24 rfl (by rw [show agS M L (aT, eN, bD, bP, cD, wT, oP, bS, cS, wS) c = (flS9 (tgS M L (aT, eN, bD, bP, cD, wT, oP, bS, cS, wS) c) 1 (nI ((tgS M L (aT, eN, bD, bP, cD, wT, oP, bS, cS, wS) c).1))) from (if_pos zc4).trans (if_neg (by rw [bI_f zc12]; decide))])
abbrev dgP (M : mM) (a : Nat) : Prop := 48 ≤ M 1 a ∧ M 1 a ≤ 57
/-- the digits from b on: (too many, place, value) -/
def nuF (M : mM) (b : Nat) : Nat → Nat → Int32 → Bool × Nat × Int32
  | 0, a, v => (false, a, v)
  | k + 1, a, v => if dgP M a then (if nI (a - b) = 5 then (true, a, v) else nuF M b k (a + 1) (10 * v + M 1 a - 48)) else (false, a, v)
def nuS (M : mM) (L : Nat) (b : Nat) : Bool × Nat × Int32 := nuF M b (L - b) b 0
theorem nuF_le (M : mM) (b : Nat) : ∀ k a v, a ≤ (nuF M b k a v).2.1 ∧ (nuF M b k a v).2.1 ≤ a + k
  | 0, a, _ => ⟨Nat.le_refl _, Nat.le_refl _⟩
  | k + 1, a, v => by
    unfold nuF
    split
    · split
      · exact ⟨Nat.le_refl _, Nat.le_add_right _ _⟩
      · have := nuF_le M b k (a + 1) (10 * v + M 1 a - 48)
        omega
    · exact ⟨Nat.le_refl _, Nat.le_add_right _ _⟩
def nbV (M : mM) (L : Nat) (q : pS) (lo hi : Int32) : Int32 × pS :=
  if q.2.2.1 = 0 then
    (if 48 ≤ lkV M L q.1 ∧ lkV M L q.1 ≤ 57 then
      (if nI (skb M L q.1) = q.2.1 then (0, flS9 (skb M L q.1, q.2) 1 (nI (skb M L q.1)))
       else if (nuS M L (skb M L q.1)).1 = true then (0, flS9 ((nuS M L (skb M L q.1)).2.1, q.2) 1 (nI (nuS M L (skb M L q.1)).2.1))
       else if lo.toInt64 ≤ (nuS M L (skb M L q.1)).2.2.toInt64 ∧ (nuS M L (skb M L q.1)).2.2.toInt64 ≤ hi.toInt64 then ((nuS M L (skb M L q.1)).2.2, ((nuS M L (skb M L q.1)).2.1, nI (nuS M L (skb M L q.1)).2.1, q.2.2))
       else ((nuS M L (skb M L q.1)).2.2, flS9 ((nuS M L (skb M L q.1)).2.1, nI (nuS M L (skb M L q.1)).2.1, q.2.2) 2 (nI (skb M L q.1))))
     else (0, flS9 (skb M L q.1, q.2) 1 (nI (skb M L q.1))))
  else (0, q)
theorem l_num (E : gE) {d : Nat} (hd : 1 ≤ d) {L : Nat} (h : hp_T) (hG : gr h) (M : mM) (N : mN) (T : tpI M L) (aT : Nat) (eN bD bP : Int32) (cD wT : Nat) (oP : Int32) (bS : Nat) (cS wS : Nat → Int32) (lo hi : Int32) (b : Nat) {v : Option Value} {hz : hp_T} : ∀ (kz a : Nat) (v0 : Int32), a + kz = L → b ≤ a → ((nuF M b kz a v0).1 = false → gf E mX12_number d 129 [(0, .ref (E.1 + 247)), (1, .int lo), (2, .int hi), (3, .int (nI b)), (4, .int (nuF M b kz a v0).2.2)] [] (hm h (pM M ((nuF M b kz a v0).2.1, eN, bD, bP, cD, wT, oP, bS, cS, wS)) N) v hz) → ((nuF M b kz a v0).1 = true → v = some (.int 0) ∧ hz = hm h (pM M (flS9 ((nuF M b kz a v0).2.1, eN, bD, bP, cD, wT, oP, bS, cS, wS) 1 (nI (nuF M b kz a v0).2.1))) N) → gf E mX12_number d 49 [(0, .ref (E.1 + 247)), (1, .int lo), (2, .int hi), (3, .int (nI b)), (4, .int v0)] [] (hm h (pM M (a, eN, bD, bP, cD, wT, oP, bS, cS, wS)) N) v hz := by
  have hL6 := T.2.1
  intro kz
  induction kz with
  | zero =>
    intro a v0 hj hb K K2
    refine gf_aload_n 0 dX12_number_49 rfl rfl ?_
    refine gf_getI flX12_291 rfl dX12_number_50 (gt_247 hG) ?_
    rw [show hp_i (hm h (pM M (a, eN, bD, bP, cD, wT, oP, bS, cS, wS)) N) 247 2 = (nI a) from rfl]
    refine gf_aload_n 0 dX12_number_53 rfl rfl ?_
    refine gf_getI flX12_294 rfl dX12_number_54 (gt_247 hG) ?_
    rw [show hp_i (hm h (pM M (a, eN, bD, bP, cD, wT, oP, bS, cS, wS)) N) 247 3 = nI L from T.1]
    refine gf_icmp_ge 129 dX12_number_57 rfl (fun _ => ?_) (fun q => absurd (nI_le (by omega) (by omega)) q)
    exact gf_lw (K rfl) ⟨rfl, rfl, rfl, rfl, rfl, trivial⟩
  | succ kz ih =>
    intro a v0 hj hb K K2
    refine gf_aload_n 0 dX12_number_49 rfl rfl ?_
    refine gf_getI flX12_291 rfl dX12_number_50 (gt_247 hG) ?_
    rw [show hp_i (hm h (pM M (a, eN, bD, bP, cD, wT, oP, bS, cS, wS)) N) 247 2 = (nI a) from rfl]
    refine gf_aload_n 0 dX12_number_53 rfl rfl ?_
    refine gf_getI flX12_294 rfl dX12_number_54 (gt_247 hG) ?_
    rw [show hp_i (hm h (pM M (a, eN, bD, bP, cD, wT, oP, bS, cS, wS)) N) 247 3 = nI L from T.1]
    refine gf_icmp_ge 129 dX12_number_57 rfl (fun q => absurd q (nI_ge (by omega) (by omega))) (fun _ => ?_)
    refine gf_aload_n 0 dX12_number_60 rfl rfl ?_
    refine gf_getR flX12_7 rfl dX12_number_61 (gt_247 hG) (gp_247_0 hG) ?_
    refine gf_aload_n 0 dX12_number_64 rfl rfl ?_
    refine gf_getI flX12_291 rfl dX12_number_65 (gt_247 hG) ?_
    rw [show hp_i (hm h (pM M (a, eN, bD, bP, cD, wT, oP, bS, cS, wS)) N) 247 2 = (nI a) from rfl]
    refine gf_iald 600 dX12_number_68 (gt_248 hG) (gl_248 hG) rfl (by omega) (by decide) ?_
    refine gf_callS cmX12_isDigit lkX12_322 stX12_isDigit dX12_number_69 (d1 := d - 1) (by omega) (e_X12_isDigit E (M 1 a) _) rfl rfl (Nat.le_of_ble_eq_true rfl) ?_
    refine gf_if_eq 129 dX12_number_72 rfl (fun zc72 => ?_) (fun zc72 => ?_)
    · have eN9 : nuF M b (kz + 1) a v0 = (false, a, v0) := if_neg (zb_0.mp zc72)
      rw [eN9] at K K2
      exact gf_lw (K rfl) ⟨rfl, rfl, rfl, rfl, rfl, trivial⟩
    · refine gf_aload_n 0 dX12_number_75 rfl rfl ?_
      refine gf_getI flX12_291 rfl dX12_number_76 (gt_247 hG) ?_
      rw [show hp_i (hm h (pM M (a, eN, bD, bP, cD, wT, oP, bS, cS, wS)) N) 247 2 = (nI a) from rfl]
      refine gf_iload_n 3 dX12_number_79 rfl rfl ?_
      refine gf_isub dX12_number_80 ?_
      rw [show nI a - nI b = nI (a - b) from pk_sub hb]
      refine gf_iconst (5) dX12_number_81 rfl ?_
      refine gf_icmp_ne 96 dX12_number_82 rfl (fun zc82 => ?_) (fun zc82 => ?_)
      · have eN9 : nuF M b (kz + 1) a v0 = nuF M b kz (a + 1) (10 * v0 + M 1 a - 48) := (if_pos (zb_1.mp zc72)).trans (if_neg zc82)
        rw [eN9] at K K2
        refine gf_bipush (10) dX12_number_96 rfl ?_
        refine gf_iload dX12_number_98 rfl ?_
        refine gf_imul dX12_number_100 ?_
        refine gf_aload_n 0 dX12_number_101 rfl rfl ?_
        refine gf_getR flX12_7 rfl dX12_number_102 (gt_247 hG) (gp_247_0 hG) ?_
        refine gf_aload_n 0 dX12_number_105 rfl rfl ?_
        refine gf_getI flX12_291 rfl dX12_number_106 (gt_247 hG) ?_
        rw [show hp_i (hm h (pM M (a, eN, bD, bP, cD, wT, oP, bS, cS, wS)) N) 247 2 = (nI a) from rfl]
        refine gf_iald 600 dX12_number_109 (gt_248 hG) (gl_248 hG) rfl (by omega) (by decide) ?_
        refine gf_iadd dX12_number_110 ?_
        refine gf_bipush (48) dX12_number_111 rfl ?_
        refine gf_isub dX12_number_113 ?_
        refine gf_istore dX12_number_114 (Nat.le_of_ble_eq_true rfl) ?_
        refine gf_aload_n 0 dX12_number_116 rfl rfl ?_
        refine gf_dup dX12_number_117 rfl ?_
        refine gf_getI flX12_291 rfl dX12_number_118 (gt_247 hG) ?_
        rw [show hp_i (hm h (pM M (a, eN, bD, bP, cD, wT, oP, bS, cS, wS)) N) 247 2 = (nI a) from rfl]
        refine gf_iconst (1) dX12_number_121 rfl ?_
        refine gf_iadd dX12_number_122 ?_
        rw [nI_1 a]
        refine gf_putI flX12_291 rfl rfl dX12_number_123 (gt_247 hG) ⟨rfl, rfl⟩ ?_
        rw [mI_0, pM_2]
        refine gf_goto 49 dX12_number_126 rfl ?_
        exact gf_lw (ih (a + 1) (10 * v0 + M 1 a - 48) (by omega) (by omega) K K2) ⟨rfl, rfl, rfl, rfl, rfl, trivial⟩
      · have eN9 : nuF M b (kz + 1) a v0 = (true, a, v0) := (if_pos (zb_1.mp zc72)).trans (if_pos zc82)
        rw [eN9] at K K2
        obtain ⟨e1, e2⟩ := K2 rfl
        rw [e1, e2]
        refine gf_aload_n 0 dX12_number_85 rfl rfl ?_
        refine gf_iconst (1) dX12_number_86 rfl ?_
        refine gf_aload_n 0 dX12_number_87 rfl rfl ?_
        refine gf_getI flX12_291 rfl dX12_number_88 (gt_247 hG) ?_
        rw [show hp_i (hm h (pM M (a, eN, bD, bP, cD, wT, oP, bS, cS, wS)) N) 247 2 = (nI a) from rfl]
        refine gf_callV cmX12_fail lkX12_315 imX12_fail seX12_fail ⟨rfl, by decide⟩ dX12_number_91 (d1 := d - 1) (by omega) (gt_247 hG) (e_X12_fail E 1 (nI a) h hG M N a eN bD bP cD wT oP bS cS wS) rfl rfl (Nat.le_of_ble_eq_true rfl) ?_
        refine gf_iconst (0) dX12_number_94 rfl ?_
        exact gf_iretE dX12_number_95 rfl (rfl) (rfl)
theorem e_X12_number (E : gE) {d : Nat} (hd : 1 ≤ d) {L : Nat} (h : hp_T) (hG : gr h) (M : mM) (N : mN) (T : tpI M L) (aT : Nat) (eN bD bP : Int32) (cD wT : Nat) (oP : Int32) (bS : Nat) (cS wS : Nat → Int32) (lo hi : Int32) (ha : aT ≤ L) : ev E mX12_number d [.ref (E.1 + 247), .int lo, .int hi] (hm h (pM M (aT, eN, bD, bP, cD, wT, oP, bS, cS, wS)) N) (some (.int (nbV M L (aT, eN, bD, bP, cD, wT, oP, bS, cS, wS) lo hi).1)) (hm h (pM M (nbV M L (aT, eN, bD, bP, cD, wT, oP, bS, cS, wS) lo hi).2) N) := by
  refine ev_of rfl (fun q => absurd q (by decide)) (Nat.le_of_ble_eq_true rfl) ?_
  have hL6 := T.2.1
  have hsk := skb_le (M := M) (L := L) (a := aT)
  refine gf_aload_n 0 dX12_number_0 rfl rfl ?_
  refine gf_getI flX12_285 rfl dX12_number_1 (gt_247 hG) ?_
  rw [show hp_i (hm h (pM M (aT, eN, bD, bP, cD, wT, oP, bS, cS, wS)) N) 247 5 = bD from rfl]
  refine gf_if_eq 9 dX12_number_4 rfl (fun zc4 => ?_) (fun zc4 => ?_)
  · refine gf_aload_n 0 dX12_number_9 rfl rfl ?_
    refine gf_callV cmX12_look lkX12_297 imX12_look seX12_look ⟨rfl, by decide⟩ dX12_number_10 (d1 := d - 1) (by omega) (gt_247 hG) (e_X12_look E h hG M N T aT eN bD bP cD wT oP bS cS wS (by omega)) rfl rfl (Nat.le_of_ble_eq_true rfl) ?_
    refine gf_callS cmX12_isDigit lkX12_322 stX12_isDigit dX12_number_13 (d1 := d - 1) (by omega) (e_X12_isDigit E (lkV M L aT) _) rfl rfl (Nat.le_of_ble_eq_true rfl) ?_
    refine gf_if_eq 30 dX12_number_16 rfl (fun zc16 => ?_) (fun zc16 => ?_)
    · refine gf_aload_n 0 dX12_number_30 rfl rfl ?_
      refine gf_iconst (1) dX12_number_31 rfl ?_
      refine gf_aload_n 0 dX12_number_32 rfl rfl ?_
      refine gf_getI flX12_291 rfl dX12_number_33 (gt_247 hG) ?_
      rw [show hp_i (hm h (pM M ((skb M L aT), eN, bD, bP, cD, wT, oP, bS, cS, wS)) N) 247 2 = (nI (skb M L aT)) from rfl]
      refine gf_callV cmX12_fail lkX12_315 imX12_fail seX12_fail ⟨rfl, by decide⟩ dX12_number_36 (d1 := d - 1) (by omega) (gt_247 hG) (e_X12_fail E 1 (nI (skb M L aT)) h hG M N (skb M L aT) eN bD bP cD wT oP bS cS wS) rfl rfl (Nat.le_of_ble_eq_true rfl) ?_
      refine gf_iconst (0) dX12_number_39 rfl ?_
      exact gf_iretE dX12_number_40 rfl (by rw [show nbV M L (aT, eN, bD, bP, cD, wT, oP, bS, cS, wS) lo hi = (0, (flS9 ((skb M L aT), eN, bD, bP, cD, wT, oP, bS, cS, wS) 1 (nI (skb M L aT)))) from (if_pos zc4).trans (if_neg (zb_0.mp zc16))]; first | done | rfl) (by rw [show nbV M L (aT, eN, bD, bP, cD, wT, oP, bS, cS, wS) lo hi = (0, (flS9 ((skb M L aT), eN, bD, bP, cD, wT, oP, bS, cS, wS) 1 (nI (skb M L aT)))) from (if_pos zc4).trans (if_neg (zb_0.mp zc16))]; first | done | rfl)
    · refine gf_aload_n 0 dX12_number_19 rfl rfl ?_
      refine gf_getI flX12_291 rfl dX12_number_20 (gt_247 hG) ?_
      rw [show hp_i (hm h (pM M ((skb M L aT), eN, bD, bP, cD, wT, oP, bS, cS, wS)) N) 247 2 = (nI (skb M L aT)) from rfl]
      refine gf_aload_n 0 dX12_number_23 rfl rfl ?_
      refine gf_getI flX12_305 rfl dX12_number_24 (gt_247 hG) ?_
      rw [show hp_i (hm h (pM M ((skb M L aT), eN, bD, bP, cD, wT, oP, bS, cS, wS)) N) 247 4 = eN from rfl]
      refine gf_icmp_ne 41 dX12_number_27 rfl (fun zc27 => ?_) (fun zc27 => ?_)
      · refine gf_aload_n 0 dX12_number_41 rfl rfl ?_
        refine gf_getI flX12_291 rfl dX12_number_42 (gt_247 hG) ?_
        rw [show hp_i (hm h (pM M ((skb M L aT), eN, bD, bP, cD, wT, oP, bS, cS, wS)) N) 247 2 = (nI (skb M L aT)) from rfl]
        refine gf_istore_n 3 dX12_number_45 rfl (Nat.le_of_ble_eq_true rfl) ?_
        refine gf_iconst (0) dX12_number_46 rfl ?_
        refine gf_istore dX12_number_47 (Nat.le_of_ble_eq_true rfl) ?_
        refine gf_lw (l_num E (by omega) h hG M N T aT eN bD bP cD wT oP bS cS wS lo hi (skb M L aT) (L - (skb M L aT)) (skb M L aT) 0 (by omega) (Nat.le_refl _) (fun hq => ?_) (fun hq => ⟨by rw [show nbV M L (aT, eN, bD, bP, cD, wT, oP, bS, cS, wS) lo hi = (0, flS9 ((nuS M L (skb M L aT)).2.1, eN, bD, bP, cD, wT, oP, bS, cS, wS) 1 (nI (nuS M L (skb M L aT)).2.1)) from (if_pos zc4).trans ((if_pos (zb_1.mp zc16)).trans ((if_neg zc27).trans (if_pos hq)))], by rw [show nbV M L (aT, eN, bD, bP, cD, wT, oP, bS, cS, wS) lo hi = (0, flS9 ((nuS M L (skb M L aT)).2.1, eN, bD, bP, cD, wT, oP, bS, cS, wS) 1 (nI (nuS M L (skb M L aT)).2.1)) from (if_pos zc4).trans ((if_pos (zb_1.mp zc16)).trans ((if_neg zc27).trans (if_pos hq)))]; first | done | rfl⟩)) ⟨rfl, rfl, rfl, rfl, rfl, trivial⟩
        change gf _ _ _ _ [(0, .ref (E.1 + 247)), (1, .int lo), (2, .int hi), (3, .int (nI (skb M L aT))), (4, .int ((nuS M L (skb M L aT)).2.2))] _ (hm h (pM M ((nuS M L (skb M L aT)).2.1, eN, bD, bP, cD, wT, oP, bS, cS, wS)) N) _ _
        refine gf_aload_n 0 dX12_number_129 rfl rfl ?_
        refine gf_aload_n 0 dX12_number_130 rfl rfl ?_
        refine gf_getI flX12_291 rfl dX12_number_131 (gt_247 hG) ?_
        rw [show hp_i (hm h (pM M ((nuS M L (skb M L aT)).2.1, eN, bD, bP, cD, wT, oP, bS, cS, wS)) N) 247 2 = (nI ((nuS M L (skb M L aT)).2.1)) from rfl]
        refine gf_putI flX12_305 rfl rfl dX12_number_134 (gt_247 hG) ⟨rfl, rfl⟩ ?_
        rw [mI_0, pM_4]
        refine gf_iload dX12_number_137 rfl ?_
        refine gf_i2l dX12_number_139 ?_
        refine gf_iload_n 1 dX12_number_140 rfl rfl ?_
        refine gf_i2l dX12_number_141 ?_
        refine gf_iload_n 2 dX12_number_142 rfl rfl ?_
        refine gf_i2l dX12_number_143 ?_
        refine gf_callS cmX12_isIn lkX12_325 stX12_isIn dX12_number_144 (d1 := d - 1) (by omega) (e_X12_isIn E (by omega) (Int32.toInt64 ((nuS M L (skb M L aT)).2.2)) (Int32.toInt64 lo) (Int32.toInt64 hi) _) rfl rfl (Nat.le_of_ble_eq_true rfl) ?_
        refine gf_if_ne 156 dX12_number_147 rfl (fun zc147 => ?_) (fun zc147 => ?_)
        · refine gf_iload dX12_number_156 rfl ?_
          exact gf_iretE dX12_number_158 rfl (by rw [show nbV M L (aT, eN, bD, bP, cD, wT, oP, bS, cS, wS) lo hi = ((nuS M L (skb M L aT)).2.2, ((nuS M L (skb M L aT)).2.1, (nI ((nuS M L (skb M L aT)).2.1)), bD, bP, cD, wT, oP, bS, cS, wS)) from (if_pos zc4).trans ((if_pos (zb_1.mp zc16)).trans ((if_neg zc27).trans ((if_neg (fun z => Bool.noConfusion (hq.symm.trans z))).trans (if_pos (zb_1.mp zc147)))))]; first | done | rfl) (by rw [show nbV M L (aT, eN, bD, bP, cD, wT, oP, bS, cS, wS) lo hi = ((nuS M L (skb M L aT)).2.2, ((nuS M L (skb M L aT)).2.1, (nI ((nuS M L (skb M L aT)).2.1)), bD, bP, cD, wT, oP, bS, cS, wS)) from (if_pos zc4).trans ((if_pos (zb_1.mp zc16)).trans ((if_neg zc27).trans ((if_neg (fun z => Bool.noConfusion (hq.symm.trans z))).trans (if_pos (zb_1.mp zc147)))))]; first | done | rfl)
        · refine gf_aload_n 0 dX12_number_150 rfl rfl ?_
          refine gf_iconst (2) dX12_number_151 rfl ?_
          refine gf_iload_n 3 dX12_number_152 rfl rfl ?_
          refine gf_callV cmX12_fail lkX12_315 imX12_fail seX12_fail ⟨rfl, by decide⟩ dX12_number_153 (d1 := d - 1) (by omega) (gt_247 hG) (e_X12_fail E 2 (nI (skb M L aT)) h hG M N ((nuS M L (skb M L aT)).2.1) (nI ((nuS M L (skb M L aT)).2.1)) bD bP cD wT oP bS cS wS) rfl rfl (Nat.le_of_ble_eq_true rfl) ?_
          refine gf_iload dX12_number_156 rfl ?_
          exact gf_iretE dX12_number_158 rfl (by rw [show nbV M L (aT, eN, bD, bP, cD, wT, oP, bS, cS, wS) lo hi = ((nuS M L (skb M L aT)).2.2, (flS9 ((nuS M L (skb M L aT)).2.1, (nI ((nuS M L (skb M L aT)).2.1)), bD, bP, cD, wT, oP, bS, cS, wS) 2 (nI (skb M L aT)))) from (if_pos zc4).trans ((if_pos (zb_1.mp zc16)).trans ((if_neg zc27).trans ((if_neg (fun z => Bool.noConfusion (hq.symm.trans z))).trans (if_neg (zb_0.mp zc147)))))]; first | done | rfl) (by rw [show nbV M L (aT, eN, bD, bP, cD, wT, oP, bS, cS, wS) lo hi = ((nuS M L (skb M L aT)).2.2, (flS9 ((nuS M L (skb M L aT)).2.1, (nI ((nuS M L (skb M L aT)).2.1)), bD, bP, cD, wT, oP, bS, cS, wS) 2 (nI (skb M L aT)))) from (if_pos zc4).trans ((if_pos (zb_1.mp zc16)).trans ((if_neg zc27).trans ((if_neg (fun z => Bool.noConfusion (hq.symm.trans z))).trans (if_neg (zb_0.mp zc147)))))]; first | done | rfl)
      · refine gf_aload_n 0 dX12_number_30 rfl rfl ?_
        refine gf_iconst (1) dX12_number_31 rfl ?_
        refine gf_aload_n 0 dX12_number_32 rfl rfl ?_
        refine gf_getI flX12_291 rfl dX12_number_33 (gt_247 hG) ?_
        rw [show hp_i (hm h (pM M ((skb M L aT), eN, bD, bP, cD, wT, oP, bS, cS, wS)) N) 247 2 = (nI (skb M L aT)) from rfl]
        refine gf_callV cmX12_fail lkX12_315 imX12_fail seX12_fail ⟨rfl, by decide⟩ dX12_number_36 (d1 := d - 1) (by omega) (gt_247 hG) (e_X12_fail E 1 (nI (skb M L aT)) h hG M N (skb M L aT) eN bD bP cD wT oP bS cS wS) rfl rfl (Nat.le_of_ble_eq_true rfl) ?_
        refine gf_iconst (0) dX12_number_39 rfl ?_
        exact gf_iretE dX12_number_40 rfl (by rw [show nbV M L (aT, eN, bD, bP, cD, wT, oP, bS, cS, wS) lo hi = (0, (flS9 ((skb M L aT), eN, bD, bP, cD, wT, oP, bS, cS, wS) 1 (nI (skb M L aT)))) from (if_pos zc4).trans ((if_pos (zb_1.mp zc16)).trans (if_pos zc27))]; first | done | rfl) (by rw [show nbV M L (aT, eN, bD, bP, cD, wT, oP, bS, cS, wS) lo hi = (0, (flS9 ((skb M L aT), eN, bD, bP, cD, wT, oP, bS, cS, wS) 1 (nI (skb M L aT)))) from (if_pos zc4).trans ((if_pos (zb_1.mp zc16)).trans (if_pos zc27))]; first | done | rfl)
  · refine gf_iconst (0) dX12_number_7 rfl ?_
    exact gf_iretE dX12_number_8 rfl (by rw [show nbV M L (aT, eN, bD, bP, cD, wT, oP, bS, cS, wS) lo hi = (0, (aT, eN, bD, bP, cD, wT, oP, bS, cS, wS)) from if_neg zc4]; first | done | rfl) (by rw [show nbV M L (aT, eN, bD, bP, cD, wT, oP, bS, cS, wS) lo hi = (0, (aT, eN, bD, bP, cD, wT, oP, bS, cS, wS)) from if_neg zc4]; first | done | rfl)
