/-! ===== class against reference: what is told of the city ===== -/
theorem cty_r {F F1 : Nat → Nat → Int32} {w g : Nat} (e : ∀ x, x = 1 ∨ x = 7 ∨ x = 8 ∨ (10 ≤ x ∧ x < 130) → F1 x = F x) (C : cty F w g) : cty F1 w g := by
  have hn := cty_n C
  refine ⟨C.1, ?_, ?_, ?_, fun c hc => ?_⟩
  · rw [e 1 (by omega)]; exact C.2.1
  · rw [e 1 (by omega)]; exact C.2.2.1
  · rw [e 1 (by omega)]; exact C.2.2.2.1
  · rw [e 7 (by omega), e 8 (by omega), e (10 + c) (by omega)]
    exact C.2.2.2.2 c hc
/-- the city: class (F, by address) and reference (M, by row) -/
def rC (F M : mM) (w g : Nat) : Prop := cty F w g ∧ mcty M w g ∧ F 2 = M 34 ∧ F 3 = M 31 ∧ F 4 = M 32 ∧ F 5 = M 33 ∧ F 6 = M 35 ∧ F 130 = M 36 ∧ F 134 = M 40 ∧ ∀ b, b < 9 → ∀ c, c < 9 → F (136 + b) c = M 45 (9 * b + c)
/-- rows that the city is read from -/
abbrev rCr (x : Nat) : Prop := (1 ≤ x ∧ x ≤ 8) ∨ (10 ≤ x ∧ x ≤ 130) ∨ x = 134 ∨ (136 ≤ x ∧ x ≤ 144)
theorem rC_fr {F F1 M M1 : mM} {w g : Nat} (e : ∀ x, rCr x → F1 x = F x) (e2 : ∀ x, (31 ≤ x ∧ x ≤ 36) ∨ x = 40 ∨ x = 45 → M1 x = M x) (e3 : M1 0 42 = M 0 42 ∧ M1 0 43 = M 0 43) (R : rC F M w g) : rC F1 M1 w g := by
  obtain ⟨C, D, a1, a2, a3, a4, a5, a6, a7, a8⟩ := R
  refine ⟨cty_r (fun x hx => e x (by omega)) C, ⟨D.1, e3.1.trans D.2.1, e3.2.trans D.2.2⟩, ?_, ?_, ?_, ?_, ?_, ?_, ?_, fun b hb c hc => ?_⟩
  · rw [e 2 (by omega), e2 34 (by omega)]; exact a1
  · rw [e 3 (by omega), e2 31 (by omega)]; exact a2
  · rw [e 4 (by omega), e2 32 (by omega)]; exact a3
  · rw [e 5 (by omega), e2 33 (by omega)]; exact a4
  · rw [e 6 (by omega), e2 35 (by omega)]; exact a5
  · rw [e 130 (by omega), e2 36 (by omega)]; exact a6
  · rw [e 134 (by omega), e2 40 (by omega)]; exact a7
  · rw [e (136 + b) (by omega), e2 45 (by omega)]; exact a8 b hb c hc
/-- both write the same at the same place -/
theorem rC_2 {F M : mM} {w g x y c : Nat} {v : Int32} (hxy : (x, y) ∈ [(2, 34), (3, 31), (4, 32), (5, 33), (6, 35), (130, 36), (134, 40)]) (R : rC F M w g) : rC (up2 F x c v) (up2 M y c v) w g := by
  obtain ⟨C, D, a1, a2, a3, a4, a5, a6, a7, a8⟩ := R
  have hx : x = 2 ∨ x = 3 ∨ x = 4 ∨ x = 5 ∨ x = 6 ∨ x = 130 ∨ x = 134 := by
    simp only [List.mem_cons, Prod.mk.injEq, List.not_mem_nil, or_false] at hxy
    omega
  have hy : y = 34 ∨ y = 31 ∨ y = 32 ∨ y = 33 ∨ y = 35 ∨ y = 36 ∨ y = 40 := by
    simp only [List.mem_cons, Prod.mk.injEq, List.not_mem_nil, or_false] at hxy
    omega
  have go : ∀ {p q : Nat}, F p = M q → ((p = x ∧ q = y) ∨ (p ≠ x ∧ q ≠ y)) → up2 F x c v p = up2 M y c v q := fun e hc => by
    rcases hc with ⟨e1, e2⟩ | ⟨e1, e2⟩
    · subst e1; subst e2
      rw [up2_r, up2_r, e]
    · rw [up2_row e1, up2_row e2]; exact e
  have hk : ∀ {p q : Nat}, (p, q) ∈ [(2, 34), (3, 31), (4, 32), (5, 33), (6, 35), (130, 36), (134, 40)] → ((p = x ∧ q = y) ∨ (p ≠ x ∧ q ≠ y)) := fun h => by
    simp only [List.mem_cons, Prod.mk.injEq, List.not_mem_nil, or_false] at h hxy
    omega
  refine ⟨cty_r (fun z hz => up2_row (by omega)) C, ⟨D.1, (up2_a _ _ (by omega)).trans D.2.1, (up2_a _ _ (by omega)).trans D.2.2⟩, go a1 (hk (by decide)), go a2 (hk (by decide)), go a3 (hk (by decide)), go a4 (hk (by decide)), go a5 (hk (by decide)), go a6 (hk (by decide)), go a7 (hk (by decide)), fun b hb c' hc' => ?_⟩
  rw [up2_row (show 136 + b ≠ x by omega), up2_row (show 45 ≠ y by omega)]
  exact a8 b hb c' hc'
theorem rC_house {F M : mM} {w g c : Nat} {wl tr wo : Int32} (R : rC F M w g) : rC (up2 (up2 (up2 (up2 F 2 c 1) 3 c wl) 4 c tr) 5 c wo) (up2 (up2 (up2 (up2 M 34 c 1) 31 c wl) 32 c tr) 33 c wo) w g := rC_2 (by decide) (rC_2 (by decide) (rC_2 (by decide) (rC_2 (by decide) R)))
theorem rC_deal {F M : mM} {w g b c : Nat} {v : Int32} (hb : b < 9) (hc : c < 9) (R : rC F M w g) : rC (up2 F (136 + b) c v) (up2 M 45 (9 * b + c) v) w g := by
  obtain ⟨C, D, a1, a2, a3, a4, a5, a6, a7, a8⟩ := R
  refine ⟨cty_r (fun z hz => up2_row (by omega)) C, D, ?_, ?_, ?_, ?_, ?_, ?_, ?_, fun b' hb' c' hc' => ?_⟩
  · rw [up2_row (by omega), up2_row (by omega)]; exact a1
  · rw [up2_row (by omega), up2_row (by omega)]; exact a2
  · rw [up2_row (by omega), up2_row (by omega)]; exact a3
  · rw [up2_row (by omega), up2_row (by omega)]; exact a4
  · rw [up2_row (by omega), up2_row (by omega)]; exact a5
  · rw [up2_row (by omega), up2_row (by omega)]; exact a6
  · rw [up2_row (by omega), up2_row (by omega)]; exact a7
  · by_cases e : b' = b ∧ c' = c
    · obtain ⟨e1, e2⟩ := e
      subst e1; subst e2
      rw [up2_s, up2_s]
    · rw [up2_k M v (show 9 * b' + c' ≠ 9 * b + c by omega)]
      rcases Nat.decEq b' b with q | q
      · rw [up2_a F v (show 136 + b' ≠ 136 + b by omega)]
        exact a8 b' hb' c' hc'
      · rw [up2_k F v (show c' ≠ c from fun z => e ⟨q, z⟩)]
        exact a8 b' hb' c' hc'
