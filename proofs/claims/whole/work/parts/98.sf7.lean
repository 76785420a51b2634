/-! ===== class against reference: a house is settled ===== -/
/-- the items of a house and their manners -/
def houI (BF BP BA : Nat → Bool) (X Z : mM) (a A : Nat → Nat) (m : Nat) : Prop := m ≤ 200 ∧ (∀ i, i < m → X 5 i = nI (a i) ∧ a i < 201) ∧ (∀ i j, i < m → j < m → a i = a j → i = j) ∧ ∀ i, i < m → A i < 100000 ∧ X 2 (a i) = nI (A i) ∧ Z 63 (a i) = nI (A i) ∧ ((BF (a i) = false ∧ BP (a i) = false ∧ BA (a i) = false ∧ Z 65 (a i) = 1 ∧ A i = 0) ∨ ∃ e, e ≤ 2 ∧ Z 65 (a i) = nI e ∧ (BF (a i) = true ↔ e = 0) ∧ (BP (a i) = true ↔ e = 1) ∧ (BA (a i) = true ↔ e = 2))
theorem n3_eq {e : Nat} (he : e ≤ 2) : ((e = 0 ↔ nI e = 0) ∧ (e = 1 ↔ nI e = 1)) ∧ (e = 2 ↔ nI e = 2) := by
  rcases (show e = 0 ∨ e = 1 ∨ e = 2 by omega) with q | q | q <;> (subst q; decide)
theorem hou_e {BF BP BA : Nat → Bool} {X Z : mM} {N : mN} {R : Nat → Int64} {a A : Nat → Nat} {l m n : Nat} {c : Int32} (L : lstI Z c n m a) (I : houI BF BP BA X Z a A m) (hl9 : l < 1000000) (hR : ∀ k, k < 201 → X 3 k = Z 64 k) (h0 : ∀ i, i < m → Z 64 (a i) = 0) : (∀ r, r ≠ 3 → (pitS BA (pbpS BP ((pitS BF X (nI l) m).1, R) (pitS BF X (nI l) m).2 m).1.1 (pbpS BP ((pitS BF X (nI l) m).1, R) (pitS BF X (nI l) m).2 m).2 m).1 r = X r) ∧ (∀ r, r ≠ 64 → (inrS n c 2 (bypS n c (inrS n c 0 (nI l) Z).2 (inrS n c 0 (nI l) Z).1 N).1 (bypS n c (inrS n c 0 (nI l) Z).2 (inrS n c 0 (nI l) Z).1 N).2.1).1 r = Z r) ∧ (∀ k, k < 201 → (pitS BA (pbpS BP ((pitS BF X (nI l) m).1, R) (pitS BF X (nI l) m).2 m).1.1 (pbpS BP ((pitS BF X (nI l) m).1, R) (pitS BF X (nI l) m).2 m).2 m).1 3 k = (inrS n c 2 (bypS n c (inrS n c 0 (nI l) Z).2 (inrS n c 0 (nI l) Z).1 N).1 (bypS n c (inrS n c 0 (nI l) Z).2 (inrS n c 0 (nI l) Z).1 N).2.1).1 64 k) ∧ (∀ k, (∀ i, i < m → a i ≠ k) → (inrS n c 2 (bypS n c (inrS n c 0 (nI l) Z).2 (inrS n c 0 (nI l) Z).1 N).1 (bypS n c (inrS n c 0 (nI l) Z).2 (inrS n c 0 (nI l) Z).1 N).2.1).1 64 k = Z 64 k) ∧ ∀ K, 100000 ≤ K → l ≤ K → bd64 Z K → bd64 (inrS n c 2 (bypS n c (inrS n c 0 (nI l) Z).2 (inrS n c 0 (nI l) Z).1 N).1 (bypS n c (inrS n c 0 (nI l) Z).2 (inrS n c 0 (nI l) Z).1 N).2.1).1 (K + 200) := by
  obtain ⟨hm, h5, hinj, hA⟩ := I
  have hp0 : ∀ i, i < m → payA BF 0 X Z (a i) := fun i hi => by
    obtain ⟨b1, b2, b3, b4⟩ := hA i hi
    refine ⟨A i, b1, b2, b3, Or.inl ?_⟩
    rcases b4 with ⟨y1, y2, y3, y4, y5⟩ | ⟨e, he, y1, y2, y3, y4⟩
    · rw [y1, y4]
      decide
    · rw [y1, y2]
      exact (n3_eq he).1.1
  have S1 := pit_eq (B := BF) (how := 0) (X := X) (Z := Z) (a := a) (l := l) (m := m) (by omega) h5 hp0 hR (fun i hi _ _ => h0 i hi) m (Nat.le_refl _)
  rw [← inrS_L L] at S1
  change pitI BF 0 X Z a l m (pitS BF X (nI l) m) _ at S1
  generalize pitS BF X (nI l) m = p1 at S1 ⊢
  generalize inrS n c 0 (nI l) Z = q1 at S1 ⊢
  obtain ⟨⟨l1, hl1, s1, s2⟩, s3, s4, s5, s6, s7, s8⟩ := S1
  rw [s1, s2]
  have L1 : lstI q1.1 c n m a := lstI_fr (s4 66 (by decide)) (s4 49 (by decide)) L
  have I1 : itmI BP p1.1 q1.1 a A m := by
    refine ⟨hm, fun i hi => by rw [s3 5 (by decide)]; exact h5 i hi, hinj, fun i hi => ?_⟩
    obtain ⟨b1, b2, b3, b4⟩ := hA i hi
    rw [s3 2 (by decide), s4 63 (by decide), s4 65 (by decide)]
    refine ⟨b1, b2, b3, ?_⟩
    rcases b4 with ⟨y1, y2, y3, y4, y5⟩ | ⟨e, he, y1, y2, y3, y4⟩
    · exact Or.inr ⟨y2, y4, y5⟩
    · rw [y1, y3]
      exact Or.inl (n3_eq he).1.2
  have S2 := byp_e (N := N) (R := R) (l := l1) L1 I1 (by omega) s5 (fun i hi b1 b2 => by
    rw [s4 65 (by decide)] at b2
    rw [s7 (a i) (Or.inl (by rw [b2]; decide))]
    exact h0 i hi)
  generalize pbpS BP (p1.1, R) (nI l1) m = p2 at S2 ⊢
  generalize bypS n c (nI l1) q1.1 N = q2 at S2 ⊢
  obtain ⟨⟨l2, hl2, u1, u2⟩, u3, u4, u4b, u5, u6, u7, u8⟩ := S2
  rw [u1, u2]
  have L2 : lstI q2.2.1 c n m a := lstI_fr (u4 66 (by decide)) (u4 49 (by decide)) L1
  have S3 := pit_eq (B := BA) (how := 2) (X := p2.1.1) (Z := q2.2.1) (a := a) (l := l2) (m := m) (by omega) (fun i hi => by rw [u3 5 (by decide), s3 5 (by decide)]; exact h5 i hi) (fun i hi => by
    obtain ⟨b1, b2, b3, b4⟩ := hA i hi
    unfold payA
    rw [u3 2 (by decide), s3 2 (by decide), u4 63 (by decide), s4 63 (by decide), u4 65 (by decide), s4 65 (by decide)]
    refine ⟨A i, b1, b2, b3, Or.inl ?_⟩
    rcases b4 with ⟨y1, y2, y3, y4, y5⟩ | ⟨e, he, y1, y2, y3, y4⟩
    · rw [y3, y4]
      decide
    · rw [y1, y4]
      exact (n3_eq he).2) u5 (fun i hi b1 b2 => by
    rw [u4 65 (by decide), s4 65 (by decide)] at b2
    rw [u7 (a i) (Or.inl (by rw [s4 65 (by decide), b2]; decide)), s7 (a i) (Or.inl (by rw [b2]; decide))]
    exact h0 i hi) m (Nat.le_refl _)
  rw [← inrS_L L2] at S3
  change pitI BA 2 p2.1.1 q2.2.1 a l2 m (pitS BA p2.1.1 (nI l2) m) _ at S3
  obtain ⟨-, v3, v4, v5, v6, v7, v8⟩ := S3
  refine ⟨fun r hr => (v3 r hr).trans ((u3 r hr).trans (s3 r hr)), fun r hr => (v4 r hr).trans ((u4 r hr).trans (s4 r hr)), v5, fun k hk => (v7 k (Or.inr hk)).trans ((u7 k (Or.inr hk)).trans (s7 k (Or.inr hk))), fun K hK hl b => v8 (K + 200) (by omega) (u8 K hK (by omega) (s8 K hK b))⟩
/-- a house without a loss: the reference changes nothing -/
theorem hou_0 {Z : mM} {N : mN} {a : Nat → Nat} {m n : Nat} {c : Int32} (L : lstI Z c n m a) (hA : ∀ i, i < m → Z 63 (a i) = 0 ∧ Z 64 (a i) = 0) : (∀ r, r ≠ 64 → (inrS n c 2 (bypS n c (inrS n c 0 0 Z).2 (inrS n c 0 0 Z).1 N).1 (bypS n c (inrS n c 0 0 Z).2 (inrS n c 0 0 Z).1 N).2.1).1 r = Z r) ∧ ∀ k, (inrS n c 2 (bypS n c (inrS n c 0 0 Z).2 (inrS n c 0 0 Z).1 N).1 (bypS n c (inrS n c 0 0 Z).2 (inrS n c 0 0 Z).1 N).2.1).1 64 k = Z 64 k := by
  obtain ⟨s2, s4, s7⟩ := inr_0 (how := 0) hA m (Nat.le_refl _)
  rw [← inrS_L L] at s2 s4 s7
  generalize inrS n c 0 0 Z = q1 at s2 s4 s7 ⊢
  have L1 : lstI q1.1 c n m a := lstI_fr (s4 66 (by decide)) (s4 49 (by decide)) L
  have hA1 : ∀ i, i < m → q1.1 63 (a i) = 0 ∧ q1.1 64 (a i) = 0 := fun i hi => by
    rw [s4 63 (by decide), s7]
    exact hA i hi
  rw [s2]
  have hT : bpaS n c q1.1 = 0 := by
    rw [bpaS_L L1]
    have go : ∀ j, j ≤ m → itN (fun z i => if q1.1 65 (a i) = 1 then z + Int32.toInt64 (q1.1 63 (a i)) else z) 0 j = (0 : Int64) := by
      intro j
      induction j with
      | zero => exact fun _ => rfl
      | succ j ih =>
        intro hj
        rw [itN_s, ih (by omega), (hA1 j (by omega)).1]
        split
        · decide
        · rfl
    exact go m (Nat.le_refl _)
  have e2 : bypS n c 0 q1.1 N = ((inrS n c 1 0 q1.1).2, ((inrS n c 1 0 q1.1).1, N)) := by
    unfold bypS
    rw [hT]
    exact if_neg (by decide)
  rw [e2]
  dsimp only
  obtain ⟨t2, t4, t7⟩ := inr_0 (how := 1) hA1 m (Nat.le_refl _)
  rw [← inrS_L L1] at t2 t4 t7
  generalize inrS n c 1 0 q1.1 = q2 at t2 t4 t7 ⊢
  rw [t2]
  have L2 : lstI q2.1 c n m a := lstI_fr (t4 66 (by decide)) (t4 49 (by decide)) L1
  obtain ⟨w2, w4, w7⟩ := inr_0 (how := 2) (Z := q2.1) (a := a) (m := m) (fun i hi => by
    rw [t4 63 (by decide), t7]
    exact hA1 i hi) m (Nat.le_refl _)
  rw [← inrS_L L2] at w2 w4 w7
  exact ⟨fun r hr => (w4 r hr).trans ((t4 r hr).trans (s4 r hr)), fun k => (w7 k).trans ((t7 k).trans (s7 k))⟩
