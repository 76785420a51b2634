/-! ===== class against reference: by parts ===== -/
def bpI (B : Nat → Bool) (X Z : mM) (N : mN) (a : Nat → Nat) (l m : Nat) (p : fS × Int32) (q : Int32 × (mM × mN)) : Prop := (∃ l1, l1 ≤ l ∧ p.2 = nI l1 ∧ q.1 = nI l1) ∧ (∀ r, r ≠ 3 → p.1.1 r = X r) ∧ (∀ r, r ≠ 64 → q.2.1 r = Z r) ∧ (∀ r, r ≠ 67 → q.2.2 r = N r) ∧ (∀ k, k < 201 → p.1.1 3 k = q.2.1 64 k) ∧ (∀ i, i < m → B (a i) = false → Z 65 (a i) = 1 → q.2.1 64 (a i) = 0) ∧ (∀ k, (Z 65 k ≠ 1 ∨ ∀ i, i < m → a i ≠ k) → q.2.1 64 k = Z 64 k) ∧ ∀ K, 100000 ≤ K → l ≤ K → bd64 Z K → bd64 q.2.1 (K + 200)
theorem bd64_le {Z : mM} {K K1 : Nat} (h : K ≤ K1) (b : bd64 Z K) : bd64 Z K1 := fun k hk => by
  obtain ⟨v, hv, e⟩ := b k hk
  exact ⟨v, by omega, e⟩
theorem bpw_bd {n : Nat} {c : Int32} {z : mM × mN} {K : Nat} (b : bd64 z.1 K) : ∀ j, bd64 (bpwS n c z j).1 (K + j)
  | 0 => b
  | j + 1 => by
    have ih := bpw_bd (n := n) (c := c) b j
    have e : bpwS n c z (j + 1) = bpwB n c (bpwS n c z j) 0 := itN_s _ _ _
    rw [e]
    generalize bpwS n c z j = y at ih ⊢
    intro k hk
    unfold bpwB
    dsimp only
    obtain ⟨v, hv, ev9⟩ := ih k hk
    by_cases q : k = bpgS n c y.1 y.2
    · subst q
      rw [up2_s, ev9, nI_1]
      exact ⟨v + 1, by omega, rfl⟩
    · rw [up2_k _ _ q]
      exact ⟨v, by omega, ev9⟩
theorem byp_e {B : Nat → Bool} {X Z : mM} {N : mN} {R : Nat → Int64} {a A : Nat → Nat} {l m n : Nat} {c : Int32} (L : lstI Z c n m a) (I : itmI B X Z a A m) (hl9 : l < 1000000) (hR : ∀ k, k < 201 → X 3 k = Z 64 k) (hN : ∀ i, i < m → B (a i) = false → Z 65 (a i) = 1 → Z 64 (a i) = 0) : bpI B X Z N a l m (pbpS B (X, R) (nI l) m) (bypS n c (nI l) Z N) := by
  have hm := I.1
  have hb := sn_b (q := itq Z a) (v := A) (K := 100000) m (fun i hi => by have := (I.2.2.2 i hi).1; omega)
  have hb2 : 100000 * m ≤ 100000 * 200 := Nat.mul_le_mul_left _ hm
  obtain ⟨t1, t2⟩ := tog_e I m (Nat.le_refl _)
  unfold pbpS bypS pbpT
  dsimp only
  rw [bpaS_L L, t1, t2, nL_w (show l < 2147483648 by omega)]
  by_cases q : l < sn_f (itq Z a) A m
  · rw [if_pos (show nI l < nI (sn_f (itq Z a) A m) by rw [fa_lt, nI_toInt (by omega), nI_toInt (by omega)]; omega), if_pos (lg_pos.mpr ((nL_lt (by omega) (by omega)).mpr q)), bpfS_L L]
    have hF := flo_e (N := N) (R := R) I q hl9 hR hN m (Nat.le_refl _)
    have hdiv := sn_div (q := itq Z a) (A := A) (l := l) (T := sn_f (itq Z a) A m) m
    unfold flS
    dsimp only
    generalize hT : sn_f (itq Z a) A m = T at *
    have hT0 : 0 < T := by omega
    generalize itN (flB B (nI l) (nI T) (X 5)) ((X, R), nI l) m = z at hF ⊢
    generalize itN (bpfL (nI l) (nL T) a) ((Z, N), nI l) m = y at hF ⊢
    obtain ⟨⟨f1, f2⟩, f3, f4, f4b, f5, f6, f7, f8, f9, f10⟩ := hF
    generalize hFm : sn_f (itq Z a) (fun i => l * A i / T) m = Fm at f1 hdiv
    have hFl : Fm ≤ l := Nat.le_of_mul_le_mul_right (by omega : Fm * T ≤ l * T) hT0
    obtain ⟨D, hD⟩ : ∃ D, D = l - Fm := ⟨_, rfl⟩
    have hDT : D * T = sn_f (itq Z a) (fun i => l * A i % T) m := by
      rw [hD, Nat.sub_mul]
      omega
    have hDm : D ≤ m := by
      have h1 := sn_b (q := itq Z a) (v := fun i => l * A i % T) (K := T) m (fun i _ => Nat.le_of_lt (Nat.mod_lt _ hT0))
      rw [← hDT, Nat.mul_comm T] at h1
      exact Nat.le_of_mul_le_mul_right h1 hT0
    rw [f2, f1, ← hD, nI_clamp (show D < 2147483648 by omega), show min D m = D by omega]
    have J0 : rsI B X Z N a A l T m D 0 (fun _ => false) z.1 y.1 := by
      refine ⟨f3, f4, f4b, f5, fun i hi => ?_, fun i hi hqi => ?_, fun i hi => Bool.noConfusion (show false = true from hi), ?_, f8, f9⟩
      · rw [f6 i hi]
        rfl
      · rw [f7 i hi hqi]
        rfl
      · rw [hDT, Nat.zero_mul, Nat.add_zero, Nat.add_zero]
        refine Nat.le_of_eq (sn_ext m (fun i _ => ?_))
        show itq Z a i = (itq Z a i && !false)
        rw [Bool.not_false, Bool.and_true]
    obtain ⟨u1, J1⟩ := rs_all L I hT0 (by omega) J0 D (Nat.le_refl _)
    obtain ⟨j1, j2, j2b, j3, j4, j5, j6, j7, j8, j9⟩ := J1
    exact ⟨⟨0, Nat.zero_le _, rfl, rfl⟩, j1, j2, j2b, j3, j8, j9, fun K hK hl b => bd64_le (by omega) (bpw_bd (f10 K hl b) D)⟩
  · rw [if_neg (show ¬ nI l < nI (sn_f (itq Z a) A m) by rw [fa_lt, nI_toInt (by omega), nI_toInt (by omega)]; omega), if_neg (fun w => q ((nL_lt (by omega) (by omega)).mp (lg_pos.mp w))), inrS_L L]
    obtain ⟨hm, h5, hinj, hA⟩ := I
    obtain ⟨p1, p2, p3, p4, p5, p6, p7⟩ := pit_eq (B := B) (how := 1) (X := X) (Z := Z) (a := a) (l := l) (m := m) (by omega) h5 (fun i hi => ⟨A i, hA i hi⟩) hR hN m (Nat.le_refl _)
    exact ⟨p1, p2, p3, fun _ _ => rfl, p4, p5, p6, fun K hK _ b => bd64_le (by omega) (p7 K hK b)⟩
