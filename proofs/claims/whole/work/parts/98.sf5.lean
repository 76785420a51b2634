/-! ===== class against reference: by parts: the rests ===== -/
theorem gre_c (R : Nat → Int64) : ∀ k, (∀ i, i ≤ k → (R i).toInt ≤ (R (greS R k)).toInt) ∧ ∀ i, i < greS R k → (R i).toInt < (R (greS R k)).toInt
  | 0 => ⟨fun i hi => by rw [show i = 0 by omega]; exact Int.le_refl _, fun i hi => absurd hi (Nat.not_lt_zero i)⟩
  | k + 1 => by
    obtain ⟨i1, i2⟩ := gre_c R k
    have hle := greS_le R k
    have e : greS R (k + 1) = if R (greS R k) < R (k + 1) then k + 1 else greS R k := itN_s _ _ _
    rw [e]
    by_cases q : R (greS R k) < R (k + 1)
    · rw [if_pos q]
      rw [fa_lt64] at q
      refine ⟨fun i hi => ?_, fun i hi => ?_⟩
      · rcases Nat.lt_or_ge k i with y | y
        · rw [show i = k + 1 by omega]; exact Int.le_refl _
        · have := i1 i y; omega
      · have := i1 i (by omega); omega
    · rw [if_neg q]
      rw [fa_lt64] at q
      refine ⟨fun i hi => ?_, i2⟩
      rcases Nat.lt_or_ge k i with y | y
      · rw [show i = k + 1 by omega]; omega
      · exact i1 i y
theorem bpg_c {M : mM} {N : mN} {a : Nat → Nat} {m : Nat} (ha : ∀ i, i < m → 1 ≤ a i ∧ a i < 201) : ∀ j, j ≤ m → (itN (bpgL M N a) 0 j = 0 ∧ ∀ i, i < j → itq M a i = false) ∨ ∃ b, b < j ∧ itq M a b = true ∧ itN (bpgL M N a) 0 j = nI (a b) ∧ (∀ i, i < j → itq M a i = true → (N 67 (a i)).toInt ≤ (N 67 (a b)).toInt) ∧ ∀ i, i < b → itq M a i = true → (N 67 (a i)).toInt < (N 67 (a b)).toInt := by
  intro j
  induction j with
  | zero => exact fun _ => Or.inl ⟨rfl, fun i hi => absurd hi (Nat.not_lt_zero i)⟩
  | succ j ih =>
    intro hj
    replace ih := ih (by omega)
    have haj := ha j (by omega)
    rw [itN_s]
    generalize itN (bpgL M N a) 0 j = z at ih ⊢
    unfold bpgL
    by_cases hq : itq M a j = true
    · rw [if_pos (show M 65 (a j) = 1 from of_decide_eq_true hq)]
      rcases ih with ⟨z1, z2⟩ | ⟨b, hb, b1, b2, b3, b4⟩
      · rw [if_pos z1]
        refine Or.inr ⟨j, by omega, hq, rfl, fun i hi hqi => ?_, fun i hi hqi => ?_⟩
        · by_cases e : i = j
          · subst e; exact Int.le_refl _
          · rw [z2 i (by omega)] at hqi; exact absurd hqi (by decide)
        · rw [z2 i hi] at hqi; exact absurd hqi (by decide)
      · have hab := ha b (by omega)
        rw [b2, if_neg (nI_ne0 hab.1 (by omega)), nI_clamp (show a b < 2147483648 by omega)]
        by_cases q : lg_cmp (N 67 (a j)) (N 67 (a b)) ≤ 0
        · rw [if_pos q]
          have hn := nlt_of_lg q
          rw [fa_lt64] at hn
          refine Or.inr ⟨b, by omega, b1, rfl, fun i hi hqi => ?_, b4⟩
          by_cases e : i = j
          · subst e; omega
          · exact b3 i (by omega) hqi
        · rw [if_neg q]
          have hn := lt_of_lg q
          rw [fa_lt64] at hn
          refine Or.inr ⟨j, by omega, hq, rfl, fun i hi hqi => ?_, fun i hi hqi => ?_⟩
          · by_cases e : i = j
            · subst e; exact Int.le_refl _
            · have := b3 i (by omega) hqi; omega
          · have := b3 i hi hqi; omega
    · rw [if_neg (fun c => hq (decide_eq_true c))]
      rcases ih with ⟨z1, z2⟩ | ⟨b, hb, b1, b2, b3, b4⟩
      · refine Or.inl ⟨z1, fun i hi => ?_⟩
        by_cases e : i = j
        · subst e; exact Bool.eq_false_iff.mpr hq
        · exact z2 i (by omega)
      · refine Or.inr ⟨b, by omega, b1, b2, fun i hi hqi => ?_, b4⟩
        by_cases e : i = j
        · subst e; exact absurd hqi hq
        · exact b3 i (by omega) hqi
def rsI (B : Nat → Bool) (X Z : mM) (N : mN) (a A : Nat → Nat) (l T m D j : Nat) (u : Nat → Bool) (z : fS) (y : mM × mN) : Prop := (∀ r, r ≠ 3 → z.1 r = X r) ∧ (∀ r, r ≠ 64 → y.1 r = Z r) ∧ (∀ r, r ≠ 67 → y.2 r = N r) ∧ (∀ k, k < 201 → z.1 3 k = y.1 64 k) ∧ (∀ i, i < m → z.2 i = if B (a i) = true then (if u i = true then -1 else nL (l * A i % T)) else -1) ∧ (∀ i, i < m → itq Z a i = true → y.2 67 (a i) = if u i = true then -1 else nL (l * A i % T)) ∧ (∀ i, u i = true → B (a i) = true) ∧ D * T + j ≤ sn_f (fun i => itq Z a i && !u i) (fun i => l * A i % T) m + j * T ∧ (∀ i, i < m → B (a i) = false → Z 65 (a i) = 1 → y.1 64 (a i) = 0) ∧ ∀ k, (Z 65 k ≠ 1 ∨ ∀ i, i < m → a i ≠ k) → y.1 64 k = Z 64 k
theorem rs_e {B : Nat → Bool} {X Z : mM} {N : mN} {a A : Nat → Nat} {l T m n D : Nat} {c : Int32} (L : lstI Z c n m a) (I : itmI B X Z a A m) (hT : 0 < T) (hT9 : T < 100000000) {j : Nat} (hj : j < D) {u : Nat → Bool} {z : fS} {y : mM × mN} (J : rsI B X Z N a A l T m D j u z y) : ∃ u1, rsI B X Z N a A l T m D (j + 1) u1 (prB m z j) (bpwB n c y 0) := by
  obtain ⟨i1, i2, i2b, i3, i4, i5, i6, i7, i8, i9⟩ := J
  obtain ⟨hm, h5, hinj, hA⟩ := I
  have hrT : ∀ i, l * A i % T < T := fun i => Nat.mod_lt _ hT
  have hS : 0 < sn_f (fun i => itq Z a i && !u i) (fun i => l * A i % T) m := by
    have h1 : (j + 1) * T ≤ D * T := Nat.mul_le_mul_right T hj
    rw [Nat.succ_mul] at h1
    omega
  obtain ⟨i0, hi0, q0, r0⟩ := sn_pos m hS
  have hpos : ∀ i, i < m → itq Z a i = true → 0 < l * A i % T → B (a i) = true := fun i hi hq hr => by
    obtain ⟨a1, a2, a3, a4⟩ := hA i hi
    rcases a4 with w | ⟨w1, w2, w3⟩
    · exact w.mpr (of_decide_eq_true hq)
    · rw [w3, Nat.mul_zero, Nat.zero_mod] at hr
      exact absurd hr (Nat.lt_irrefl 0)
  have hBq : ∀ i, i < m → B (a i) = true → itq Z a i = true := fun i hi hB => by
    obtain ⟨a1, a2, a3, a4⟩ := hA i hi
    rcases a4 with w | ⟨w1, w2, w3⟩
    · exact decide_eq_true (w.mp hB)
    · rw [w1] at hB; exact absurd hB (by decide)
  have q01 : itq Z a i0 = true := (Bool.and_eq_true_iff.mp q0).1
  have q02 : u i0 = false := by
    have := (Bool.and_eq_true_iff.mp q0).2
    cases h : u i0 with
    | false => rfl
    | true => rw [h] at this; exact absurd this (by decide)
  have m1 : (-1 : Int64).toInt = -1 := by decide
  have hnL : ∀ i, (nL (l * A i % T)).toInt = ((l * A i % T : Nat) : Int) := fun i => nL_i (by have := hrT i; omega)
  have hz0 : (z.2 i0).toInt = ((l * A i0 % T : Nat) : Int) := by
    rw [i4 i0 hi0, if_pos (hpos i0 hi0 q01 r0), q02]
    exact hnL i0
  obtain ⟨g1, g2⟩ := gre_c z.2 (m - 1)
  have hgle := greS_le z.2 (m - 1)
  have hgm : greS z.2 (m - 1) < m := by omega
  unfold prB bpwB
  generalize hg : greS z.2 (m - 1) = gg at g1 g2 hgle hgm ⊢
  have hg0 := g1 i0 (by omega)
  have hBg : B (a gg) = true := by
    cases h : B (a gg) with
    | true => rfl
    | false =>
      rw [i4 gg hgm, if_neg (show ¬ B (a gg) = true by rw [h]; decide), m1] at hg0
      omega
  have hug : u gg = false := by
    cases h : u gg with
    | false => rfl
    | true =>
      rw [i4 gg hgm, if_pos hBg, if_pos h, m1] at hg0
      omega
  have hzg : z.2 gg = nL (l * A gg % T) := by
    rw [i4 gg hgm, if_pos hBg, if_neg (show ¬ u gg = true by rw [hug]; decide)]
  have hqg := hBq gg hgm hBg
  have hNg : y.2 67 (a gg) = nL (l * A gg % T) := by
    rw [i5 gg hgm hqg, if_neg (show ¬ u gg = true by rw [hug]; decide)]
  have hIn := lst_in L
  have hitq : itq y.1 a = itq Z a := by
    unfold itq
    rw [i2 65 (by decide)]
  have hbe : bpgS n c y.1 y.2 = a gg := by
    rw [bpgS_L (lstI_fr (i2 66 (by decide)) (i2 49 (by decide)) L)]
    rcases bpg_c (M := y.1) (N := y.2) (a := a) (m := m) (fun i hi => ⟨(hIn.2 i hi).1.1, (h5 i hi).2⟩) m (Nat.le_refl _) with ⟨z1, z2⟩ | ⟨b, hb, b1, b2, b3, b4⟩
    · have := z2 i0 hi0
      rw [hitq, q01] at this
      exact absurd this (by decide)
    · rw [hitq] at b1 b3 b4
      have hb0 := b3 i0 hi0 q01
      rw [i5 i0 hi0 q01, q02] at hb0
      change (nL (l * A i0 % T)).toInt ≤ _ at hb0
      rw [hnL] at hb0
      have hub : u b = false := by
        cases h : u b with
        | false => rfl
        | true =>
          rw [i5 b hb b1, if_pos h, m1] at hb0
          omega
      have hNb : y.2 67 (a b) = nL (l * A b % T) := by
        rw [i5 b hb b1, if_neg (show ¬ u b = true by rw [hub]; decide)]
      rw [hNb, hnL] at hb0
      have hBb := hpos b hb b1 (by omega)
      have hzb : z.2 b = nL (l * A b % T) := by
        rw [i4 b hb, if_pos hBb, if_neg (show ¬ u b = true by rw [hub]; decide)]
      have c1 := b3 gg hgm hqg
      have c2 := g1 b (by omega)
      rw [hNg, hNb, hnL, hnL] at c1
      rw [hzb, hzg, hnL, hnL] at c2
      have egb : gg = b := by
        rcases Nat.lt_or_ge gg b with w | w
        · have := b4 gg w hqg
          rw [hNg, hNb, hnL, hnL] at this
          omega
        · rcases Nat.lt_or_ge b gg with w2 | w2
          · have := g2 b w2
            rw [hzb, hzg, hnL, hnL] at this
            omega
          · omega
      rw [b2, ← egb, nI_clamp (show a gg < 2147483648 by have := (h5 gg hgm).2; omega)]
  have he5 : (z.1 5 gg).toNatClampNeg = a gg := by
    rw [i1 5 (by decide), (h5 gg hgm).1, nI_clamp (show a gg < 2147483648 by have := (h5 gg hgm).2; omega)]
  rw [hbe, he5]
  refine ⟨fun i => u i || decide (i = gg), fun r hr => (up2_row hr).trans (i1 r hr), fun r hr => (up2_row hr).trans (i2 r hr), fun r hr => ?_, fun k hk => ?_, fun i hi => ?_, fun i hi hqi => ?_, fun i hi => ?_, ?_, fun i hi b1 b2 => ?_, fun k hk => ?_⟩
  · refine Eq.trans ?_ (i2b r hr)
    funext k
    exact up2_a _ _ hr
  · dsimp only
    have h3 := i3 (a gg) (h5 gg hgm).2
    by_cases e : k = a gg
    · subst e; rw [up2_s, up2_s, h3]
    · rw [up2_k _ _ e, up2_k _ _ e]; exact i3 k hk
  · dsimp only
    unfold va_up
    by_cases e : i = gg
    · subst e
      rw [if_pos rfl, if_pos hBg, if_pos (by rw [decide_eq_true rfl, Bool.or_true])]
    · have hu : (u i || decide (i = gg)) = u i := by rw [decide_eq_false e, Bool.or_false]
      rw [if_neg e, i4 i hi]
      simp only [hu]
  · dsimp only
    by_cases e : i = gg
    · subst e
      rw [up2_s, if_pos (by rw [decide_eq_true rfl, Bool.or_true])]
    · have hu : (u i || decide (i = gg)) = u i := by rw [decide_eq_false e, Bool.or_false]
      rw [up2_k _ _ (fun w => e (hinj i gg hi hgm w)), i5 i hi hqi]
      simp only [hu]
  · by_cases e : i = gg
    · subst e; exact hBg
    · dsimp only at hi
      rw [decide_eq_false e, Bool.or_false] at hi
      exact i6 i hi
  · have ho := sn_out (q := fun i => itq Z a i && !u i) (q1 := fun i => itq Z a i && !(u i || decide (i = gg))) (v := fun i => l * A i % T) (g := gg) (by rw [hqg, hug]; rfl) (by rw [decide_eq_true rfl, Bool.or_true]; exact Bool.and_false _) (fun i hne => by rw [decide_eq_false hne, Bool.or_false]) m hgm
    have hr := hrT gg
    rw [Nat.succ_mul]
    show D * T + (j + 1) ≤ sn_f (fun i => itq Z a i && !(u i || decide (i = gg))) (fun i => l * A i % T) m + (j * T + T)
    omega
  · dsimp only
    by_cases e : a i = a gg
    · rw [e] at b1; rw [b1] at hBg; exact absurd hBg (by decide)
    · rw [up2_k _ _ e]; exact i8 i hi b1 b2
  · dsimp only
    by_cases e : k = a gg
    · rcases hk with w | w
      · subst e; exact absurd (of_decide_eq_true hqg) w
      · exact absurd e.symm (w gg hgm)
    · rw [up2_k _ _ e]; exact i9 k hk
theorem rs_all {B : Nat → Bool} {X Z : mM} {N : mN} {a A : Nat → Nat} {l T m n D : Nat} {c : Int32} (L : lstI Z c n m a) (I : itmI B X Z a A m) (hT : 0 < T) (hT9 : T < 100000000) {u : Nat → Bool} {z : fS} {y : mM × mN} (J : rsI B X Z N a A l T m D 0 u z y) : ∀ j, j ≤ D → ∃ u1, rsI B X Z N a A l T m D j u1 (prS m z j) (bpwS n c y j)
  | 0, _ => ⟨u, J⟩
  | j + 1, hj => by
    obtain ⟨u1, J1⟩ := rs_all L I hT hT9 J j (by omega)
    exact rs_e L I hT hT9 (by omega) J1
