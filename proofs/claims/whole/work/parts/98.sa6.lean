/-! ===== class against reference: acts ===== -/
/-- one act -/
def acQ (F M : mM) (w g n a : Nat) : Prop := F 163 a = M 47 a ∧ F 164 a = M 51 a ∧ (M 47 a = 1 ∨ M 47 a = 2 ∨ M 47 a = 3) ∧ (M 51 a = 0 ∨ ∃ b, a < b ∧ b ≤ n ∧ M 51 a = nI b) ∧ (¬ M 47 a = 3 → F 159 a = M 48 a ∧ ∃ o, o ≤ 8 ∧ M 48 a = nI o) ∧ (M 47 a = 2 → F 160 a = M 49 a ∧ F 161 a = M 50 a ∧ (∃ c, c < w * g ∧ M 49 a = nI c) ∧ ∃ v, v ≤ 99999 ∧ M 50 a = nI v)
/-- the acts, and as which one it is judged -/
def rA (F M : mM) (w g n : Nat) : Prop := (F 158 0 = nI n ∧ M 0 62 = nI n ∧ n ≤ 200) ∧ (F 158 1 = M 0 68 ∧ (M 0 68 = -1 ∨ ∃ s, s ≤ n ∧ M 0 68 = nI s)) ∧ ∀ a, 1 ≤ a → a ≤ n → acQ F M w g n a
theorem acQ_fr {F F1 M M1 : mM} {w g n n1 a : Nat} (hn : n ≤ n1) (e : F1 159 a = F 159 a ∧ F1 160 a = F 160 a ∧ F1 161 a = F 161 a ∧ F1 163 a = F 163 a) (e2 : M1 47 a = M 47 a ∧ M1 48 a = M 48 a ∧ M1 49 a = M 49 a ∧ M1 50 a = M 50 a) (e3 : (F1 164 a = F 164 a ∧ M1 51 a = M 51 a) ∨ (F1 164 a = M1 51 a ∧ ∃ b, a < b ∧ b ≤ n1 ∧ M1 51 a = nI b)) (R : acQ F M w g n a) : acQ F1 M1 w g n1 a := by
  obtain ⟨a1, a2, a3, a4, a5, a6⟩ := R
  unfold acQ
  rw [e.1, e.2.1, e.2.2.1, e.2.2.2, e2.1, e2.2.1, e2.2.2.1, e2.2.2.2]
  refine ⟨a1, ?_, a3, ?_, a5, a6⟩
  · rcases e3 with ⟨q1, q2⟩ | ⟨q1, _⟩
    · rw [q1, q2]; exact a2
    · exact q1
  · rcases e3 with ⟨q1, q2⟩ | ⟨_, q2⟩
    · rw [q2]
      rcases a4 with z | ⟨b, b1, b2, b3⟩
      · exact Or.inl z
      · exact Or.inr ⟨b, b1, by omega, b3⟩
    · exact Or.inr q2
theorem rA_fr {F F1 M M1 : mM} {w g n : Nat} (e : ∀ x, 158 ≤ x ∧ x ≤ 164 → F1 x = F x) (e0 : M1 0 62 = M 0 62 ∧ M1 0 68 = M 0 68) (e2 : ∀ x, 47 ≤ x ∧ x ≤ 51 → M1 x = M x) (R : rA F M w g n) : rA F1 M1 w g n := by
  obtain ⟨⟨a1, a2, a3⟩, ⟨b1, b2⟩, c⟩ := R
  refine ⟨⟨by rw [e 158 (by decide)]; exact a1, e0.1.trans a2, a3⟩, ⟨by rw [e 158 (by decide), e0.2]; exact b1, by rw [e0.2]; exact b2⟩, fun a h1 h2 => ?_⟩
  exact acQ_fr (Nat.le_refl _) ⟨by rw [e 159 (by decide)], by rw [e 160 (by decide)], by rw [e 161 (by decide)], by rw [e 163 (by decide)]⟩ ⟨by rw [e2 47 (by decide)], by rw [e2 48 (by decide)], by rw [e2 49 (by decide)], by rw [e2 50 (by decide)]⟩ (Or.inl ⟨by rw [e 164 (by decide)], by rw [e2 51 (by decide)]⟩) (c a h1 h2)
theorem rA_add {F F1 M M1 : mM} {w g n : Nat} (hn : n < 200) (e0 : F1 158 0 = nI (n + 1) ∧ M1 0 62 = nI (n + 1) ∧ F1 158 1 = F 158 1 ∧ M1 0 68 = M 0 68) (e : ∀ a, a ≤ n → F1 159 a = F 159 a ∧ F1 160 a = F 160 a ∧ F1 161 a = F 161 a ∧ F1 163 a = F 163 a) (e2 : ∀ a, a ≤ n → M1 47 a = M 47 a ∧ M1 48 a = M 48 a ∧ M1 49 a = M 49 a ∧ M1 50 a = M 50 a) (e3 : ∀ a, a ≤ n → (F1 164 a = F 164 a ∧ M1 51 a = M 51 a) ∨ (F1 164 a = nI (n + 1) ∧ M1 51 a = nI (n + 1))) (q : acQ F1 M1 w g (n + 1) (n + 1)) (R : rA F M w g n) : rA F1 M1 w g (n + 1) := by
  obtain ⟨⟨a1, a2, a3⟩, ⟨b1, b2⟩, c⟩ := R
  refine ⟨⟨e0.1, e0.2.1, hn⟩, ⟨by rw [e0.2.2.1, e0.2.2.2]; exact b1, ?_⟩, fun a h1 h2 => ?_⟩
  · rw [e0.2.2.2]
    rcases b2 with z | ⟨s, s1, s2⟩
    · exact Or.inl z
    · exact Or.inr ⟨s, by omega, s2⟩
  · by_cases z : a = n + 1
    · subst z; exact q
    · have hle : a ≤ n := by omega
      refine acQ_fr (Nat.le_succ n) (e a hle) (e2 a hle) ?_ (c a h1 hle)
      rcases e3 a hle with y | ⟨y1, y2⟩
      · exact Or.inl y
      · exact Or.inr ⟨y1.trans y2.symm, n + 1, by omega, Nat.le_refl _, y2⟩
theorem rA_0 {F M : mM} {w g : Nat} (e0 : F 158 0 = 0 ∧ M 0 62 = 0 ∧ F 158 1 = -1 ∧ M 0 68 = -1) : rA F M w g 0 := ⟨⟨e0.1, e0.2.1, by decide⟩, ⟨e0.2.2.1.trans e0.2.2.2.symm, Or.inl e0.2.2.2⟩, fun a h1 h2 => absurd h1 (by omega)⟩
theorem rA_as {F M : mM} {w g n : Nat} {v : Int32} (hv : v = -1 ∨ ∃ s, s ≤ n ∧ v = nI s) (R : rA F M w g n) : rA (up2 F 158 1 v) (up2 M 0 68 v) w g n := by
  obtain ⟨⟨a1, a2, a3⟩, -, c⟩ := R
  refine ⟨⟨(up2_k _ _ (by decide)).trans a1, (up2_k _ _ (by decide)).trans a2, a3⟩, ⟨by rw [up2_s, up2_s], by rw [up2_s]; exact hv⟩, fun a h1 h2 => ?_⟩
  refine acQ_fr (Nat.le_refl _) ?_ ?_ (Or.inl ?_) (c a h1 h2)
  · exact ⟨up2_a _ _ (by decide), up2_a _ _ (by decide), up2_a _ _ (by decide), up2_a _ _ (by decide)⟩
  · exact ⟨up2_a _ _ (by decide), up2_a _ _ (by decide), up2_a _ _ (by decide), up2_a _ _ (by decide)⟩
  · exact ⟨up2_a _ _ (by decide), up2_a _ _ (by decide)⟩
/-- rows of the reference behind a new act -/
theorem mac_lo {M : mM} {n : Nat} {k o c v : Int32} {r a : Nat} (hr : r ≠ 0) (ha : a ≤ n) : macT M n k o c v r a = M r a := by
  unfold macT
  have h : a ≠ n + 1 := by omega
  rw [up2_k _ _ h, up2_k _ _ h, up2_k _ _ h, up2_k _ _ h, up2_k _ _ h, up2_a _ _ hr]
theorem mac_new {M : mM} {n : Nat} {k o c v : Int32} : macT M n k o c v 47 (n + 1) = k ∧ macT M n k o c v 48 (n + 1) = o ∧ macT M n k o c v 49 (n + 1) = c ∧ macT M n k o c v 50 (n + 1) = v ∧ macT M n k o c v 51 (n + 1) = 0 := by
  unfold macT
  refine ⟨?_, ?_, ?_, ?_, up2_s _ _ _ _⟩
  · rw [up2_a _ _ (by decide), up2_a _ _ (by decide), up2_a _ _ (by decide), up2_a _ _ (by decide), up2_s]
  · rw [up2_a _ _ (by decide), up2_a _ _ (by decide), up2_a _ _ (by decide), up2_s]
  · rw [up2_a _ _ (by decide), up2_a _ _ (by decide), up2_s]
  · rw [up2_a _ _ (by decide), up2_s]
theorem mac_62 {M : mM} {n : Nat} {k o c v : Int32} : macT M n k o c v 0 62 = nI (n + 1) := by
  unfold macT
  rw [up2_a _ _ (by decide), up2_a _ _ (by decide), up2_a _ _ (by decide), up2_a _ _ (by decide), up2_a _ _ (by decide), up2_s]
theorem rA_policy {F M : mM} {w g n o c v : Nat} (hn : n < 200) (ho : o ≤ 8) (hc : c < w * g) (hv : v ≤ 99999) (R : rA F M w g n) : rA (up2 (up2 (up2 (up2 (up2 (up2 F 158 0 (nI (n + 1))) 163 (n + 1) 2) 164 (n + 1) 0) 160 (n + 1) (nI c)) 159 (n + 1) (nI o)) 161 (n + 1) (nI v)) (macT M n 2 (nI o) (nI c) (nI v)) w g (n + 1) := by
  have hne : ∀ {a}, a ≤ n → a ≠ n + 1 := fun h => by omega
  refine rA_add hn ⟨?_, mac_62, ?_, macT_0 (by decide)⟩ (fun a ha => ?_) (fun a ha => ⟨mac_lo (by decide) ha, mac_lo (by decide) ha, mac_lo (by decide) ha, mac_lo (by decide) ha⟩) (fun a ha => Or.inl ⟨?_, mac_lo (by decide) ha⟩) ?_ R
  · rw [up2_a _ _ (by decide), up2_a _ _ (by decide), up2_a _ _ (by decide), up2_a _ _ (by decide), up2_a _ _ (by decide), up2_s]
  · rw [up2_a _ _ (by decide), up2_a _ _ (by decide), up2_a _ _ (by decide), up2_a _ _ (by decide), up2_a _ _ (by decide), up2_k _ _ (by decide)]
  · have h := hne ha
    refine ⟨?_, ?_, ?_, ?_⟩ <;> rw [up2_k _ _ h, up2_k _ _ h, up2_k _ _ h, up2_k _ _ h, up2_k _ _ h, up2_a _ _ (by decide)]
  · have h := hne ha
    rw [up2_k _ _ h, up2_k _ _ h, up2_k _ _ h, up2_k _ _ h, up2_k _ _ h, up2_a _ _ (by decide)]
  · obtain ⟨m1, m2, m3, m4, m5⟩ := mac_new (M := M) (n := n) (k := 2) (o := nI o) (c := nI c) (v := nI v)
    unfold acQ
    rw [m1, m2, m3, m4, m5]
    refine ⟨?_, ?_, Or.inr (Or.inl rfl), Or.inl rfl, fun _ => ⟨?_, o, ho, rfl⟩, fun _ => ⟨?_, up2_s _ _ _ _, ⟨c, hc, rfl⟩, v, hv, rfl⟩⟩
    · rw [up2_a _ _ (by decide), up2_a _ _ (by decide), up2_a _ _ (by decide), up2_a _ _ (by decide), up2_s]
    · rw [up2_a _ _ (by decide), up2_a _ _ (by decide), up2_a _ _ (by decide), up2_s]
    · rw [up2_a _ _ (by decide), up2_s]
    · rw [up2_a _ _ (by decide), up2_a _ _ (by decide), up2_s]
theorem rA_annul {F M : mM} {w g n k : Nat} (hn : n < 200) (hk : 1 ≤ k ∧ k ≤ n) (R : rA F M w g n) : rA (up2 (up2 (up2 (up2 F 158 0 (nI (n + 1))) 163 (n + 1) 3) 164 (n + 1) 0) 164 k (nI (n + 1))) (macT (up2 M 51 k (nI (n + 1))) n 3 0 0 (nI k)) w g (n + 1) := by
  have hne : ∀ {a}, a ≤ n → a ≠ n + 1 := fun h => by omega
  refine rA_add hn ⟨?_, mac_62, ?_, (macT_0 (by decide)).trans (up2_a _ _ (by decide))⟩ (fun a ha => ?_) (fun a ha => ⟨(mac_lo (by decide) ha).trans (up2_a _ _ (by decide)), (mac_lo (by decide) ha).trans (up2_a _ _ (by decide)), (mac_lo (by decide) ha).trans (up2_a _ _ (by decide)), (mac_lo (by decide) ha).trans (up2_a _ _ (by decide))⟩) (fun a ha => ?_) ?_ R
  · rw [up2_a _ _ (by decide), up2_a _ _ (by decide), up2_a _ _ (by decide), up2_s]
  · rw [up2_a _ _ (by decide), up2_a _ _ (by decide), up2_a _ _ (by decide), up2_k _ _ (by decide)]
  · have h := hne ha
    refine ⟨?_, ?_, ?_, ?_⟩
    · rw [up2_a _ _ (by decide), up2_a _ _ (by decide), up2_a _ _ (by decide), up2_a _ _ (by decide)]
    · rw [up2_a _ _ (by decide), up2_a _ _ (by decide), up2_a _ _ (by decide), up2_a _ _ (by decide)]
    · rw [up2_a _ _ (by decide), up2_a _ _ (by decide), up2_a _ _ (by decide), up2_a _ _ (by decide)]
    · rw [up2_a _ _ (by decide), up2_a _ _ (by decide), up2_k _ _ h, up2_a _ _ (by decide)]
  · have h := hne ha
    by_cases e : a = k
    · subst e
      exact Or.inr ⟨up2_s _ _ _ _, (mac_lo (by decide) ha).trans (up2_s _ _ _ _)⟩
    · exact Or.inl ⟨by rw [up2_k _ _ e, up2_k _ _ h, up2_a _ _ (by decide), up2_a _ _ (by decide)], (mac_lo (by decide) ha).trans (up2_k _ _ e)⟩
  · obtain ⟨m1, m2, m3, m4, m5⟩ := mac_new (M := up2 M 51 k (nI (n + 1))) (n := n) (k := 3) (o := 0) (c := 0) (v := nI k)
    unfold acQ
    rw [m1, m2, m3, m4, m5]
    refine ⟨?_, ?_, Or.inr (Or.inr rfl), Or.inl rfl, fun z => absurd rfl z, fun z => absurd z (by decide)⟩
    · rw [up2_a _ _ (by decide), up2_a _ _ (by decide), up2_s]
    · rw [up2_k _ _ (show n + 1 ≠ k by omega), up2_s]
theorem rA_terms {F M : mM} {w g n o : Nat} (hn : n < 200) (ho : o ≤ 8) (R : rA F M w g n) : rA (up2 (up2 (up2 (up2 F 158 0 (nI (n + 1))) 163 (n + 1) 1) 164 (n + 1) 0) 159 (n + 1) (nI o)) (macT M n 1 (nI o) 0 0) w g (n + 1) := by
  have hne : ∀ {a}, a ≤ n → a ≠ n + 1 := fun h => by omega
  refine rA_add hn ⟨?_, mac_62, ?_, macT_0 (by decide)⟩ (fun a ha => ?_) (fun a ha => ⟨mac_lo (by decide) ha, mac_lo (by decide) ha, mac_lo (by decide) ha, mac_lo (by decide) ha⟩) (fun a ha => Or.inl ⟨?_, mac_lo (by decide) ha⟩) ?_ R
  · rw [up2_a _ _ (by decide), up2_a _ _ (by decide), up2_a _ _ (by decide), up2_s]
  · rw [up2_a _ _ (by decide), up2_a _ _ (by decide), up2_a _ _ (by decide), up2_k _ _ (by decide)]
  · have h := hne ha
    refine ⟨?_, ?_, ?_, ?_⟩ <;> rw [up2_k _ _ h, up2_k _ _ h, up2_k _ _ h, up2_a _ _ (by decide)]
  · have h := hne ha
    rw [up2_k _ _ h, up2_k _ _ h, up2_k _ _ h, up2_a _ _ (by decide)]
  · obtain ⟨m1, m2, m3, m4, m5⟩ := mac_new (M := M) (n := n) (k := 1) (o := nI o) (c := 0) (v := 0)
    unfold acQ
    rw [m1, m2, m3, m4, m5]
    refine ⟨?_, ?_, Or.inl rfl, Or.inl rfl, fun _ => ⟨up2_s _ _ _ _, o, ho, rfl⟩, fun z => absurd z (by decide)⟩
    · rw [up2_a _ _ (by decide), up2_a _ _ (by decide), up2_s]
    · rw [up2_a _ _ (by decide), up2_s]
/-- an act that may be made void: the same for both -/
theorem rA_void {F M : mM} {w g n : Nat} {k : Int32} (R : rA F M w g n) : (((1 ≤ k ∧ k ≤ F 158 0) ∧ (¬ F 163 k.toNatClampNeg = 3) ∧ F 164 k.toNatClampNeg = 0) ∧ (¬ 200 ≤ F 158 0)) ↔ manC M n k := by
  obtain ⟨⟨a1, a2, a3⟩, -, c⟩ := R
  rw [a1]
  have h2 : (¬ 200 ≤ nI n) ↔ n < 200 := by
    rw [fa_le, nI_toInt (by omega), show (200 : Int32).toInt = 200 from by decide]
    omega
  have go : (1 ≤ k ∧ k ≤ nI n) → acQ F M w g n k.toNatClampNeg := fun hk => by
    obtain ⟨T, h1, rfl, h3⟩ := isM_n (by omega) hk
    rw [nI_clamp (by omega)]
    exact c T h3 h1
  refine ⟨fun z => ?_, fun z => ?_⟩
  · have q := go z.1.1
    exact ⟨z.1.1, q.2.1.symm.trans z.1.2.2, fun y => z.1.2.1 (q.1.trans y), h2.mp z.2⟩
  · have q := go z.1
    exact ⟨⟨z.1, fun y => z.2.2.1 (q.1.symm.trans y), q.2.1.trans z.2.1⟩, h2.mpr z.2.2.2⟩
