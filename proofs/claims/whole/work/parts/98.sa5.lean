/-! ===== class against reference: bounds; engines; places ===== -/
/-- the first n of the row r are numbers up to K -/
def bnd (M : mM) (r n K : Nat) : Prop := ∀ c, c < n → ∃ k, k ≤ K ∧ M r c = nI k
theorem bnd_up {M : mM} {r c n K r1 : Nat} {v : Int32} (I : bnd M r1 n K) (h : r1 = r → ∃ k, k ≤ K ∧ v = nI k) : bnd (up2 M r c v) r1 n K := by
  intro i hi
  by_cases e : r1 = r ∧ i = c
  · obtain ⟨e1, e2⟩ := e
    subst e1; subst e2
    rw [up2_s]
    exact h rfl
  · rw [show up2 M r c v r1 i = M r1 i from if_neg e]
    exact I i hi
theorem bnd_fr {M M1 : mM} {r n K : Nat} (e : M1 r = M r) (I : bnd M r n K) : bnd M1 r n K := fun c hc => by rw [e]; exact I c hc
theorem bnd_fill {M M1 : mM} {r n K m : Nat} (e : M1 r = fa_fill (fun _ => 0) (M r) m) (I : bnd M r n K) : bnd M1 r n K := fun c hc => by
  rw [e]
  by_cases q : c < m
  · exact ⟨0, Nat.zero_le _, fa_fill_in q⟩
  · rw [fa_fill_out (by omega)]
    exact I c hc
theorem bd_of {v b : Int32} {K : Nat} (hb : b = nI K) (hK : K < 2147483648) (h : 0 ≤ v ∧ v ≤ b) : ∃ k, k ≤ K ∧ v = nI k := by
  obtain ⟨h0, h1⟩ := h
  rw [hb, fa_le, nI_toInt hK] at h1
  rw [fa_le, ti_0] at h0
  exact ⟨v.toNatClampNeg, Nat.le_of_lt_succ (ix_lt h0 (by omega)), ix_nI h0⟩
/-- what was told of the city is in its bounds -/
def bC (M : mM) : Prop := bnd M 31 120 3 ∧ bnd M 32 120 5 ∧ bnd M 33 120 9999 ∧ bnd M 34 120 1 ∧ bnd M 35 120 1 ∧ bnd M 36 6 9 ∧ bnd M 40 9 100000000 ∧ bnd M 45 81 1000 ∧ bnd M 37 121 7 ∧ bnd M 38 121 20
theorem bC_up {M : mM} {r c : Nat} {v : Int32} (I : bC M) (h : ∀ K, (r, K) ∈ [(31, 3), (32, 5), (33, 9999), (34, 1), (35, 1), (36, 9), (40, 100000000), (45, 1000), (37, 7), (38, 20)] → ∃ k, k ≤ K ∧ v = nI k) : bC (up2 M r c v) := by
  obtain ⟨a1, a2, a3, a4, a5, a6, a7, a8, a9, a10⟩ := I
  exact ⟨bnd_up a1 (fun e => h 3 (by subst e; decide)), bnd_up a2 (fun e => h 5 (by subst e; decide)), bnd_up a3 (fun e => h 9999 (by subst e; decide)), bnd_up a4 (fun e => h 1 (by subst e; decide)), bnd_up a5 (fun e => h 1 (by subst e; decide)), bnd_up a6 (fun e => h 9 (by subst e; decide)), bnd_up a7 (fun e => h 100000000 (by subst e; decide)), bnd_up a8 (fun e => h 1000 (by subst e; decide)), bnd_up a9 (fun e => h 7 (by subst e; decide)), bnd_up a10 (fun e => h 20 (by subst e; decide))⟩
theorem bC_fr {M M1 : mM} (e : ∀ x, (31 ≤ x ∧ x ≤ 38) ∨ x = 40 ∨ x = 45 → M1 x = M x) (I : bC M) : bC M1 := by
  obtain ⟨a1, a2, a3, a4, a5, a6, a7, a8, a9, a10⟩ := I
  exact ⟨bnd_fr (e 31 (by decide)) a1, bnd_fr (e 32 (by decide)) a2, bnd_fr (e 33 (by decide)) a3, bnd_fr (e 34 (by decide)) a4, bnd_fr (e 35 (by decide)) a5, bnd_fr (e 36 (by decide)) a6, bnd_fr (e 40 (by decide)) a7, bnd_fr (e 45 (by decide)) a8, bnd_fr (e 37 (by decide)) a9, bnd_fr (e 38 (by decide)) a10⟩
theorem bC_city {M : mM} {a b : Int32} (I : bC M) : bC (mciM a b M) := by
  obtain ⟨a1, a2, a3, a4, a5, a6, a7, a8, a9, a10⟩ := I
  exact ⟨bnd_fr (mci_row (by decide)) a1, bnd_fr (mci_row (by decide)) a2, bnd_fr (mci_row (by decide)) a3, bnd_fill mci_34 a4, bnd_fill mci_35 a5, bnd_fr (mci_row (by decide)) a6, bnd_fr (mci_row (by decide)) a7, bnd_fill mci_45 a8, bnd_fr (mci_row (by decide)) a9, bnd_fr (mci_row (by decide)) a10⟩
/-- engines -/
def rE (F M : mM) (w g m : Nat) : Prop := F 145 0 = nI m ∧ M 0 54 = nI m ∧ m ≤ 12 ∧ ∀ e, e < m → (F 146 e = M 41 e ∧ F 147 e = M 42 e ∧ F 148 e = M 43 e ∧ F 149 e = M 44 e) ∧ (∃ k, k ≤ 8 ∧ M 41 e = nI k) ∧ (∃ k, k < w * g ∧ M 42 e = nI k) ∧ (∃ k, 1 ≤ k ∧ k ≤ 9 ∧ M 43 e = nI k) ∧ (∃ k, 1 ≤ k ∧ k ≤ 9 ∧ M 44 e = nI k)
theorem rE_fr {F F1 M M1 : mM} {w g m : Nat} (e0 : F1 145 0 = F 145 0 ∧ M1 0 54 = M 0 54) (e : ∀ x, 146 ≤ x ∧ x ≤ 149 → F1 x = F x) (e2 : ∀ x, 41 ≤ x ∧ x ≤ 44 → M1 x = M x) (R : rE F M w g m) : rE F1 M1 w g m := by
  obtain ⟨a1, a2, a3, a4⟩ := R
  refine ⟨e0.1.trans a1, e0.2.trans a2, a3, fun k hk => ?_⟩
  rw [e 146 (by decide), e 147 (by decide), e 148 (by decide), e 149 (by decide), e2 41 (by decide), e2 42 (by decide), e2 43 (by decide), e2 44 (by decide)]
  exact a4 k hk
theorem rE_0 {F M : mM} {w g : Nat} (e0 : F 145 0 = 0 ∧ M 0 54 = 0) : rE F M w g 0 := ⟨e0.1, e0.2, by decide, fun e he => absurd he (Nat.not_lt_zero e)⟩
theorem rE_engine {F M : mM} {w g m : Nat} {o c a b : Nat} (hm : m < 12) (ho : o ≤ 8) (hc : c < w * g) (ha : 1 ≤ a ∧ a ≤ 9) (hb : 1 ≤ b ∧ b ≤ 9) (R : rE F M w g m) : rE (up2 (up2 (up2 (up2 (up2 F 146 m (nI o)) 147 m (nI c)) 148 m (nI a)) 149 m (nI b)) 145 0 (nI (m + 1))) (up2 (mstT M m (nI o) (nI c) (nI a) (nI b)) 0 54 (nI (m + 1))) w g (m + 1) := by
  obtain ⟨a1, a2, a3, a4⟩ := R
  refine ⟨up2_s _ _ _ _, up2_s _ _ _ _, hm, fun e he => ?_⟩
  unfold mstT
  rw [up2_row (show 146 ≠ 145 by decide), up2_row (show 146 ≠ 149 by decide), up2_row (show 146 ≠ 148 by decide), up2_row (show 146 ≠ 147 by decide), up2_row (show 147 ≠ 145 by decide), up2_row (show 147 ≠ 149 by decide), up2_row (show 147 ≠ 148 by decide), up2_row (show 148 ≠ 145 by decide), up2_row (show 148 ≠ 149 by decide), up2_row (show 149 ≠ 145 by decide), up2_row (show 41 ≠ 0 by decide), up2_row (show 41 ≠ 44 by decide), up2_row (show 41 ≠ 43 by decide), up2_row (show 41 ≠ 42 by decide), up2_row (show 42 ≠ 0 by decide), up2_row (show 42 ≠ 44 by decide), up2_row (show 42 ≠ 43 by decide), up2_row (show 43 ≠ 0 by decide), up2_row (show 43 ≠ 44 by decide), up2_row (show 44 ≠ 0 by decide)]
  by_cases q : e = m
  · subst q
    rw [up2_s, up2_s, up2_s, up2_s, up2_s, up2_s, up2_s, up2_s]
    exact ⟨⟨rfl, rfl, rfl, rfl⟩, ⟨o, ho, rfl⟩, ⟨c, hc, rfl⟩, ⟨a, ha.1, ha.2, rfl⟩, ⟨b, hb.1, hb.2, rfl⟩⟩
  · repeat rw [up2_k _ _ q]
    exact a4 e (by omega)
/-- places told, places chosen -/
def rP (F M : mM) (w g p : Nat) : Prop := (F 243 0 = nI p ∧ M 0 60 = nI p ∧ p ≤ 8 ∧ ∀ i, i < p → F 244 i = M 46 i ∧ ∃ a, a < w * g ∧ M 46 i = nI a) ∧ ∃ q, q ≤ 3 ∧ F 243 1 = nI q ∧ M 0 112 = nI q ∧ ∀ i, i < q → F 245 i = M 85 i
theorem rP_fr {F F1 M M1 : mM} {w g p : Nat} (e0 : F1 243 0 = F 243 0 ∧ F1 243 1 = F 243 1 ∧ M1 0 60 = M 0 60 ∧ M1 0 112 = M 0 112) (e : F1 244 = F 244 ∧ F1 245 = F 245) (e2 : M1 46 = M 46 ∧ M1 85 = M 85) (R : rP F M w g p) : rP F1 M1 w g p := by
  unfold rP
  rw [e0.1, e0.2.1, e0.2.2.1, e0.2.2.2, e.1, e.2, e2.1, e2.2]
  exact R
theorem rP_0 {F M : mM} {w g : Nat} (e0 : F 243 0 = 0 ∧ F 243 1 = 0 ∧ M 0 60 = 0 ∧ M 0 112 = 0) : rP F M w g 0 := ⟨⟨e0.1, e0.2.2.1, by decide, fun i hi => absurd hi (Nat.not_lt_zero i)⟩, 0, by decide, e0.2.1, e0.2.2.2, fun i hi => absurd hi (Nat.not_lt_zero i)⟩
theorem rP_place {F M : mM} {w g p c : Nat} (hp : p < 8) (hc : c < w * g) (R : rP F M w g p) : rP (up2 (up2 F 244 p (nI c)) 243 0 (nI (p + 1))) (mplM M p (nI c)) w g (p + 1) := by
  obtain ⟨⟨a1, a2, a3, a4⟩, q, b1, b2, b3, b4⟩ := R
  unfold mplM
  refine ⟨⟨up2_s _ _ _ _, up2_s _ _ _ _, hp, fun i hi => ?_⟩, q, b1, ?_, ?_, fun i hi => ?_⟩
  · rw [up2_row (show 244 ≠ 243 by decide), up2_row (show 46 ≠ 0 by decide)]
    by_cases e : i = p
    · subst e
      rw [up2_s, up2_s]
      exact ⟨rfl, c, hc, rfl⟩
    · rw [up2_k _ _ e, up2_k _ _ e]
      exact a4 i (by omega)
  · rw [up2_k _ _ (show 1 ≠ 0 by decide), up2_row (show 243 ≠ 244 by decide)]; exact b2
  · rw [up2_k _ _ (show 112 ≠ 60 by decide), up2_row (show 0 ≠ 46 by decide)]; exact b3
  · rw [up2_row (show 245 ≠ 243 by decide), up2_row (show 245 ≠ 244 by decide), up2_row (show 85 ≠ 0 by decide), up2_row (show 85 ≠ 46 by decide)]; exact b4 i hi
/-- whether a place may be told: the same for both -/
theorem rP_any {F M : mM} {w g p : Nat} {c : Int32} (R : rP F M w g p) : anyb (fun k => decide (F 244 k = c)) p = anyb (fun k => decide (M 46 k = c)) p := by
  have go : ∀ n, n ≤ p → anyb (fun k => decide (F 244 k = c)) n = anyb (fun k => decide (M 46 k = c)) n := by
    intro n
    induction n with
    | zero => exact fun _ => rfl
    | succ n ih =>
      intro hn
      have h1 := ih (by omega)
      have h2 := (R.1.2.2.2 n (by omega)).1
      unfold anyb
      rw [h1, h2]
  exact go p (Nat.le_refl _)
