/-! ===== the calls: city ===== -/
/-- all but the numbers stays -/
def sam9 (h h1 : hp_T) : Prop := hp_r h1 = hp_r h ∧ hp_l h1 = hp_l h ∧ hp_tag h1 = hp_tag h ∧ hp_len h1 = hp_len h ∧ hp_n h1 = hp_n h ∧ hp_s h1 = hp_s h
theorem sam9_t {h h1 h2 : hp_T} (a : sam9 h h1) (b : sam9 h1 h2) : sam9 h h2 := ⟨b.1.trans a.1, b.2.1.trans a.2.1, b.2.2.1.trans a.2.2.1, b.2.2.2.1.trans a.2.2.2.1, b.2.2.2.2.1.trans a.2.2.2.2.1, b.2.2.2.2.2.trans a.2.2.2.2.2⟩
theorem ptH_s9 {h : hp_T} : ∀ n, sam9 h (ptH h n)
  | 0 => ⟨rfl, rfl, rfl, rfl, rfl, rfl⟩
  | n + 1 => sam9_t (ptH_s9 n) (⟨rfl, rfl, rfl, rfl, rfl, rfl⟩ : sam9 (ptH h n) (rw1 (ptH h n) (136 + n) (fa_fill (fun _ => 0) (hp_i (ptH h n) (136 + n)) 9)))
theorem lcH_s9 {w g : Nat} {h : hp_T} {r c : Nat} : sam9 h (lcH w g h r c) := ⟨rfl, rfl, rfl, rfl, rfl, rfl⟩
theorem layR_s9 {w g : Nat} {h : hp_T} {r : Nat} : ∀ n, sam9 h (layR w g h r n)
  | 0 => ⟨rfl, rfl, rfl, rfl, rfl, rfl⟩
  | n + 1 => sam9_t (layR_s9 n) lcH_s9
theorem layA_s9 {w g : Nat} {h : hp_T} : ∀ n, sam9 h (layA w g h n)
  | 0 => ⟨rfl, rfl, rfl, rfl, rfl, rfl⟩
  | n + 1 => sam9_t (layA_s9 n) (layR_s9 w)
theorem lay_s9 {w g : Nat} {h : hp_T} : sam9 h (layH w g h) := by
  unfold layH
  refine sam9_t ?_ (ptH_s9 9)
  refine sam9_t (h1 := layA w g (lay1 (lay0 w g h)) g) ?_ ⟨rfl, rfl, rfl, rfl, rfl, rfl⟩
  exact sam9_t (h1 := lay1 (lay0 w g h)) ⟨rfl, rfl, rfl, rfl, rfl, rfl⟩ (layA_s9 g)
theorem cit_s9 {w g : Nat} {h : hp_T} : sam9 h (citH w g h) := by
  unfold citH
  have h0 : sam9 h (layH w g h) := lay_s9
  generalize layH w g h = z at h0 ⊢
  exact sam9_t h0 ⟨rfl, rfl, rfl, rfl, rfl, rfl⟩
theorem gr_cit {w g : Nat} {h : hp_T} (G : gr h) : gr (citH w g h) := by
  unfold citH
  have h0 : gr (layH w g h) := gr_lay G
  generalize layH w g h = z at h0 ⊢
  exact h0
theorem cit_hi {w g : Nat} {h : hp_T} {x : Nat} (hK : g * w ≤ 120) (hx : 145 < x ∧ x ≠ 158 ∧ x ≠ 174 ∧ x ≠ 243) : hp_i (citH w g h) x = hp_i h x := (cit_row (by omega)).trans (layH_row hK (by omega))
theorem Pc_city {H : hp_T} {M : mM} {w0 g0 m n p L w g : Nat} (w1 : 1 ≤ w) (w12 : w ≤ 12) (g1 : 1 ≤ g) (g10 : g ≤ 10) (hK : g * w ≤ 120) (P : Pc H M w0 g0 m n p L) : Pc (citH w g H) (mciM (nI w) (nI g) M) w g 0 0 0 L := by
  obtain ⟨⟨r1, r2, r3⟩, -, -, r8, ⟨l1, l2, l3, l4⟩, -⟩ := P
  have m0 : ∀ k, k ≠ 112 → k ≠ 90 → k ≠ 60 → k ≠ 68 → k ≠ 62 → k ≠ 54 → k ≠ 43 → k ≠ 42 → mciM (nI w) (nI g) M 0 k = M 0 k := fun k a1 a2 a3 a4 a5 a6 a7 a8 => by
    rw [mci_0, if_neg a1, if_neg a2, if_neg a3, if_neg a4, if_neg a5, if_neg a6, if_neg a7, if_neg a8]
  have m54 : mciM (nI w) (nI g) M 0 54 = 0 := mci_0
  have m62 : mciM (nI w) (nI g) M 0 62 = 0 := mci_0
  have m68 : mciM (nI w) (nI g) M 0 68 = -1 := mci_0
  have m60 : mciM (nI w) (nI g) M 0 60 = 0 := mci_0
  have m90 : mciM (nI w) (nI g) M 0 90 = 0 := mci_0
  have m112 : mciM (nI w) (nI g) M 0 112 = 0 := mci_0
  have c145 : hp_i (citH w g H) 145 0 = 0 := cit_own hK (Or.inl rfl)
  have c158 : hp_i (citH w g H) 158 0 = 0 := cit_own hK (Or.inr (Or.inl rfl))
  have c1581 : hp_i (citH w g H) 158 1 = -1 := cit_own hK (Or.inr (Or.inl rfl))
  have c174 : hp_i (citH w g H) 174 0 = 0 := cit_own hK (Or.inr (Or.inr (Or.inl rfl)))
  have c1741 : hp_i (citH w g H) 174 1 = hp_i H 174 1 := cit_own hK (Or.inr (Or.inr (Or.inl rfl)))
  have c243 : hp_i (citH w g H) 243 0 = 0 := cit_own hK (Or.inr (Or.inr (Or.inr rfl)))
  have c2431 : hp_i (citH w g H) 243 1 = 0 := cit_own hK (Or.inr (Or.inr (Or.inr rfl)))
  refine ⟨⟨rC_city w1 w12 g1 g10 r1, bC_city r2, rW_city hK r3⟩, ⟨rE_0 ⟨c145, m54⟩, rP_0 ⟨c243, c2431, m60, m112⟩⟩, ⟨rA_0 ⟨c158, m62, c1581, m68⟩, fun a h2 h3 => absurd h2 (by omega)⟩, rRV_fr ⟨cit_hi hK (by decide), cit_hi hK (by decide)⟩ (fun k hk => m0 k (by omega) (by omega) (by omega) (by omega) (by omega) (by omega) (by omega) (by omega)) (fun r h1 h2 => mci_row (by omega)) r8, ⟨⟨c174.trans m90.symm, ?_, ?_, fun o ho => ?_⟩, fun z => absurd m90 z⟩⟩
  · rw [m0 91 (by decide) (by decide) (by decide) (by decide) (by decide) (by decide) (by decide) (by decide)]
    exact l2
  · rw [m0 92 (by decide) (by decide) (by decide) (by decide) (by decide) (by decide) (by decide) (by decide), c1741]
    exact l3
  · rw [mci_row (x := 81) (by decide)]
    exact l4 o ho
theorem cal_city (E : gE) {H : hp_T} (R : rel9 H) (a b : Int32) : cal9 E mX11_city mX12_city [.int a, .int b] H := by
  obtain ⟨M, N, w, g, m, n, p, L, G, I, P⟩ := R
  have k1 := e_X11_city E (d := 100) (by decide) a b H G
  by_cases q : isCt a b
  · rw [if_pos q, zb_t q] at k1
    obtain ⟨w9, hw, ew, hw1⟩ := isM_n (t := a) (k := 12) (by decide) q.1
    obtain ⟨g9, hg, eg, hg1⟩ := isM_n (t := b) (k := 10) (by decide) q.2
    subst ew
    subst eg
    rw [nI_clamp (show w9 < 2147483648 by omega), nI_clamp (show g9 < 2147483648 by omega)] at k1
    have hK : g9 * w9 ≤ 120 := Nat.mul_le_mul hg hw
    have k2 := e_X12_city E (d := 100) (by decide) (nI w9) (nI g9) (citH w9 g9 H) (gr_cit G) M N
    have q9 : mciC (nI w9) (nI g9) := q
    rw [if_pos q9, if_pos q9] at k2
    have s9 := cit_s9 (w := w9) (g := g9) (h := H)
    exact cal_1 k1 (isM_fr (fun x h1 h2 => cit_hi hK (by omega)) (fun x h1 h2 => by rw [s9.2.1]) I) k2 (gr_cit G) (Pc_city hw1 hw hg1 hg hK P) (by rw [s9.2.2.2.2.1]; exact Nat.le_add_right _ _) (by rw [s9.2.2.2.2.2]; exact Nat.le_add_right _ _)
  · rw [if_neg q, zb_f q] at k1
    have k2 := e_X12_city E (d := 100) (by decide) a b H G M N
    have q9 : ¬ mciC a b := q
    rw [if_neg q9, if_neg q9, isM_hm I] at k2
    exact cal_0 ⟨M, N, w, g, m, n, p, L, G, I, P⟩ k1 k2
