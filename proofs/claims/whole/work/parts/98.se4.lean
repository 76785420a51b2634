/-! ===== class against reference: a minute's spread ===== -/
theorem heat_0 {x : Int32} {k : Nat} (hk : k < 1000) (e : x = nI k) : (if 0 < x - 2 then x - 2 else 0) = (if 2 ≤ x then x - 2 else 0) := by
  subst e
  rcases (show k = 0 ∨ k = 1 ∨ ∃ j, k = j + 2 from by
    rcases Nat.lt_or_ge k 2 with q | q
    · omega
    · exact Or.inr (Or.inr ⟨k - 2, by omega⟩)) with q | q | ⟨j, q⟩
  · subst q; decide
  · subst q; decide
  · subst q
    have e2 : nI (j + 2) - 2 = nI j := by
      rw [show nI (j + 2) = nI (2 + j) by rw [Nat.add_comm], show (2 : Int32) = nI 2 from rfl]
      exact nI_off 2 j
    rw [e2, if_pos (show 2 ≤ nI (j + 2) by rw [fa_le, nI_toInt (by omega), show (2 : Int32).toInt = 2 from by decide]; omega)]
    rcases Nat.eq_zero_or_pos j with z | z
    · subst z; rfl
    · exact if_pos (by rw [fa_lt, nI_toInt (by omega), ti_0]; omega)
theorem fs_m_b {f : Nat → Int32} {B : Nat} : ∀ n, (∀ j, j < n → ∃ q, q ≤ B ∧ f j = nI q) → ∃ q, q ≤ B * n ∧ fs_m f n = nI q
  | 0, _ => ⟨0, Nat.zero_le _, rfl⟩
  | n + 1, h => by
    obtain ⟨a, ha, ea⟩ := fs_m_b n (fun j hj => h j (by omega))
    obtain ⟨b, hb, eb⟩ := h n (by omega)
    refine ⟨a + b, by rw [Nat.mul_succ]; omega, ?_⟩
    rw [fs_m_s, ea, eb, nI_add]
theorem trM_b {M : mM} {w g t wd : Nat} (hn : w * g ≤ 120) (hwd : wd ≤ 120) (Bd : bC M) (h5 : ∀ c, c < w * g → ∃ k, k ≤ 9 ∧ M 55 c = nI k) (way : Nat) : ∃ q, q ≤ 38 ∧ trM M w g t wd way = nI q := by
  unfold trM
  cases hq : nbo w g t ((way + 4) % 8) with
  | none => exact ⟨0, by decide, rfl⟩
  | some c =>
    have hc := nbo_lt hq
    dsimp only [onb]
    split
    · obtain ⟨a, ha, ea⟩ := h5 c hc
      obtain ⟨tr, htr, etr⟩ := Bd.2.1 c (by omega)
      obtain ⟨b, hb, eb⟩ := Bd.2.2.2.2.2.1 tr (by omega)
      rw [ea, etr, nI_clamp (by omega), eb, nI_add]
      split
      · obtain ⟨x, hx, ex⟩ := Bd.2.2.2.2.2.2.2.2.2 wd (by omega)
        rw [ex, nI_add]
        exact ⟨a + b + x, by omega, rfl⟩
      · rw [Int32.add_zero]
        exact ⟨a + b, by omega, rfl⟩
    · exact ⟨0, by decide, rfl⟩
theorem hH_b {M : mM} {w g c wd : Nat} (hn : w * g ≤ 120) (hwd : wd ≤ 120) (Bd : bC M) (h5 : ∀ c, c < w * g → ∃ k, k ≤ 9 ∧ M 55 c = nI k) (h4 : ∃ k, k < 160 ∧ M 54 c = nI k) : ∃ q, q < 1000 ∧ hH M w g wd c = nI q := by
  obtain ⟨k, hk, ek⟩ := h4
  obtain ⟨q, hq, eq⟩ := fs_m_b (f := trM M w g c wd) 8 (fun j _ => trM_b hn hwd Bd h5 j)
  unfold hH
  rw [eq, ek]
  by_cases z : 2 ≤ nI k
  · rw [if_pos z]
    rw [fa_le, nI_toInt (by omega), show (2 : Int32).toInt = 2 from by decide] at z
    have e2 : nI k - 2 = nI (k - 2) := by
      rw [show nI k = nI (2 + (k - 2)) by rw [show 2 + (k - 2) = k by omega], show (2 : Int32) = nI 2 from rfl]
      exact nI_off 2 (k - 2)
    rw [e2, nI_add]
    exact ⟨k - 2 + q, by omega, rfl⟩
  · rw [if_neg z, Int32.zero_add]
    exact ⟨q, by omega, rfl⟩
theorem rs_b {k : Nat} (hk : k < 4) : ∃ r, r ≤ 160 ∧ (gf_sc 2).getD k 0 = nI r := by
  rcases (show k = 0 ∨ k = 1 ∨ k = 2 ∨ k = 3 by omega) with h | h | h | h
  · exact ⟨40, by decide, by rw [h]; rfl⟩
  · exact ⟨60, by decide, by rw [h]; rfl⟩
  · exact ⟨100, by decide, by rw [h]; rfl⟩
  · exact ⟨160, by decide, by rw [h]; rfl⟩
/-- both HEATS are the same -/
theorem hH_e {F X M : mM} {w g t c : Nat} (R : rC F M w g) (Wd : rW F M) (ht : t ≤ 120) (hX : ∀ c, c < w * g → X 3 c = M 53 c ∧ X 5 c = M 55 c) (h4 : X 4 c = M 54 c) (hb : ∃ k, k < 160 ∧ M 54 c = nI k) : (if 0 < X 4 c - 2 then X 4 c - 2 else 0) + fs_m (fun way => onb (nbo w g c ((way + 4) % 8)) (fun c => if X 3 c = 1 then (if nI way = F 132 t then X 5 c + hzT F c + F 133 t else X 5 c + hzT F c) else 0)) 8 = hH M w g (mwS M t) c := by
  obtain ⟨k, hk, ek⟩ := hb
  unfold hH
  rw [h4, heat_0 (by omega) ek]
  refine congrArg (fun y => (if 2 ≤ M 54 c then M 54 c - 2 else 0) + y) ?_
  obtain ⟨-, d1, d2⟩ := Wd
  have hd1 := d1 t ht
  have hd2 := d2 t ht
  have hzz : ∀ b, hzT F b = M 36 (M 32 b).toNatClampNeg := fun b => by unfold hzT; rw [R.2.2.2.2.2.2.2.1, R.2.2.2.2.1]
  refine fs_m_ext 8 (fun way _ => ?_)
  unfold trM
  cases hq : nbo w g c ((way + 4) % 8) with
  | none => rfl
  | some b =>
    obtain ⟨x3, x5⟩ := hX b (nbo_lt hq)
    dsimp only [onb]
    rw [x3, x5, hzz b, hd1, hd2]
    generalize M 55 b + M 36 (M 32 b).toNatClampNeg = y
    by_cases q3 : M 53 b = 1
    · rw [if_pos q3, if_pos q3]
      by_cases qw : mwS M t = 0
      · rw [if_pos qw, if_pos qw, if_neg (show ¬ (¬ mwS M t = 0 ∧ M 37 (mwS M t) = nI way) from fun z => z.1 qw), Int32.add_zero]
        split <;> rfl
      · rw [if_neg qw, if_neg qw]
        by_cases q7 : nI way = M 37 (mwS M t)
        · rw [if_pos q7, if_pos ⟨qw, q7.symm⟩]
        · rw [if_neg q7, if_neg (fun z => q7 z.2.symm), Int32.add_zero]
    · rw [if_neg q3, if_neg q3]
/-- of a cell before those that catch fire are kindled -/
def gC (Y Z : mM) (c : Nat) : Prop := Y 1 c = Z 34 c ∧ Y 3 c = Z 53 c ∧ Y 4 c = Z 54 c ∧ Y 5 c = Z 55 c ∧ Y 6 c = Z 56 c ∧ Y 7 c = Z 57 c ∧ (Z 53 c = 1 → ¬ Z 34 c = 0) ∧ (∃ k, k ≤ 9 ∧ Z 55 c = nI k) ∧ (Z 53 c = 0 → ∃ k, k < 1000 ∧ Z 54 c = nI k ∧ (Z 34 c = 0 → k < 160)) ∧ Z 58 c = (if (¬ Z 34 c = 0 ∧ Z 53 c = 0) ∧ ¬ Z 54 c < rsW (Z 31) c then 1 else 0)
theorem sp3_col {rs : Nat → Int32} {t : Int32} {X : mM} {c k r : Nat} (h : k ≠ c) : sp3 rs t X c r k = X r k := by
  unfold sp3 kinX
  repeat' split
  all_goals first | rfl | (repeat rw [up2_k _ _ h])
theorem spkB_col {t : Int32} {Z : mM} {c k r : Nat} (h : k ≠ c) : spkB t Z c r k = Z r k := by
  unfold spkB
  repeat' split
  all_goals first | rfl | (repeat rw [up2_k _ _ h])
theorem gC_k {rs : Nat → Int32} {t : Int32} {Y Z : mM} {c : Nat} (hr : ∃ r, r ≤ 160 ∧ rsW (Z 31) c = nI r) (e : rs c = rsW (Z 31) c) (I : gC Y Z c) : fC (sp3 rs t Y c) (spkB t Z c) c := by
  obtain ⟨a1, a3, a4, a5, a6, a7, b1, b2, b3, b4⟩ := I
  obtain ⟨r, hr1, hr2⟩ := hr
  unfold sp3 spkB
  rw [a1, a3, a4, e]
  by_cases q : ¬ Z 34 c = 0 ∧ Z 53 c = 0
  · rw [if_pos q]
    obtain ⟨k, hk, ek, -⟩ := b3 q.2
    by_cases q2 : Z 54 c < rsW (Z 31) c
    · rw [if_pos q2, if_pos (show Z 58 c = 0 by rw [b4]; exact if_neg (fun z => z.2 q2))]
      refine ⟨a1, a3, a4, a5, a6, a7, b1, b2, fun _ => ⟨k, ?_, ek⟩⟩
      rw [ek, hr2, fa_lt, nI_toInt (by omega), nI_toInt (by omega)] at q2
      omega
    · rw [if_neg q2, if_neg (show ¬ Z 58 c = 0 by rw [b4, if_pos ⟨q, q2⟩]; decide)]
      unfold kinX
      rw [show up2 (up2 Z 53 c 1) 55 c 1 57 = Z 57 from (up2_row (by decide)).trans (up2_row (by decide)), a7]
      by_cases q7 : Z 57 c = -1
      · rw [if_pos q7, if_pos q7]
        unfold fC
        refine ⟨?_, ?_, ?_, ?_, ?_, ?_, ?_, ?_, ?_⟩
        · rw [up2_row (by decide), up2_row (by decide), up2_row (by decide), up2_row (by decide), up2_row (by decide), up2_row (by decide)]; exact a1
        · rw [up2_row (show 3 ≠ 7 by decide), up2_row (show 3 ≠ 5 by decide), up2_s, up2_row (show 53 ≠ 57 by decide), up2_row (show 53 ≠ 55 by decide), up2_s]
        · rw [up2_row (by decide), up2_row (by decide), up2_row (by decide), up2_row (by decide), up2_row (by decide), up2_row (by decide)]; exact a4
        · rw [up2_row (show 5 ≠ 7 by decide), up2_s, up2_row (show 55 ≠ 57 by decide), up2_s]
        · rw [up2_row (by decide), up2_row (by decide), up2_row (by decide), up2_row (by decide), up2_row (by decide), up2_row (by decide)]; exact a6
        · rw [up2_s, up2_s]
        · rw [up2_row (show 34 ≠ 57 by decide), up2_row (show 34 ≠ 55 by decide), up2_row (show 34 ≠ 53 by decide)]
          exact fun _ => q.1
        · rw [up2_row (show 55 ≠ 57 by decide), up2_s]; exact ⟨1, by decide, rfl⟩
        · rw [up2_row (show 53 ≠ 57 by decide), up2_row (show 53 ≠ 55 by decide), up2_s]
          exact fun z => absurd z (by decide)
      · rw [if_neg q7, if_neg q7]
        unfold fC
        refine ⟨?_, ?_, ?_, ?_, ?_, ?_, ?_, ?_, ?_⟩
        · rw [up2_row (by decide), up2_row (by decide), up2_row (by decide), up2_row (by decide)]; exact a1
        · rw [up2_row (show 3 ≠ 5 by decide), up2_s, up2_row (show 53 ≠ 55 by decide), up2_s]
        · rw [up2_row (by decide), up2_row (by decide), up2_row (by decide), up2_row (by decide)]; exact a4
        · rw [up2_s, up2_s]
        · rw [up2_row (by decide), up2_row (by decide), up2_row (by decide), up2_row (by decide)]; exact a6
        · rw [up2_row (by decide), up2_row (by decide), up2_row (by decide), up2_row (by decide)]; exact a7
        · rw [up2_row (show 34 ≠ 55 by decide), up2_row (show 34 ≠ 53 by decide)]
          exact fun _ => q.1
        · rw [up2_s]; exact ⟨1, by decide, rfl⟩
        · rw [up2_row (show 53 ≠ 55 by decide), up2_s]
          exact fun z => absurd z (by decide)
  · rw [if_neg q, if_pos (show Z 58 c = 0 by rw [b4]; exact if_neg (fun z => q z.1))]
    refine ⟨a1, a3, a4, a5, a6, a7, b1, b2, fun z => ?_⟩
    obtain ⟨k, -, ek, h160⟩ := b3 z
    exact ⟨k, h160 (by
      rcases Classical.em (Z 34 c = 0) with y | y
      · exact y
      · exact absurd ⟨y, z⟩ q), ek⟩
theorem gC_fr {Y Y1 Z Z1 : mM} {c : Nat} (e : ∀ r, Y1 r c = Y r c) (e2 : ∀ r, Z1 r c = Z r c) (I : gC Y Z c) : gC Y1 Z1 c := by
  unfold gC rsW
  rw [e, e, e, e, e, e, e2, e2, e2, e2, e2, e2, e2, e2]
  exact I
theorem fX_spk {rs : Nat → Int32} {t : Int32} {Y Z : mM} {n : Nat} (hr : ∀ c, c < n → ∃ r, r ≤ 160 ∧ rsW (Z 31) c = nI r) (e : ∀ c, c < n → rs c = rsW (Z 31) c) (I : ∀ c, c < n → gC Y Z c) : ∀ k, k ≤ n → ∀ c, c < n → (c < k → fC (itN (sp3 rs t) Y k) (itN (spkB t) Z k) c) ∧ (k ≤ c → gC (itN (sp3 rs t) Y k) (itN (spkB t) Z k) c) := by
  intro k
  induction k with
  | zero => exact fun _ c hc => ⟨fun z => absurd z (Nat.not_lt_zero c), fun _ => I c hc⟩
  | succ k ih =>
    intro hk c hc
    obtain ⟨j1, j2⟩ := ih (by omega) c hc
    have e31 : itN (spkB t) Z k 31 = Z 31 := itN_row (fun z j => spkB_row z j (by decide) (by decide) (by decide)) Z k
    rw [itN_s, itN_s]
    generalize itN (sp3 rs t) Y k = A at j1 j2 ⊢
    generalize itN (spkB t) Z k = B at j1 j2 e31 ⊢
    by_cases q : c = k
    · subst q
      exact ⟨fun _ => gC_k (by rw [e31]; exact hr c hc) (by rw [e31]; exact e c hc) (j2 (Nat.le_refl c)), fun z => absurd z (by omega)⟩
    · exact ⟨fun z => fC_fr (fun r _ => sp3_col q) (fun r _ => spkB_col q) (j1 (by omega)), fun z => gC_fr (fun r => sp3_col q) (fun r => spkB_col q) (j2 (by omega))⟩
theorem fX_spr {F X M : mM} {w g m t : Nat} (R : rC F M w g) (Wd : rW F M) (Bd : bC M) (ht : t ≤ 120) (I : fX X M (w * g) m) : fX (sprX F w g t X) (msprX w g t M) (w * g) m := by
  have hn := (cty_n R.1).2
  have hwd : mwS M t ≤ 120 := by have := mwS_le M t; omega
  have h34 : ∀ c, c < w * g → M 53 c = 1 → ¬ M 34 c = 0 := fun c hc => (I.1 c hc).2.2.2.2.2.2.1
  have h5 : ∀ c, c < w * g → ∃ k, k ≤ 9 ∧ M 55 c = nI k := fun c hc => (I.1 c hc).2.2.2.2.2.2.2.1
  have e31 : itN (spcB w g (mwS M t)) M (w * g) 31 = M 31 := itN_row (fun z j => spcB_row z j (by decide) (by decide)) M _
  have hrs : ∀ c, c < w * g → ∃ r, r ≤ 160 ∧ rsW (M 31) c = nI r := fun c hc => by
    obtain ⟨k, hk, ek⟩ := Bd.1 c (by omega)
    unfold rsW
    rw [ek, nI_clamp (by omega)]
    exact rs_b (by omega)
  have hG : ∀ c, c < w * g → gC (itN (sp2 F w g (F 132 t) (F 133 t)) (itN sp1 X (w * g)) (w * g)) (itN (spcB w g (mwS M t)) M (w * g)) c := fun c hc => by
    have hr : ∀ r, r ≠ 4 → itN (sp2 F w g (F 132 t) (F 133 t)) (itN sp1 X (w * g)) (w * g) r = X r := fun r h4 => (itN_row (fun z j => sp2_r h4 z j) _ _).trans (itN_row (fun z j => sp1_r h4 z j) _ _)
    have hr2 : ∀ r, r ≠ 54 → r ≠ 58 → itN (spcB w g (mwS M t)) M (w * g) r = M r := fun r h1 h2 => itN_row (fun z j => spcB_row z j h1 h2) M _
    obtain ⟨a1, a3, a4, a5, a6, a7, b1, b2, b3⟩ := I.1 c hc
    have hA := spA (F := F) (X := X) (wy := F 132 t) (sg := F 133 t) hc
    have hB := (spB (wd := mwS M t) hn hwd h34 (w * g) (Nat.le_refl _) c hc).1 hc
    unfold gC
    rw [hr 1 (by decide), hr 3 (by decide), hr 5 (by decide), hr 6 (by decide), hr 7 (by decide), hr2 34 (by decide) (by decide), hr2 53 (by decide) (by decide), hr2 55 (by decide) (by decide), hr2 56 (by decide) (by decide), hr2 57 (by decide) (by decide), e31]
    by_cases q : ¬ M 34 c = 0 ∧ M 53 c = 0
    · obtain ⟨x1, x2⟩ := hB.1 q
      rw [hA.1 (by rw [a1, a3]; exact q), hH_e R Wd ht (fun k hk => ⟨(I.1 k hk).2.1, (I.1 k hk).2.2.2.1⟩) a4 (b3 q.2), x1, x2]
      obtain ⟨k, hk, ek⟩ := hH_b hn hwd Bd h5 (b3 q.2)
      refine ⟨a1, a3, rfl, a5, a6, a7, b1, b2, fun _ => ⟨k, hk, ek, fun z => absurd z q.1⟩, ?_⟩
      by_cases q2 : hH M w g (mwS M t) c < rsW (M 31) c
      · rw [if_pos q2, if_neg (fun z => z.2 q2)]
      · rw [if_neg q2, if_pos ⟨q, q2⟩]
    · obtain ⟨x1, x2⟩ := hB.2 q
      rw [hA.2 (by rw [a1, a3]; exact q), x1, x2]
      refine ⟨a1, a3, a4, a5, a6, a7, b1, b2, fun z => ?_, (if_neg (fun z => q z.1)).symm⟩
      obtain ⟨k, hk, ek⟩ := b3 z
      exact ⟨k, by omega, ek, fun _ => hk⟩
  have hK := fX_spk (rs := rsW (F 3)) (t := nI t) (Y := itN (sp2 F w g (F 132 t) (F 133 t)) (itN sp1 X (w * g)) (w * g)) (Z := itN (spcB w g (mwS M t)) M (w * g)) (n := w * g) (fun c hc => by rw [e31]; exact hrs c hc) (fun c hc => by rw [e31, R.2.2.2.1]) hG (w * g) (Nat.le_refl _)
  refine ⟨fun c hc => (hK c hc).1 hc, fun e he => fE_fr (fun r hr => ?_) (fun r hr => ?_) (I.2 e he)⟩
  · exact congrFun (sprX_row F w g t (by omega) (by omega) (by omega) (by omega) X) e
  · exact congrFun (mspr_row w g t M (by omega) (by omega) (by omega) (by omega) (by omega)) e
