/-! ===== the calls: how a fall starts; fall, rounds ===== -/
theorem w1_at {F : mM} {o : Nat} {Y : mN} (ho : o < 9) : ∀ j, (∀ r, r ≠ 1 + o → r ≠ 11 + o → itN (w1B F o) Y j r = Y r) ∧ ∀ p, p < j → itN (w1B F o) Y j (1 + o) p = w1V F o p ∧ itN (w1B F o) Y j (11 + o) p = w1V F o p
  | 0 => ⟨fun _ _ _ => rfl, fun p hp => absurd hp (Nat.not_lt_zero p)⟩
  | j + 1 => by
    obtain ⟨i1, i2⟩ := w1_at (F := F) (Y := Y) ho j
    rw [itN_s]
    generalize itN (w1B F o) Y j = z at i1 i2 ⊢
    unfold w1B
    refine ⟨fun r h1 h2 => (up2L_row h2).trans ((up2L_row h1).trans (i1 r h1 h2)), fun p hp => ?_⟩
    by_cases q : p = j
    · subst q
      refine ⟨?_, up2_s _ _ _ _⟩
      rw [up2_a _ _ (show 1 + o ≠ 11 + o by omega)]
      exact up2_s _ _ _ _
    · rw [up2_a _ _ (show 1 + o ≠ 11 + o by omega), up2_k _ _ q, up2_k _ _ q, up2_a _ _ (show 11 + o ≠ 1 + o by omega)]
      exact i2 p (by omega)
/-- owed at first, class -/
def w0V (F : mM) (o k : Nat) : Int64 := if k = 9 then (F 190 o).toInt64 else w1V F o k
theorem w_at {F : mM} {Y : mN} : ∀ j, j ≤ 9 → ∀ o, o < j → ∀ k, k < 10 → itN (wB F) Y j (1 + o) k = w0V F o k ∧ itN (wB F) Y j (11 + o) k = w0V F o k := by
  intro j
  induction j with
  | zero => exact fun _ o ho => absurd ho (Nat.not_lt_zero o)
  | succ j ih =>
    intro hj o ho k hk
    have i1 := ih (by omega)
    rw [itN_s]
    generalize itN (wB F) Y j = z at i1 ⊢
    unfold wB
    obtain ⟨a1, a2⟩ := w1_at (F := F) (Y := z) (show j < 9 by omega) 9
    by_cases q : o = j
    · subst q
      unfold w0V
      by_cases q9 : k = 9
      · subst q9
        rw [if_pos rfl]
        refine ⟨?_, up2_s _ _ _ _⟩
        rw [up2_a _ _ (show 1 + o ≠ 11 + o by omega)]
        exact up2_s _ _ _ _
      · rw [if_neg q9, up2_k _ _ q9, up2_k _ _ q9, up2_k _ _ q9, up2_k _ _ q9]
        exact a2 k (by omega)
    · have e1 : ∀ x : Nat, x ≠ 1 + j → x ≠ 11 + j → up2 (up2 (itN (w1B F j) z 9) (1 + j) 9 (F 190 j).toInt64) (11 + j) 9 (F 190 j).toInt64 x = z x := fun x h1 h2 => (up2L_row h2).trans ((up2L_row h1).trans (a1 x h1 h2))
      rw [e1 (1 + o) (by omega) (by omega), e1 (11 + o) (by omega) (by omega)]
      exact i1 o (by omega) k hk
theorem f1_at {M : mM} {o : Nat} {N : mN} : ∀ j, (∀ i, ¬ (10 * o ≤ i ∧ i < 10 * o + j) → itN (fa1B M o) N j 82 i = N 82 i) ∧ ∀ k, k < j → itN (fa1B M o) N j 82 (10 * o + k) = (M 81 k).toInt64 * (M 45 (9 * o + k)).toInt64 / 1000
  | 0 => ⟨fun _ _ => rfl, fun k hk => absurd hk (Nat.not_lt_zero k)⟩
  | j + 1 => by
    obtain ⟨i1, i2⟩ := f1_at (M := M) (o := o) (N := N) j
    rw [itN_s]
    generalize itN (fa1B M o) N j = z at i1 i2 ⊢
    unfold fa1B
    refine ⟨fun i h => ?_, fun k hk => ?_⟩
    · rw [up2_k _ _ (show i ≠ 10 * o + j by omega)]
      exact i1 i (by omega)
    · by_cases q : k = j
      · subst q; exact up2_s _ _ _ _
      · rw [up2_k _ _ (show 10 * o + k ≠ 10 * o + j by omega)]
        exact i2 k (by omega)
/-- owed at first, reference -/
def f0V (M : mM) (o k : Nat) : Int64 := if k = 9 then (M 81 o).toInt64 else (M 81 k).toInt64 * (M 45 (9 * o + k)).toInt64 / 1000
theorem f2_at {M : mM} {N : mN} : ∀ j, ∀ o, o < j → ∀ k, k < 10 → itN (fa2B M) N j 82 (10 * o + k) = f0V M o k
  | 0 => fun o ho => absurd ho (Nat.not_lt_zero o)
  | j + 1 => by
    intro o ho k hk
    have i1 := f2_at (M := M) (N := N) j
    rw [itN_s]
    generalize itN (fa2B M) N j = z at i1 ⊢
    unfold fa2B
    obtain ⟨a1, a2⟩ := f1_at (M := M) (o := j) (N := z) 9
    by_cases q : o = j
    · subst q
      unfold f0V
      by_cases q9 : k = 9
      · subst q9
        rw [if_pos rfl]
        exact up2_s _ _ _ _
      · rw [if_neg q9, up2_k _ _ (show 10 * o + k ≠ 10 * o + 9 by omega)]
        exact a2 k (by omega)
    · rw [up2_k _ _ (show 10 * o + k ≠ 10 * j + 9 by omega), a1 (10 * o + k) (by omega)]
      exact i1 o (by omega) k hk
theorem f3_at {N : mN} : ∀ j, (∀ r, r ≠ 83 → itN fa3B N j r = N r) ∧ ∀ i, i < j → itN fa3B N j 83 i = N 82 i
  | 0 => ⟨fun _ _ => rfl, fun i hi => absurd hi (Nat.not_lt_zero i)⟩
  | j + 1 => by
    obtain ⟨i1, i2⟩ := f3_at (N := N) j
    rw [itN_s]
    generalize itN fa3B N j = z at i1 i2 ⊢
    unfold fa3B
    refine ⟨fun r h => (up2L_row h).trans (i1 r h), fun i hi => ?_⟩
    by_cases q : i = j
    · subst q
      rw [up2_s, i1 82 (by decide)]
    · rw [up2_k _ _ q]
      exact i2 i (by omega)
theorem f0_at {M : mM} {N : mN} {o k : Nat} (ho : o < 9) (hk : k < 10) : fa0 M N 82 (10 * o + k) = f0V M o k ∧ fa0 M N 83 (10 * o + k) = f0V M o k := by
  obtain ⟨i1, i2⟩ := f3_at (N := itN (fa2B M) N 9) 90
  unfold fa0
  rw [i1 82 (by decide), i2 (10 * o + k) (by omega), f2_at 9 o ho k hk]
  exact ⟨rfl, rfl⟩
theorem f0_b {M : mM} {o k : Nat} (Bd : bC M) (l : ∀ o, o < 9 → ∃ v, v ≤ 30000000 ∧ M 81 o = nI v) (ho : o < 9) (hk : k < 10) : ∃ v, v ≤ 30000000 ∧ f0V M o k = nL v := by
  unfold f0V
  by_cases q : k = 9
  · rw [if_pos q]
    obtain ⟨v, hv, e⟩ := l o ho
    rw [e, nL_w (by omega)]
    exact ⟨v, hv, rfl⟩
  · rw [if_neg q]
    obtain ⟨v, hv, e⟩ := l k (by omega)
    obtain ⟨s, hs, es⟩ := Bd.2.2.2.2.2.2.2.1 (9 * o + k) (by omega)
    have hp : v * s ≤ 30000000 * 1000 := Nat.mul_le_mul hv hs
    rw [e, es, nL_w (by omega), nL_w (by omega), nL_mul (by omega) (by omega) (by omega), show (1000 : Int64) = nL 1000 from by decide, nL_div (by omega) (by omega)]
    exact ⟨v * s / 1000, by omega, rfl⟩
theorem fa0_B {M : mM} {N : mN} (Bd : bC M) (l : ∀ o, o < 9 → ∃ v, v ≤ 30000000 ∧ M 81 o = nI v) : faB (fa0 M N) := by
  intro i hi
  obtain ⟨o, k, ho, hk, e⟩ : ∃ o k, o < 9 ∧ k < 10 ∧ i = 10 * o + k := ⟨i / 10, i % 10, by omega, by omega, by omega⟩
  subst e
  obtain ⟨e1, e2⟩ := f0_at (M := M) (N := N) ho hk
  rw [e1, e2]
  exact ⟨f0_b Bd l ho hk, f0_b Bd l ho hk⟩
/-- some class side that agrees -/
def anY (N : mN) : mN := fun r k => if r < 11 then N 82 (10 * (r - 1) + k) else N 83 (10 * (r - 11) + k)
theorem an_F (N : mN) : rF9 (anY N) N := by
  intro o ho k hk
  unfold anY
  rw [if_pos (show 1 + o < 11 by omega), if_neg (show ¬ (11 + o < 11) by omega), show 1 + o - 1 = o by omega, show 11 + o - 11 = o by omega]
  exact ⟨rfl, rfl⟩
theorem fa0_I {M : mM} {N : mN} (Bd : bC M) (l : ∀ o, o < 9 → ∃ v, v ≤ 30000000 ∧ M 81 o = nI v) : faI M 100 (fa0 M N) := fa_I Bd 100 (fa0 M N) (anY (fa0 M N)) (fun _ => M 40) rfl (an_F _) (fa0_B Bd l)
/-- a whole fall -/
theorem fall_e {H : hp_T} {M : mM} {N : mN} {w g : Nat} (C : rC (hp_i H) M w g) (Bd : bC M) (l : ∀ o, o < 9 → ∃ v, v ≤ 30000000 ∧ M 81 o = nI v) (l2 : ∀ o, o < 9 → hp_i H 190 o = M 81 o) : rF9 (fWS H).2.1 (faS M N).2 ∧ (fWS H).2.2 0 0 = nI (faS M N).1 := by
  have hw : ∀ o, o < 9 → ∀ k, k < 10 → w0V (hp_i H) o k = f0V M o k := fun o ho k hk => by
    unfold w0V f0V w1V
    by_cases q : k = 9
    · rw [if_pos q, if_pos q, l2 o ho]
    · rw [if_neg q, if_neg q, l2 k (by omega), C.2.2.2.2.2.2.2.2.2 o ho k (by omega)]
  unfold fWS wkS wk0 faS
  refine wk_e Bd C.2.2.2.2.2.2.2.2.1 100 0 1 _ _ (fun o ho k hk => ?_) (fa0_B Bd l) (by decide) (up2_s _ _ _ _)
  obtain ⟨e1, e2⟩ := f0_at (M := M) (N := N) ho hk
  obtain ⟨a1, a2⟩ := w_at (F := hp_i H) (Y := fun o => hp_l H (213 + o)) 9 (Nat.le_refl _) o ho k hk
  rw [e1, e2, a1, a2, hw o ho k hk]
  exact ⟨rfl, rfl⟩
theorem tel_e {Y N : mN} {o : Nat} {u : Int32} (R : rF9 Y N) (ho : o < 9) (hu : 0 ≤ u ∧ u ≤ 3) : telS Y o u = mfaV N o u := by
  have e1 : sumL (Y (1 + o)) 10 = msuS N 1 o 10 := by
    unfold msuS msuR
    rw [if_neg (show ¬ (1 : Int32) = 0 from by decide)]
    exact sum_e 10 (fun i hi => (R o ho i hi).1)
  have e2 : sumL (Y (11 + o)) 10 = msuS N 0 o 10 := by
    unfold msuS msuR
    rw [if_pos rfl]
    exact sum_e 10 (fun i hi => (R o ho i hi).2)
  obtain ⟨k, hk, ek⟩ := int_n (b := 3) (K := 3) rfl (by decide) hu
  subst ek
  unfold telS mfaV
  rw [e1, e2, (R o ho 9 (by decide)).2]
  match k, hk with
  | 0, _ => rw [if_pos (show nI 0 = 0 from by decide), if_pos (show nI 0 = 0 from by decide)]
  | 1, _ => rw [if_neg (show ¬ nI 1 = 0 from by decide), if_neg (show ¬ nI 1 = 0 from by decide), if_pos (show nI 1 = 1 from by decide), if_pos (show nI 1 = 1 from by decide)]
  | 2, _ => rw [if_neg (show ¬ nI 2 = 0 from by decide), if_neg (show ¬ nI 2 = 0 from by decide), if_neg (show ¬ nI 2 = 1 from by decide), if_neg (show ¬ nI 2 = 1 from by decide), if_pos (show nI 2 = 2 from by decide), if_pos (show nI 2 = 2 from by decide)]
  | 3, _ => rw [if_neg (show ¬ nI 3 = 0 from by decide), if_neg (show ¬ nI 3 = 0 from by decide), if_neg (show ¬ nI 3 = 1 from by decide), if_neg (show ¬ nI 3 = 1 from by decide), if_neg (show ¬ nI 3 = 2 from by decide), if_neg (show ¬ nI 3 = 2 from by decide), if_pos (show nI 3 = 3 from by decide)]
theorem tel_n {Y : mN} {o : Nat} {u : Int32} (hu : ¬ (0 ≤ u ∧ u ≤ 3)) : telS Y o u = -1 := by
  unfold telS
  rw [if_neg (fun e => hu (by rw [e]; decide)), if_neg (fun e => hu (by rw [e]; decide)), if_neg (fun e => hu (by rw [e]; decide)), if_neg (fun e => hu (by rw [e]; decide))]
theorem hfl_row {h : hp_T} {Y : mN} {X : mM} {x : Nat} (hx : x ≠ 212) : hp_i (hfl h Y X) x = hp_i h x := if_neg (by omega)
theorem hfl_lrow {h : hp_T} {Y : mN} {X : mM} {x : Nat} (hx : x < 213 ∨ 243 ≤ x) : hp_l (hfl h Y X) x = hp_l h x := if_neg (by omega)
theorem Pc_fall {H : hp_T} {M : mM} {w g m n p L : Nat} {Y : mN} {X : mM} (P : Pc H M w g m n p L) : Pc (hfl H Y X) M w g m n p L := Pc_H (H := H) (fun x hx => hfl_row (by omega)) ⟨by rw [hfl_row (by decide)], by rw [hfl_row (by decide)]⟩ (fun _ _ => rfl) (fun a ha => ⟨hfl_row (by omega), rfl, rfl, rfl⟩) P
theorem Pc_111 {H : hp_T} {M : mM} {w g m n p L r : Nat} (P : Pc H M w g m n p L) : Pc H (faM M r) w g m n p L := Pc_M (M := M) (fun r hr => up2_row (by omega)) (fun k hk => up2_k _ _ (by omega)) P
theorem isM_fl {H : hp_T} {M : mM} {N Y : mN} {X : mM} (I : isM9 H M N) : isM9 (hfl H Y X) M N := isM_fr (fun x h1 h2 => hfl_row (by omega)) (fun x h1 h2 => hfl_lrow (Or.inr (by omega))) I
theorem cal_fall (E : gE) {H : hp_T} (R : rel9 H) (t u : Int32) : cal9 E mX11_fall mX12_fall [.int t, .int u] H := by
  obtain ⟨M, N, w, g, m, n, p, L, G, I, P⟩ := R
  obtain ⟨⟨l1, -, -, l4⟩, l5⟩ := P.2.2.2.2
  have k1 := e_X11_fall E (d := 100) (by decide) t u H G
  have hI := fa0_I (N := N) P.1.2.1 l4
  by_cases q : isF H t
  · rw [if_pos q, if_pos q] at k1
    have q0 : ¬ M 0 90 = 0 := by rw [← l1]; exact q.1
    obtain ⟨o, ho, eo⟩ := int_n (b := 8) (K := 8) rfl (by decide) q.2
    subst eo
    obtain ⟨f1, f2⟩ := fall_e (N := N) P.1.1 P.1.2.1 l4 (l5 q0).2.2.2.2.2
    unfold falH at k1
    generalize fWS H = W at k1 f1 f2
    have k2 := e_X12_fall E (d := 100) (by decide) (nI o) u (hfl H W.2.1 W.2.2) G M N hI
    rw [nI_clamp (show o < 2147483648 by omega)] at k1 k2
    by_cases q3 : 0 ≤ u ∧ u ≤ 3
    · have q9 : mfaC M (nI o) u := ⟨q0, q.2, q3⟩
      rw [if_pos q9, if_pos q9, ← tel_e f1 (show o < 9 by omega) q3] at k2
      exact cal_1 k1 (isM_fl I) k2 G (Pc_111 (Pc_fall P)) (Nat.le_add_right _ _) (Nat.le_add_right _ _)
    · have q9 : ¬ mfaC M (nI o) u := fun z => q3 z.2.2
      rw [if_neg q9, if_neg q9, ← tel_n (Y := W.2.1) (o := o) q3] at k2
      exact cal_1 k1 (isM_fl I) k2 G (Pc_fall P) (Nat.le_add_right _ _) (Nat.le_add_right _ _)
  · rw [if_neg q, if_neg q] at k1
    have k2 := e_X12_fall E (d := 100) (by decide) t u H G M N hI
    have q9 : ¬ mfaC M t u := fun z => q ⟨by rw [l1]; exact z.1, z.2.1⟩
    rw [if_neg q9, if_neg q9, isM_hm I] at k2
    exact cal_0 ⟨M, N, w, g, m, n, p, L, G, I, P⟩ k1 k2
theorem cal_rounds (E : gE) {H : hp_T} (R : rel9 H) : cal9 E mX11_rounds mX12_rounds [] H := by
  obtain ⟨M, N, w, g, m, n, p, L, G, I, P⟩ := R
  obtain ⟨⟨l1, -, -, l4⟩, l5⟩ := P.2.2.2.2
  have k1 := e_X11_rounds E (d := 100) (by decide) H G
  have hI := fa0_I (N := N) P.1.2.1 l4
  rw [l1] at k1
  by_cases q0 : ¬ M 0 90 = 0
  · rw [if_pos q0, if_pos q0] at k1
    obtain ⟨f1, f2⟩ := fall_e (N := N) P.1.1 P.1.2.1 l4 (l5 q0).2.2.2.2.2
    unfold falH at k1
    rw [f2] at k1
    generalize fWS H = W at k1
    have k2 := e_X12_rounds E (d := 100) (by decide) (hfl H W.2.1 W.2.2) G M N hI
    rw [if_pos q0, if_pos q0] at k2
    exact cal_1 k1 (isM_fl I) k2 G (Pc_111 (Pc_fall P)) (Nat.le_add_right _ _) (Nat.le_add_right _ _)
  · rw [if_neg q0, if_neg q0] at k1
    have k2 := e_X12_rounds E (d := 100) (by decide) H G M N hI
    rw [if_neg q0, if_neg q0, isM_hm I] at k2
    exact cal_0 ⟨M, N, w, g, m, n, p, L, G, I, P⟩ k1 k2
