/-! ===== the calls: fall, rounds ===== -/
def faB (N : mN) : Prop := ∀ i, i < 90 → (∃ v, v ≤ 30000000 ∧ N 82 i = nL v) ∧ ∃ v, v ≤ 30000000 ∧ N 83 i = nL v
/-- owed and paid on both sides -/
def rF9 (Y N : mN) : Prop := ∀ o, o < 9 → ∀ k, k < 10 → Y (1 + o) k = N 82 (10 * o + k) ∧ Y (11 + o) k = N 83 (10 * o + k)
theorem up2L_row {X : mN} {a c r : Nat} {v : Int64} (h : r ≠ a) : up2 X a c v r = X r := hp_upne h
theorem sum_nL {f : Nat → Int64} {K x : Nat} : ∀ n, (∀ i, i < n → ∃ v, v ≤ K ∧ f i = nL v) → x + K * n < 4611686018427387904 → ∃ v, v ≤ x + K * n ∧ itN (fun s i => s + f i) (nL x) n = nL v
  | 0, _, _ => ⟨x, Nat.le_add_right _ _, rfl⟩
  | n + 1, h, hb => by
    rw [Nat.mul_succ] at hb
    obtain ⟨v, hv, e⟩ := sum_nL (x := x) n (fun i hi => h i (by omega)) (by omega)
    obtain ⟨u, hu, eu⟩ := h n (by omega)
    refine ⟨v + u, by rw [Nat.mul_succ]; omega, ?_⟩
    rw [itN_s, e, eu, nL_add (by omega)]
theorem roH_b {M : mM} {N : mN} {o : Nat} (B : faB N) (Bd : bC M) (ho : o < 9) : ∃ v, v ≤ 370000000 ∧ roH M N o = nL v := by
  obtain ⟨c, hc, ec⟩ := Bd.2.2.2.2.2.2.1 o ho
  unfold roH rohB
  rw [ec, nL_w (by omega)]
  obtain ⟨v, hv, e⟩ := sum_nL (f := fun jz => N 83 (10 * jz + o)) (K := 30000000) (x := c) 9 (fun i hi => (B (10 * i + o) (by omega)).2) (by omega)
  exact ⟨v, by omega, e⟩
theorem msu_b {N : mN} {o : Nat} {b : Int32} (B : faB N) (ho : o < 9) : ∃ v, v ≤ 300000000 ∧ msuS N b o 10 = nL v := by
  unfold msuS msuR
  obtain ⟨v, hv, e⟩ := sum_nL (f := fun j => (if b = 0 then N 83 else N 82) (10 * o + j)) (K := 30000000) (x := 0) 10 (fun i hi => by
    have := B (10 * o + i) (by omega)
    split
    · exact this.2
    · exact this.1) (by omega)
  exact ⟨v, by omega, e⟩
/-- what an office pays to one in the round -/
def nxV (M : mM) (N : mN) (o k : Nat) : Int64 := if 0 ≤ lg_cmp (roH M N o) (msuS N 1 o 10) then N 82 (10 * o + k) else N 82 (10 * o + k) * roH M N o / msuS N 1 o 10
theorem nx_b {M : mM} {N : mN} {o k : Nat} (B : faB N) (Bd : bC M) (ho : o < 9) (hk : k < 10) : ∃ v, v ≤ 30000000 ∧ nxV M N o k = nL v := by
  obtain ⟨a, ha, ea⟩ := (B (10 * o + k) (by omega)).1
  obtain ⟨x, hx, ex⟩ := roH_b B Bd ho
  obtain ⟨s, hs, es⟩ := msu_b (b := 1) B ho
  unfold nxV
  by_cases q : 0 ≤ lg_cmp (roH M N o) (msuS N 1 o 10)
  · rw [if_pos q]; exact ⟨a, ha, ea⟩
  · rw [if_neg q]
    have hl := lt_of_lgg q
    rw [ex, es, nL_lt (by omega) (by omega)] at hl
    have hp : a * x ≤ 30000000 * 370000000 := Nat.mul_le_mul ha hx
    rw [ea, ex, es, nL_mul (by omega) (by omega) (by omega), nL_div (by omega) (by omega)]
    refine ⟨a * x / s, ?_, rfl⟩
    have h1 : a * x ≤ a * s := Nat.mul_le_mul_left _ (by omega)
    have h2 : a * x / s ≤ a * s / s := Nat.div_le_div_right h1
    rw [Nat.mul_div_cancel a (by omega)] at h2
    omega
theorem ron_at {o : Nat} {has al : Int64} {N : mN} : ∀ j, (∀ r, r ≠ 84 → itN (ronB o has al) N j r = N r) ∧ ∀ i, itN (ronB o has al) N j 84 i = if 10 * o ≤ i ∧ i < 10 * o + j then (if 0 ≤ lg_cmp has al then N 82 i else N 82 i * has / al) else N 84 i
  | 0 => ⟨fun _ _ => rfl, fun i => (if_neg (by omega)).symm⟩
  | j + 1 => by
    obtain ⟨i1, i2⟩ := ron_at (o := o) (has := has) (al := al) (N := N) j
    rw [itN_s]
    generalize itN (ronB o has al) N j = z at i1 i2 ⊢
    have e : ronB o has al z j = up2 z 84 (10 * o + j) (if 0 ≤ lg_cmp has al then N 82 (10 * o + j) else N 82 (10 * o + j) * has / al) := by
      unfold ronB
      rw [i1 82 (by decide)]
      split <;> rfl
    rw [e]
    refine ⟨fun r h => (up2L_row h).trans (i1 r h), fun i => ?_⟩
    by_cases q : i = 10 * o + j
    · subst q
      rw [up2_s]
      exact (if_pos ⟨by omega, by omega⟩).symm
    · rw [up2_k _ _ q, i2 i]
      by_cases y : 10 * o ≤ i ∧ i < 10 * o + j
      · exact (if_pos y).trans (if_pos ⟨y.1, by omega⟩).symm
      · exact (if_neg y).trans (if_neg (fun c => y ⟨c.1, by have := c.2; omega⟩)).symm
theorem roh_fr {M : mM} {N N1 : mN} {o : Nat} (e : N1 83 = N 83) : roH M N1 o = roH M N o := by
  unfold roH
  have h : rohB N1 o = rohB N o := by
    funext z j
    unfold rohB
    rw [e]
  rw [h]
theorem msu_fr {N N1 : mN} {b : Int32} {o n : Nat} (e : N1 82 = N 82 ∧ N1 83 = N 83) : msuS N1 b o n = msuS N b o n := by
  unfold msuS msuR
  rw [e.1, e.2]
theorem roo_at {M : mM} {N : mN} : ∀ j, (∀ r, r ≠ 84 → itN (rooB M) N j r = N r) ∧ ∀ o, o < j → ∀ k, k < 10 → itN (rooB M) N j 84 (10 * o + k) = nxV M N o k
  | 0 => ⟨fun _ _ => rfl, fun o ho => absurd ho (Nat.not_lt_zero o)⟩
  | j + 1 => by
    obtain ⟨i1, i2⟩ := roo_at (M := M) (N := N) j
    rw [itN_s]
    generalize itN (rooB M) N j = z at i1 i2 ⊢
    unfold rooB
    rw [roh_fr (i1 83 (by decide)), msu_fr (N := N) ⟨i1 82 (by decide), i1 83 (by decide)⟩]
    obtain ⟨n1, n2⟩ := ron_at (o := j) (has := roH M N j) (al := msuS N 1 j 10) (N := z) 10
    refine ⟨fun r h => (n1 r h).trans (i1 r h), fun o ho k hk => ?_⟩
    rw [n2 (10 * o + k)]
    by_cases q : o = j
    · subst q
      rw [if_pos ⟨by omega, by omega⟩, i1 82 (by decide)]
      rfl
    · rw [if_neg (by omega)]
      exact i2 o (by omega) k hk
theorem pf_at {o : Nat} {has due : Int64} {Y : mN} (ho : o < 9) : ∀ j, (∀ r, r ≠ 21 + o → itN (pfB o has due) Y j r = Y r) ∧ ∀ k, k < j → itN (pfB o has due) Y j (21 + o) k = pfV (Y (1 + o) k) has due
  | 0 => ⟨fun _ _ => rfl, fun k hk => absurd hk (Nat.not_lt_zero k)⟩
  | j + 1 => by
    obtain ⟨i1, i2⟩ := pf_at (has := has) (due := due) (Y := Y) ho j
    rw [itN_s]
    generalize itN (pfB o has due) Y j = z at i1 i2 ⊢
    unfold pfB
    rw [i1 (1 + o) (by omega)]
    refine ⟨fun r h => (up2L_row h).trans (i1 r h), fun k hk => ?_⟩
    by_cases q : k = j
    · subst q; exact up2_s _ _ _ _
    · rw [up2_k _ _ q]; exact i2 k (by omega)
theorem got_e {Y N : mN} {x : Int64} {o : Nat} : ∀ n, (∀ i, i < n → Y (11 + i) o = N 83 (10 * i + o)) → x + gotL Y o n = itN (rohB N o) x n
  | 0, _ => Int64.add_zero x
  | n + 1, h => by
    have e : gotL Y o (n + 1) = gotL Y o n + Y (11 + n) o := itN_s _ _ _
    rw [e, ← Int64.add_assoc, got_e n (fun i hi => h i (by omega)), itN_s, h n (by omega)]
    rfl
theorem sum_e {f g : Nat → Int64} : ∀ n, (∀ i, i < n → f i = g i) → sumL f n = itN (fun s i => s + g i) 0 n
  | 0, _ => rfl
  | n + 1, h => by
    have e : sumL f (n + 1) = sumL f n + f n := itN_s _ _ _
    rw [e, sum_e n (fun i hi => h i (by omega)), itN_s, h n (by omega)]
theorem gr_at {F : mM} {M : mM} {Y N : mN} (R : rF9 Y N) (B : faB N) (Bd : bC M) (e134 : F 134 = M 40) : ∀ j, j ≤ 9 → (∀ r, ¬ (21 ≤ r ∧ r < 21 + j) → itN (grB F) Y j r = Y r) ∧ ∀ o, o < j → ∀ k, k < 10 → itN (grB F) Y j (21 + o) k = nxV M N o k := by
  intro j
  induction j with
  | zero => exact fun _ => ⟨fun _ _ => rfl, fun o ho => absurd ho (Nat.not_lt_zero o)⟩
  | succ j ih =>
    intro hj
    obtain ⟨i1, i2⟩ := ih (by omega)
    rw [itN_s]
    generalize itN (grB F) Y j = z at i1 i2 ⊢
    unfold grB pfS
    obtain ⟨p1, p2⟩ := pf_at (has := (F 134 j).toInt64 + gotL z j 9) (due := sumL (z (1 + j)) 10) (Y := z) (show j < 9 by omega) 10
    refine ⟨fun r h => (p1 r (by omega)).trans (i1 r (by omega)), fun o ho k hk => ?_⟩
    by_cases q : o = j
    · subst q
      rw [p2 k hk, i1 (1 + o) (by omega)]
      have eh : (F 134 o).toInt64 + gotL z o 9 = roH M N o := by
        unfold roH
        rw [e134]
        exact got_e 9 (fun i hi => by rw [i1 (11 + i) (by omega)]; exact (R i hi o (by omega)).2)
      have es : sumL (Y (1 + o)) 10 = msuS N 1 o 10 := by
        unfold msuS msuR
        rw [if_neg (show ¬ (1 : Int32) = 0 from by decide)]
        exact sum_e 10 (fun i hi => (R o (by omega) i hi).1)
      rw [eh, es, (R o (by omega) k hk).1]
      obtain ⟨x, hx, ex⟩ := roH_b B Bd (show o < 9 by omega)
      obtain ⟨s, hs, es2⟩ := msu_b (b := 1) B (show o < 9 by omega)
      unfold pfV nxV
      by_cases y : 0 ≤ lg_cmp (roH M N o) (msuS N 1 o 10)
      · rw [if_pos y, if_neg (fun c => nlt_of_lgg y c.2)]
      · have hl := lt_of_lgg y
        have h0 : 0 < msuS N 1 o 10 := by
          rw [ex, es2, nL_lt (by omega) (by omega)] at hl
          rw [es2, fa_lt64, nL_i (by omega), show (0 : Int64).toInt = 0 from by decide]
          omega
        rw [if_neg y, if_pos ⟨h0, hl⟩]
    · rw [p1 (21 + o) (by omega)]
      exact i2 o (by omega) k hk
theorem lg_eq {x y : Int64} : lg_cmp x y = 0 ↔ x = y := by
  refine ⟨fun h => ?_, fun h => ?_⟩
  · have h1 := nlt_of_lg (a := x) (b := y) (by rw [h]; decide)
    have h2 := nlt_of_lgg (a := x) (b := y) (by rw [h]; decide)
    rw [fa_lt64] at h1 h2
    apply Int64.toInt_inj.mp
    omega
  · have h1 : ¬ x < y := by rw [h, fa_lt64]; omega
    have h2 : ¬ y < x := by rw [h, fa_lt64]; omega
    have a1 : lg_cmp x y ≤ 0 := by
      rcases Classical.em (lg_cmp x y ≤ 0) with c | c
      · exact c
      · exact absurd (lt_of_lg c) h2
    have a2 : 0 ≤ lg_cmp x y := by
      rcases Classical.em (0 ≤ lg_cmp x y) with c | c
      · exact c
      · exact absurd (lt_of_lgg c) h1
    rw [fa_le, ti_0] at a1 a2
    rw [fa_eq, ti_0]
    omega
/-- the round's changes, place by place -/
def cgI (Y N : mN) (o k : Nat) (z : Int32 × mN) (y : Int32 × mN) : Prop := z.1 = y.1 ∧ (∀ r, ¬ (11 ≤ r ∧ r < 20) → z.2 r = Y r) ∧ (∀ r, r ≠ 83 → y.2 r = N r) ∧ ∀ o1, o1 < 9 → ∀ k1, k1 < 10 → z.2 (11 + o1) k1 = y.2 83 (10 * o1 + k1) ∧ (10 * o1 + k1 < 10 * o + k → y.2 83 (10 * o1 + k1) = N 84 (10 * o1 + k1)) ∧ (10 * o + k ≤ 10 * o1 + k1 → y.2 83 (10 * o1 + k1) = N 83 (10 * o1 + k1))
theorem cg_1 {Y N : mN} (h21 : ∀ o, o < 9 → ∀ k, k < 10 → Y (21 + o) k = N 84 (10 * o + k)) {o k : Nat} (ho : o < 9) (hk : k < 10) {z y : Int32 × mN} (I : cgI Y N o k z y) : cgI Y N o (k + 1) (cgB o z k) (rocB y (10 * o + k)) := by
  obtain ⟨i1, i2, i3, i4⟩ := I
  have e83 := (i4 o ho k hk).2.2 (Nat.le_refl _)
  have ez : z.2 (11 + o) k = N 83 (10 * o + k) := (i4 o ho k hk).1.trans e83
  have e21 : z.2 (21 + o) k = N 84 (10 * o + k) := by rw [i2 (21 + o) (by omega)]; exact h21 o ho k hk
  have ec : cgB o z k = (zb (¬ y.1 = 0 ∨ ¬ N 84 (10 * o + k) = N 83 (10 * o + k)), up2 z.2 (11 + o) k (N 84 (10 * o + k))) := by
    unfold cgB
    rw [e21, ez, i1]
  have er : rocB y (10 * o + k) = ((if y.1 = 0 then (if N 83 (10 * o + k) = N 84 (10 * o + k) then 0 else 1) else 1), up2 y.2 83 (10 * o + k) (N 84 (10 * o + k))) := by
    unfold rocB
    rw [i3 84 (by decide), e83]
    by_cases q : y.1 = 0
    · rw [if_pos q, if_pos q]
      by_cases q2 : N 83 (10 * o + k) = N 84 (10 * o + k)
      · rw [if_pos (lg_eq.mpr q2), if_pos q2]
      · rw [if_neg (fun c => q2 (lg_eq.mp c)), if_neg q2]
    · rw [if_neg q, if_neg q]
  rw [ec, er]
  refine ⟨?_, fun r h => ?_, fun r h => (up2L_row h).trans (i3 r h), fun o1 ho1 k1 hk1 => ?_⟩
  · dsimp only
    by_cases q : y.1 = 0
    · rw [if_pos q]
      by_cases q2 : N 83 (10 * o + k) = N 84 (10 * o + k)
      · rw [if_pos q2, zb_f (show ¬ (¬ y.1 = 0 ∨ ¬ N 84 (10 * o + k) = N 83 (10 * o + k)) from fun c => c.elim (fun c => c q) (fun c => c q2.symm))]
      · rw [if_neg q2, zb_t (show ¬ y.1 = 0 ∨ ¬ N 84 (10 * o + k) = N 83 (10 * o + k) from Or.inr (fun c => q2 c.symm))]
    · rw [if_neg q, zb_t (show ¬ y.1 = 0 ∨ ¬ N 84 (10 * o + k) = N 83 (10 * o + k) from Or.inl q)]
  · dsimp only
    rw [up2L_row (show r ≠ 11 + o by omega)]
    exact i2 r h
  · dsimp only
    obtain ⟨j1, j2, j3⟩ := i4 o1 ho1 k1 hk1
    by_cases q : 10 * o1 + k1 = 10 * o + k
    · have q1 : o1 = o := by omega
      have q2 : k1 = k := by omega
      subst q1
      subst q2
      rw [up2_s, up2_s]
      exact ⟨rfl, fun _ => rfl, fun c => absurd c (by omega)⟩
    · rw [up2_k y.2 _ q]
      refine ⟨?_, fun c => j2 (by omega), fun c => j3 (by omega)⟩
      rcases Nat.decEq o1 o with q1 | q1
      · rw [up2_a z.2 _ (show 11 + o1 ≠ 11 + o by omega)]
        exact j1
      · rw [up2_k z.2 _ (show k1 ≠ k by omega)]
        exact j1
theorem cg_10 {Y N : mN} (h21 : ∀ o, o < 9 → ∀ k, k < 10 → Y (21 + o) k = N 84 (10 * o + k)) {o : Nat} (ho : o < 9) {z y : Int32 × mN} (I : cgI Y N o 0 z y) : ∀ k, k ≤ 10 → ∀ x : Int32 × mN, x = y → cgI Y N o k (itN (cgB o) z k) (itN (fun s i => rocB s (10 * o + i)) x k) := by
  intro k
  induction k with
  | zero => exact fun _ x e => by subst e; exact I
  | succ k ih =>
    intro hk x e
    rw [itN_s, itN_s]
    exact cg_1 h21 ho (by omega) (ih (by omega) x e)
theorem it_app {α : Type} (f : α → Nat → α) (x : α) (a : Nat) : ∀ b, itN f x (a + b) = itN (fun s i => f s (a + i)) (itN f x a) b
  | 0 => rfl
  | b + 1 => by
    rw [← Nat.add_assoc, itN_s, itN_s, it_app f x a b]
theorem cg_all {Y N : mN} (h21 : ∀ o, o < 9 → ∀ k, k < 10 → Y (21 + o) k = N 84 (10 * o + k)) (R : rF9 Y N) : ∀ o, o ≤ 9 → cgI Y N o 0 (itN cgS (0, Y) o) (itN rocB (0, N) (10 * o)) := by
  intro o
  induction o with
  | zero =>
    intro _
    have I0 : cgI Y N 0 0 ((0 : Int32), Y) ((0 : Int32), N) := ⟨rfl, fun _ _ => rfl, fun _ _ => rfl, fun o1 ho1 k1 hk1 => ⟨(R o1 ho1 k1 hk1).2, fun c => absurd c (Nat.not_lt_zero _), fun _ => rfl⟩⟩
    rw [Nat.mul_zero]
    exact I0
  | succ o ih =>
    intro ho
    have I := cg_10 h21 (show o < 9 by omega) (ih (by omega)) 10 (Nat.le_refl _) _ rfl
    rw [itN_s, show 10 * (o + 1) = 10 * o + 10 by omega, it_app]
    obtain ⟨j1, j2, j3, j4⟩ := I
    exact ⟨j1, j2, j3, fun o1 ho1 k1 hk1 => ⟨(j4 o1 ho1 k1 hk1).1, fun c => (j4 o1 ho1 k1 hk1).2.1 (by omega), fun c => (j4 o1 ho1 k1 hk1).2.2 (by omega)⟩⟩
/-- one round -/
theorem rnd_e {F M : mM} {Y N : mN} (R : rF9 Y N) (B : faB N) (Bd : bC M) (e134 : F 134 = M 40) : (grS F Y).1 = (roS M N).1 ∧ rF9 (grS F Y).2 (roS M N).2 ∧ faB (roS M N).2 := by
  obtain ⟨g1, g2⟩ := gr_at R B Bd e134 9 (Nat.le_refl _)
  obtain ⟨r1, r2⟩ := roo_at (M := M) (N := N) 9
  have h := cg_all (Y := itN (grB F) Y 9) (N := itN (rooB M) N 9) (fun o ho k hk => (g2 o ho k hk).trans (r2 o ho k hk).symm) (fun o ho k hk => by
    rw [g1 (1 + o) (by omega), g1 (11 + o) (by omega), r1 82 (by decide), r1 83 (by decide)]
    exact R o ho k hk) 9 (Nat.le_refl _)
  obtain ⟨h1, h2, h3, h4⟩ := h
  have e90 : roS M N = itN rocB (0, itN (rooB M) N 9) (10 * 9) := rfl
  have eg : grS F Y = itN cgS (0, itN (grB F) Y 9) 9 := rfl
  rw [e90, eg]
  refine ⟨h1, fun o ho k hk => ?_, fun i hi => ?_⟩
  · refine ⟨?_, (h4 o ho k hk).1⟩
    rw [h2 (1 + o) (by omega), h3 82 (by decide), g1 (1 + o) (by omega), r1 82 (by decide)]
    exact (R o ho k hk).1
  · obtain ⟨o, k, ho, hk, e⟩ : ∃ o k, o < 9 ∧ k < 10 ∧ i = 10 * o + k := ⟨i / 10, i % 10, by omega, by omega, by omega⟩
    subst e
    rw [h3 82 (by decide), r1 82 (by decide), (h4 o ho k hk).2.1 (by omega), r2 o ho k hk]
    exact ⟨(B (10 * o + k) hi).1, nx_b B Bd ho hk⟩
theorem fa_I {M : mM} (Bd : bC M) : ∀ (k : Nat) (N : mN) (Y : mN) (F : mM), F 134 = M 40 → rF9 Y N → faB N → faI M k N
  | 0, _, _, _, _, _, _ => trivial
  | k + 1, N, Y, F, e, R, B => by
    obtain ⟨-, h2, h3⟩ := rnd_e (F := F) R B Bd e
    refine ⟨fun o ho => ?_, fa_I Bd k _ _ F e h2 h3⟩
    obtain ⟨v, hv, ev9⟩ := roH_b B Bd ho
    rw [ev9, fa_lt64, nL_i (by omega), show (0 : Int64).toInt = 0 from by decide]
    omega
/-- all rounds -/
theorem wk_e {F M : mM} (Bd : bC M) (e134 : F 134 = M 40) {X : mM} : ∀ (k r : Nat) (is : Int32) (Y N : mN), rF9 Y N → faB N → r + k ≤ 1000 → X 0 0 = nI r → rF9 (itN (wkB F) (is, Y, X) k).2.1 (fa4 M k r is N).2 ∧ (itN (wkB F) (is, Y, X) k).2.2 0 0 = nI (fa4 M k r is N).1 := by
  have step : ∀ (k : Nat) (z : wT), itN (wkB F) z (k + 1) = itN (wkB F) (wkB F z 0) k := by
    intro k z
    have e := itN_b (fun z => wkB F z 0) z k
    exact e
  intro k
  induction k generalizing X with
  | zero => exact fun r is Y N R _ _ h0 => ⟨R, h0⟩
  | succ k ih =>
    intro r is Y N R B hr h0
    rw [step]
    have e4 : fa4 M (k + 1) r is N = if is = 0 then (r, N) else fa4 M k (r + 1) (roS M N).1 (roS M N).2 := rfl
    rw [e4]
    by_cases q : is = 0
    · rw [if_pos q]
      have e1 : wkB F (is, Y, X) 0 = (is, Y, X) := if_pos q
      rw [e1]
      have stay : ∀ j, itN (wkB F) (is, Y, X) j = (is, Y, X) := by
        intro j
        induction j with
        | zero => rfl
        | succ j ij =>
          rw [itN_s, ij]
          exact if_pos q
      rw [stay]
      exact ⟨R, h0⟩
    · rw [if_neg q]
      have e1 : wkB F (is, Y, X) 0 = ((grS F Y).1, (grS F Y).2, up2 X 0 0 (X 0 0 + 1)) := if_neg q
      obtain ⟨h1, h2, h3⟩ := rnd_e (F := F) R B Bd e134
      rw [e1, h1]
      exact ih (r + 1) _ _ _ h2 h3 (by omega) (by rw [up2_s, h0, nI_1])
