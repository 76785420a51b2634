/-! ===== class against reference: a whole fire ===== -/
theorem golB_at {n s w g : Nat} (z : qS) (jz : Nat) {r k : Nat} (h : 53 ≤ r ∧ r ≤ 57) : (golB n s w g z jz).1 r k = if k = jz then (if r = 57 then -1 else 0) else z.1 r k := by
  have hY : ∀ Y : mM, Y = up2 (up2 (up2 (up2 (up2 z.1 53 jz 0) 54 jz 0) 55 jz 0) 56 jz 0) 57 jz (-1) → Y r k = if k = jz then (if r = 57 then -1 else 0) else z.1 r k := fun Y e => by
    subst e
    by_cases q : k = jz
    · subst q
      rw [if_pos rfl]
      rcases (show r = 53 ∨ r = 54 ∨ r = 55 ∨ r = 56 ∨ r = 57 by omega) with e | e | e | e | e
      · subst e
        rw [up2_row (show 53 ≠ 57 by decide), up2_row (show 53 ≠ 56 by decide), up2_row (show 53 ≠ 55 by decide), up2_row (show 53 ≠ 54 by decide), up2_s]; rfl
      · subst e
        rw [up2_row (show 54 ≠ 57 by decide), up2_row (show 54 ≠ 56 by decide), up2_row (show 54 ≠ 55 by decide), up2_s]; rfl
      · subst e
        rw [up2_row (show 55 ≠ 57 by decide), up2_row (show 55 ≠ 56 by decide), up2_s]; rfl
      · subst e
        rw [up2_row (show 56 ≠ 57 by decide), up2_s]; rfl
      · subst e
        rw [up2_s]; rfl
    · rw [if_neg q, up2_k _ _ q, up2_k _ _ q, up2_k _ _ q, up2_k _ _ q, up2_k _ _ q]
  unfold golB
  split
  · exact (congrFun (up2_row (by omega)) k).trans (hY _ rfl)
  · exact (congrFun ((up2_row (by omega)).trans (hep_row (by omega) 9)) k).trans (hY _ rfl)
theorem gol_at {n s w g : Nat} (z : qS) {r k : Nat} (h : 53 ≤ r ∧ r ≤ 57) : ∀ j, k < j → (itN (golB n s w g) z j).1 r k = if r = 57 then -1 else 0
  | 0, hk => absurd hk (Nat.not_lt_zero k)
  | j + 1, hk => by
    rw [itN_s, golB_at _ j h]
    by_cases q : k = j
    · rw [if_pos q]
    · rw [if_neg q]
      exact gol_at z h j (by omega)
theorem goe_at {M : mM} {e : Nat} : ∀ j, e < j → itN goeB M j 60 e = M 42 e ∧ itN goeB M j 61 e = -1 ∧ itN goeB M j 62 e = -1
  | 0, hk => absurd hk (Nat.not_lt_zero e)
  | j + 1, hk => by
    rw [itN_s]
    have h42 : itN goeB M j 42 = M 42 := itN_row (fun z i => goeB_row z i (by decide) (by decide) (by decide)) M j
    have ih := goe_at (M := M) (e := e) j
    generalize itN goeB M j = Z at h42 ih ⊢
    unfold goeB
    by_cases q : e = j
    · subst q
      rw [up2_row (show 60 ≠ 62 by decide), up2_row (show 60 ≠ 61 by decide), up2_s, up2_row (show 61 ≠ 62 by decide), up2_s, up2_s, h42]
      exact ⟨rfl, rfl, rfl⟩
    · rw [up2_k _ _ q, up2_k _ _ q, up2_k _ _ q, up2_k _ _ q, up2_k _ _ q, up2_k _ _ q, up2_k _ _ q, up2_k _ _ q, up2_k _ _ q]
      exact ih (by omega)
theorem rdb_at {F X : mM} {w g c : Nat} : ∀ j, c < j → itN (rdyB F w g) X j 1 c = F 2 c ∧ itN (rdyB F w g) X j 3 c = 0 ∧ itN (rdyB F w g) X j 4 c = 0 ∧ itN (rdyB F w g) X j 5 c = 0 ∧ itN (rdyB F w g) X j 6 c = 0 ∧ itN (rdyB F w g) X j 7 c = -1 ∧ itN (rdyB F w g) X j 8 c = zb (anyb (plN (F 6) w c) (w * g) = true)
  | 0, hk => absurd hk (Nat.not_lt_zero c)
  | j + 1, hk => by
    have ih := rdb_at (F := F) (X := X) (w := w) (g := g) (c := c) j
    rw [itN_s]
    generalize itN (rdyB F w g) X j = Z at ih ⊢
    unfold rdyB
    by_cases q : c = j
    · subst q
      refine ⟨?_, ?_, ?_, ?_, ?_, ?_, up2_s _ _ _ _⟩
      · rw [up2_row (show 1 ≠ 8 by decide), up2_row (show 1 ≠ 7 by decide), up2_row (show 1 ≠ 6 by decide), up2_row (show 1 ≠ 5 by decide), up2_row (show 1 ≠ 4 by decide), up2_row (show 1 ≠ 3 by decide), up2_s]
      · rw [up2_row (show 3 ≠ 8 by decide), up2_row (show 3 ≠ 7 by decide), up2_row (show 3 ≠ 6 by decide), up2_row (show 3 ≠ 5 by decide), up2_row (show 3 ≠ 4 by decide), up2_s]
      · rw [up2_row (show 4 ≠ 8 by decide), up2_row (show 4 ≠ 7 by decide), up2_row (show 4 ≠ 6 by decide), up2_row (show 4 ≠ 5 by decide), up2_s]
      · rw [up2_row (show 5 ≠ 8 by decide), up2_row (show 5 ≠ 7 by decide), up2_row (show 5 ≠ 6 by decide), up2_s]
      · rw [up2_row (show 6 ≠ 8 by decide), up2_row (show 6 ≠ 7 by decide), up2_s]
      · rw [up2_row (show 7 ≠ 8 by decide), up2_s]
    · replace ih := ih (by omega)
      refine ⟨?_, ?_, ?_, ?_, ?_, ?_, ?_⟩
      · rw [up2_k _ _ q, up2_k _ _ q, up2_k _ _ q, up2_k _ _ q, up2_k _ _ q, up2_k _ _ q, up2_k _ _ q]; exact ih.1
      · rw [up2_k _ _ q, up2_k _ _ q, up2_k _ _ q, up2_k _ _ q, up2_k _ _ q, up2_k _ _ q, up2_k _ _ q]; exact ih.2.1
      · rw [up2_k _ _ q, up2_k _ _ q, up2_k _ _ q, up2_k _ _ q, up2_k _ _ q, up2_k _ _ q, up2_k _ _ q]; exact ih.2.2.1
      · rw [up2_k _ _ q, up2_k _ _ q, up2_k _ _ q, up2_k _ _ q, up2_k _ _ q, up2_k _ _ q, up2_k _ _ q]; exact ih.2.2.2.1
      · rw [up2_k _ _ q, up2_k _ _ q, up2_k _ _ q, up2_k _ _ q, up2_k _ _ q, up2_k _ _ q, up2_k _ _ q]; exact ih.2.2.2.2.1
      · rw [up2_k _ _ q, up2_k _ _ q, up2_k _ _ q, up2_k _ _ q, up2_k _ _ q, up2_k _ _ q, up2_k _ _ q]; exact ih.2.2.2.2.2.1
      · rw [up2_k _ _ q, up2_k _ _ q, up2_k _ _ q, up2_k _ _ q, up2_k _ _ q, up2_k _ _ q, up2_k _ _ q]; exact ih.2.2.2.2.2.2
theorem rde_at {F X : mM} {e : Nat} : ∀ j, e < j → itN (rdyE F) X j 9 e = F 147 e ∧ itN (rdyE F) X j 10 e = -1 ∧ itN (rdyE F) X j 11 e = -1
  | 0, hk => absurd hk (Nat.not_lt_zero e)
  | j + 1, hk => by
    have ih := rde_at (F := F) (X := X) (e := e) j
    rw [itN_s]
    generalize itN (rdyE F) X j = Z at ih ⊢
    unfold rdyE
    by_cases q : e = j
    · subst q
      rw [up2_row (show 9 ≠ 11 by decide), up2_row (show 9 ≠ 10 by decide), up2_s, up2_row (show 10 ≠ 11 by decide), up2_s, up2_s]
      exact ⟨rfl, rfl, rfl⟩
    · rw [up2_k _ _ q, up2_k _ _ q, up2_k _ _ q, up2_k _ _ q, up2_k _ _ q, up2_k _ _ q, up2_k _ _ q, up2_k _ _ q, up2_k _ _ q]
      exact ih (by omega)
theorem rde_row {F X : mM} {r : Nat} (h : r ≠ 9 ∧ r ≠ 10 ∧ r ≠ 11) (j : Nat) : itN (rdyE F) X j r = X r := itN_row (fun Z i => (up2_row h.2.2).trans ((up2_row h.2.1).trans (up2_row h.1))) X j
theorem rdb_row {F X : mM} {w g r : Nat} (h : r = 0 ∨ r = 2 ∨ 8 < r) (j : Nat) : itN (rdyB F w g) X j r = X r := itN_row (fun Z i => (up2_row (by omega)).trans ((up2_row (by omega)).trans ((up2_row (by omega)).trans ((up2_row (by omega)).trans ((up2_row (by omega)).trans ((up2_row (by omega)).trans (up2_row (by omega)))))))) X j
/-- both as the fire begins -/
theorem fX_0 {F X M : mM} {n s w g m c0 : Nat} {W : tW} (R : rC F M w g) (E9 : rE F M w g m) (hc : c0 < w * g) (h34 : ¬ M 34 c0 = 0) : fX (kinX (rdyX F w g m X) c0 0) (gopK c0 m (goM (goZ n s w g (M, W)))) (w * g) m ∧ (∀ c, c < w * g → kinX (rdyX F w g m X) c0 0 8 c = zb (anyb (plN (M 35) w c) (w * g) = true)) ∧ drvI m (w * g) (kinX (rdyX F w g m X) c0 0) ∧ kinX (rdyX F w g m X) c0 0 0 0 = 1 := by
  have hn := (cty_n R.1).2
  have eX : ∀ r, r ≠ 0 → r ≠ 9 ∧ r ≠ 10 ∧ r ≠ 11 → rdyX F w g m X r = itN (rdyB F w g) (up2 X 0 0 1) (w * g) r := fun r h0 h => (rde_row h m).trans (up2_row h0)
  have hz : ∀ r, 53 ≤ r → r ≤ 57 → ∀ c, c < 120 → (goZ n s w g (M, W)).1 r c = if r = 57 then -1 else 0 := fun r h1 h2 c hc => gol_at (M, W) ⟨h1, h2⟩ 120 hc
  have h34e : (goZ n s w g (M, W)).1 34 = M 34 := gol_row (by decide) (by decide) (by decide) (by decide) (by decide) (by decide) (by decide) 120
  have h42e : (goZ n s w g (M, W)).1 42 = M 42 := gol_row (by decide) (by decide) (by decide) (by decide) (by decide) (by decide) (by decide) 120
  generalize goZ n s w g (M, W) = z at hz h34e h42e ⊢
  have hb := fun c (hc : c < w * g) => rdb_at (F := F) (X := up2 X 0 0 1) (w := w) (g := g) (c := c) (w * g) hc
  have h7 : rdyX F w g m X 7 c0 = -1 := by
    rw [eX 7 (by decide) (by decide)]
    exact (hb c0 hc).2.2.2.2.2.1
  have eK : kinX (rdyX F w g m X) c0 0 = up2 (up2 (up2 (rdyX F w g m X) 3 c0 1) 5 c0 1) 7 c0 0 := if_pos h7
  rw [eK]
  have he0 : ∀ e, e < m → rdyX F w g m X 9 e = F 147 e ∧ rdyX F w g m X 10 e = -1 ∧ rdyX F w g m X 11 e = -1 := fun e he => rde_at m he
  have hg : ∀ r, r ≠ 60 → r ≠ 61 → r ≠ 62 → gopK c0 m (goM z) r = up2 (up2 (up2 (goM z) 53 c0 1) 55 c0 1) 57 c0 0 r := fun r h0 h1 h2 => itN_row (fun z j => goeB_row z j h0 h1 h2) _ m
  have hgM : ∀ r, r ≠ 0 → goM z r = z.1 r := fun r h0 => up2_row h0
  have hge := fun e (he : e < m) => goe_at (M := up2 (up2 (up2 (goM z) 53 c0 1) 55 c0 1) 57 c0 0) (e := e) m he
  have h42g : up2 (up2 (up2 (goM z) 53 c0 1) 55 c0 1) 57 c0 0 42 = M 42 := (up2_row (by decide)).trans ((up2_row (by decide)).trans ((up2_row (by decide)).trans ((hgM 42 (by decide)).trans h42e)))
  refine ⟨⟨fun c hcc => ?_, fun e he => ?_⟩, fun c hcc => ?_, ⟨?_, fun e he => ?_⟩, ?_⟩
  · obtain ⟨b1, b3, b4, b5, b6, b7, -⟩ := hb c hcc
    unfold fC
    rw [hg 34 (by decide) (by decide) (by decide), hg 53 (by decide) (by decide) (by decide), hg 54 (by decide) (by decide) (by decide), hg 55 (by decide) (by decide) (by decide), hg 56 (by decide) (by decide) (by decide), hg 57 (by decide) (by decide) (by decide), up2_row (show 1 ≠ 7 by decide), up2_row (show 1 ≠ 5 by decide), up2_row (show 1 ≠ 3 by decide), up2_row (show 34 ≠ 57 by decide), up2_row (show 34 ≠ 55 by decide), up2_row (show 34 ≠ 53 by decide), hgM 34 (by decide), h34e, eX 1 (by decide) (by decide), b1, up2_row (show 4 ≠ 7 by decide), up2_row (show 4 ≠ 5 by decide), up2_row (show 4 ≠ 3 by decide), up2_row (show 54 ≠ 57 by decide), up2_row (show 54 ≠ 55 by decide), up2_row (show 54 ≠ 53 by decide), hgM 54 (by decide), hz 54 (by decide) (by decide) c (by omega), eX 4 (by decide) (by decide), b4, up2_row (show 6 ≠ 7 by decide), up2_row (show 6 ≠ 5 by decide), up2_row (show 6 ≠ 3 by decide), up2_row (show 56 ≠ 57 by decide), up2_row (show 56 ≠ 55 by decide), up2_row (show 56 ≠ 53 by decide), hgM 56 (by decide), hz 56 (by decide) (by decide) c (by omega), eX 6 (by decide) (by decide), b6, up2_row (show 3 ≠ 7 by decide), up2_row (show 3 ≠ 5 by decide), up2_row (show 53 ≠ 57 by decide), up2_row (show 53 ≠ 55 by decide), up2_row (show 5 ≠ 7 by decide), up2_row (show 55 ≠ 57 by decide), R.2.2.1]
    by_cases q : c = c0
    · subst q
      rw [up2_s, up2_s, up2_s, up2_s, up2_s, up2_s]
      exact ⟨rfl, rfl, rfl, rfl, rfl, rfl, fun _ => h34, ⟨1, by decide, rfl⟩, fun y => absurd y (by decide)⟩
    · rw [up2_k _ _ q, up2_k _ _ q, up2_k _ _ q, up2_k _ _ q, up2_k _ _ q, up2_k _ _ q, up2_k _ _ q, up2_k _ _ q, up2_k _ _ q, up2_k _ _ q, up2_k _ _ q, up2_k _ _ q, eX 3 (by decide) (by decide), eX 5 (by decide) (by decide), eX 7 (by decide) (by decide), b3, b5, b7, hgM 53 (by decide), hgM 55 (by decide), hgM 57 (by decide), hz 53 (by decide) (by decide) c (by omega), hz 55 (by decide) (by decide) c (by omega), hz 57 (by decide) (by decide) c (by omega)]
      exact ⟨rfl, rfl, rfl, rfl, rfl, rfl, fun y => absurd y (by decide), ⟨0, by decide, rfl⟩, fun _ => ⟨0, by decide, rfl⟩⟩
  · obtain ⟨q1, q2, q3⟩ := he0 e he
    obtain ⟨p1, p2, p3⟩ := hge e he
    refine ⟨?_, ?_, ?_⟩
    · rw [up2_row (show 9 ≠ 7 by decide), up2_row (show 9 ≠ 5 by decide), up2_row (show 9 ≠ 3 by decide), q1]
      refine Eq.trans ?_ p1.symm
      rw [h42g]
      exact (E9.2.2.2 e he).1.2.1
    · rw [up2_row (show 10 ≠ 7 by decide), up2_row (show 10 ≠ 5 by decide), up2_row (show 10 ≠ 3 by decide), q2]
      exact p2.symm
    · rw [up2_row (show 11 ≠ 7 by decide), up2_row (show 11 ≠ 5 by decide), up2_row (show 11 ≠ 3 by decide), q3]
      exact p3.symm
  · rw [up2_row (show 8 ≠ 7 by decide), up2_row (show 8 ≠ 5 by decide), up2_row (show 8 ≠ 3 by decide), eX 8 (by decide) (by decide), (hb c hcc).2.2.2.2.2.2, R.2.2.2.2.2.2.1]
  · rw [up2_row (show 0 ≠ 7 by decide), up2_row (show 0 ≠ 5 by decide), up2_row (show 0 ≠ 3 by decide)]
    exact (congrFun (rde_row (by decide) m) 1).trans ((up2_s _ _ _ _).trans E9.1)
  · obtain ⟨q1, q2, q3⟩ := he0 e he
    rw [up2_row (show 9 ≠ 7 by decide), up2_row (show 9 ≠ 5 by decide), up2_row (show 9 ≠ 3 by decide), q1, up2_row (show 10 ≠ 7 by decide), up2_row (show 10 ≠ 5 by decide), up2_row (show 10 ≠ 3 by decide), q2]
    obtain ⟨⟨-, z1, -, -⟩, -, ⟨a, ha, ea⟩, -, -⟩ := E9.2.2.2 e he
    exact ⟨⟨a, ha, z1.trans ea⟩, Or.inl rfl⟩
  · rw [up2_row (show 0 ≠ 7 by decide), up2_row (show 0 ≠ 5 by decide), up2_row (show 0 ≠ 3 by decide)]
    exact (congrFun (rde_row (by decide) m) 0).trans ((up2_k _ _ (by decide)).trans ((congrFun (rdb_row (Or.inl rfl) _) 0).trans (up2_s _ _ _ _)))
theorem tly_at {F X : mM} : ∀ j, (∀ r, r ≠ 0 → r ≠ 2 → itN (tlyB F) X j r = X r) ∧ (∀ k, k ≠ 2 → itN (tlyB F) X j 0 k = X 0 k) ∧ itN (tlyB F) X j 0 2 = itN (fun f c => f + tlyV F X c) (X 0 2) j ∧ ∀ c, c < j → itN (tlyB F) X j 2 c = tlyV F X c
  | 0 => ⟨fun _ _ _ => rfl, fun _ _ => rfl, rfl, fun c hc => absurd hc (Nat.not_lt_zero c)⟩
  | j + 1 => by
    obtain ⟨i1, i2, i3, i4⟩ := tly_at (F := F) (X := X) j
    rw [itN_s, itN_s]
    have ev9 : tlyV F (itN (tlyB F) X j) j = tlyV F X j := by
      unfold tlyV
      rw [i1 1 (by decide) (by decide), i1 6 (by decide) (by decide)]
    generalize itN (tlyB F) X j = Z at i1 i2 i3 i4 ev9 ⊢
    unfold tlyB
    rw [ev9]
    refine ⟨fun r h0 h2 => ?_, fun k hk => ?_, ?_, fun c hc => ?_⟩
    · rw [up2_row h0, up2_row h2, i1 r h0 h2]
    · rw [up2_k _ _ hk, up2_row (show 0 ≠ 2 by decide), i2 k hk]
    · rw [up2_s, i3]
    · rw [up2_row (show 2 ≠ 0 by decide)]
      by_cases q : c = j
      · subst q; exact up2_s _ _ _ _
      · rw [up2_k _ _ q]; exact i4 c (by omega)
theorem itN_ext {α : Type} {f f1 : α → Nat → α} {x : α} : ∀ n, (∀ j, j < n → ∀ z, f z j = f1 z j) → itN f x n = itN f1 x n
  | 0, _ => rfl
  | n + 1, h => by rw [itN_s, itN_s, itN_ext n (fun j hj => h j (by omega)), h n (by omega)]
theorem fire_eq {F X M : mM} {n s w g m c0 T : Nat} {W : tW} (R : rC F M w g) (Wd : rW F M) (Bd : bC M) (E9 : rE F M w g m) (h59 : ∀ c, c < w * g → F 170 c = (goZ n s w g (M, W)).1 59 c) (hc : c0 < w * g) (h34 : ¬ M 34 c0 = 0) (hT : T ≤ 120) : fX (brnX F w g m c0 T X) (goF n s w g m c0 T (M, W)) (w * g) m ∧ (∀ c, c < w * g → brnX F w g m c0 T X 2 c = mloV (goF n s w g m c0 T (M, W)) c) ∧ brnX F w g m c0 T X 0 0 = 1 ∧ brnX F w g m c0 T X 0 1 = nI m ∧ brnX F w g m c0 T X 0 2 = itN (fun f c => f + mloV (goF n s w g m c0 T (M, W)) c) 0 (w * g) := by
  obtain ⟨I0, hW, D, h00⟩ := fX_0 (n := n) (s := s) (W := W) (X := X) R E9 hc h34
  have hr : ∀ r, r < 53 → r ≠ 0 → gopK c0 m (goM (goZ n s w g (M, W))) r = M r := fun r h h0 => (gop_row h0 (by omega) (by omega) (by omega) (by omega) (by omega) (by omega)).trans (gol_row h0 (by omega) (by omega) (by omega) (by omega) (by omega) (by omega) 120)
  have hr0 : ∀ k, k < 70 → gopK c0 m (goM (goZ n s w g (M, W))) 0 k = M 0 k := fun k h => (gop_0 (by omega)).trans (gol_0 (by omega) (by omega) (by omega) (by omega) 120)
  have hr59 : gopK c0 m (goM (goZ n s w g (M, W))) 59 = (goZ n s w g (M, W)).1 59 := gop_row (by decide) (by decide) (by decide) (by decide) (by decide) (by decide) (by decide)
  have hgr : ∀ r, r < 53 → r ≠ 0 → goF n s w g m c0 T (M, W) r = M r := fun r h h0 => go_row (by omega) h0
  have hmn := fX_mn (F := F) (X := kinX (rdyX F w g m X) c0 0) (M := gopK c0 m (goM (goZ n s w g (M, W)))) (rC_fr (fun _ _ => rfl) (fun x hx => hr x (by omega) (by omega)) ⟨hr0 42 (by decide), hr0 43 (by decide)⟩ R) (rW_fr ⟨rfl, rfl, rfl⟩ ⟨hr 37 (by decide) (by decide), hr 38 (by decide) (by decide), hr 39 (by decide) (by decide)⟩ Wd) (bC_fr (fun x hx => hr x (by omega) (by omega)) Bd) (rE_fr ⟨rfl, hr0 54 (by decide)⟩ (fun _ _ => rfl) (fun x hx => hr x (by omega) (by omega)) E9) (fun c hc => by rw [hr 35 (by decide) (by decide)]; exact hW c hc) (fun c hc => by rw [hr59]; exact h59 c hc) D I0 T hT
  have e0 : itN (mnB F w g m) (kinX (rdyX F w g m X) c0 0) T 0 = kinX (rdyX F w g m X) c0 0 0 := itN_row (fun Z j => mn_r (by decide) Z j) _ T
  change fX (itN (mnB F w g m) (kinX (rdyX F w g m X) c0 0) T) (goF n s w g m c0 T (M, W)) (w * g) m at hmn
  unfold brnX
  generalize goF n s w g m c0 T (M, W) = Z at hmn hgr ⊢
  generalize itN (mnB F w g m) (kinX (rdyX F w g m X) c0 0) T = Y at hmn e0 ⊢
  obtain ⟨t1, t2, t3, t4⟩ := tly_at (F := F) (X := up2 Y 0 2 0) (w * g)
  have hrY : ∀ r, r ≠ 0 → up2 Y 0 2 0 r = Y r := fun r h => up2_row h
  have hV : ∀ c, c < w * g → tlyV F (up2 Y 0 2 0) c = mloV Z c := fun c hc => by
    obtain ⟨a1, -, -, -, a6, -⟩ := hmn.1 c hc
    unfold tlyV mloV
    rw [hrY 1 (by decide), hrY 6 (by decide), a1, a6, R.2.2.2.1, R.2.2.2.2.2.1, hgr 33 (by decide) (by decide), hgr 31 (by decide) (by decide)]
  refine ⟨⟨fun c hc => fC_fr (fun r hr => congrFun ((t1 r (by omega) (by omega)).trans (hrY r (by omega))) c) (fun _ _ => rfl) (hmn.1 c hc), fun e he => fE_fr (fun r hr => congrFun ((t1 r (by omega) (by omega)).trans (hrY r (by omega))) e) (fun _ _ => rfl) (hmn.2 e he)⟩, fun c hc => (t4 c hc).trans (hV c hc), ?_, ?_, ?_⟩
  · rw [t2 0 (by decide), up2_k _ _ (show 0 ≠ 2 by decide), e0]; exact h00
  · rw [t2 1 (by decide), up2_k _ _ (show 1 ≠ 2 by decide), e0]; exact D.1
  · rw [t3, up2_s]
    exact itN_ext _ (fun j hj z => by rw [hV j hj])
