/-! ===== the calls: plan, one step of the search ===== -/
theorem pn_F {H : hp_T} {S : kS} {A Q : mM} : (∀ o, o < 5 → hp_i (hb (hb (hk H S) 145 5 A) 243 4 Q) (145 + o) = A o) ∧ (∀ x, x < 145 ∨ (150 ≤ x ∧ x < 165) → hp_i (hb (hb (hk H S) 145 5 A) 243 4 Q) x = hp_i H x) ∧ hp_i (hb (hb (hk H S) 145 5 A) 243 4 Q) 170 = S.1 5 := by
  refine ⟨fun o ho => (hb_out _ Q (b := 243) (n := 4) (by omega)).trans (hb_in (hk H S) (b := 145) (n := 5) A ho), fun x hx => (hb_out _ Q (b := 243) (n := 4) (by omega)).trans ((hb_out (hk H S) A (b := 145) (n := 5) (by omega)).trans (hb_out H S.1 (b := 165) (n := 9) (by omega))), (hb_out _ Q (b := 243) (n := 4) (by decide)).trans ((hb_out (hk H S) A (b := 145) (n := 5) (by decide)).trans (hb_in H (b := 165) (n := 9) (o := 5) S.1 (by decide)))⟩
theorem pn_fire {H : hp_T} {M : mM} {w g m n p L s k c T : Nat} {o go po : Int32} {z : skT} {y : (mM × mN × tW) × Int32} {t : tr3} (P : Pc H M w g m n p L) (hs : s ≤ n) (hmk : m + k ≤ 12) (ho : ∃ a, a ≤ 8 ∧ o = nI a) (hgo : ∃ a, 1 ≤ a ∧ a ≤ 9 ∧ go = nI a) (hpo : ∃ a, 1 ≤ a ∧ a ≤ 9 ∧ po = nI a) (hc : c < w * g) (h34 : ¬ M 34 c = 0) (hT : T ≤ 120) (I : pnI M m k p o go po z y) (ch : ∀ i, i < k → z.1.2.1 3 i = nI (tri t i) ∧ tri t i < p) : skX (hk H (lrn H w g s)) w g m k c T z 0 2 = pnL n s w g m k c T o go po t y.1.1 y.1.2.2 := by
  obtain ⟨i1, ⟨i2, i3⟩, ⟨i4, i5, i6, i7, i8⟩, i9, i10, i11, i12⟩ := I
  obtain ⟨a1, a2, a3⟩ := pnM_at (m := m) (o := o) (go := go) (po := po) (t := t) (M := y.1.1) k
  obtain ⟨b1, b2⟩ := ad_at (m := m) (Q := z.1.2.1) (A := z.1.1) k
  have b0 := ad_0 m z.1.2.1 z.1.1 i2 k
  obtain ⟨f1, f2, f3⟩ := pn_F (H := H) (S := lrn H w g s) (A := skA m k z) (Q := z.1.2.1)
  obtain ⟨-, rp1, rp2, rp3⟩ := P.2.1.2.1
  obtain ⟨e1, e2, e3, e4⟩ := P.2.1.1
  have hM : ∀ r, r ≠ 0 → r < 53 → r < 41 ∨ 44 < r → pnM m k o go po t y.1.1 r = M r := fun r h0 h1 h2 => (a1 r h2).trans (i9 r h0 (Or.inl h1) h2 (by omega))
  have hM0 : ∀ j, j < 70 ∨ 74 < j → j ≠ 54 → pnM m k o go po t y.1.1 0 j = M 0 j := fun j h1 h2 => (congrFun (a1 0 (by decide)) j).trans (i11 j h1 h2)
  have RC : rC (hp_i H) (pnM m k o go po t y.1.1) w g := rC_fr (fun _ _ => rfl) (fun x hx => hM x (by omega) (by omega) (by omega)) ⟨hM0 42 (by decide) (by decide), hM0 43 (by decide) (by decide)⟩ P.1.1
  have BC : bC (pnM m k o go po t y.1.1) := bC_fr (fun x hx => hM x (by omega) (by omega) (by omega)) P.1.2.1
  have RA : rA (hp_i H) (pnM m k o go po t y.1.1) w g n := rA_fr (fun _ _ => rfl) ⟨hM0 62 (by decide) (by decide), hM0 68 (by decide) (by decide)⟩ (fun x hx => hM x (by omega) (by omega) (by omega)) P.2.2.1.1
  have RT : rT H (pnM m k o go po t y.1.1) n := rT_fr (fun r hr => hM r (by omega) (by omega) (by omega)) P.2.2.1.2
  have RW : rW (hp_i H) (pnM m k o go po t y.1.1) := rW_fr ⟨rfl, rfl, rfl⟩ ⟨hM 37 (by decide) (by decide) (by decide), hM 38 (by decide) (by decide) (by decide), hM 39 (by decide) (by decide) (by decide)⟩ P.1.2.2
  have RE : rE (hp_i (hb (hb (hk H (lrn H w g s)) 145 5 (skA m k z)) 243 4 z.1.2.1)) (pnM m k o go po t y.1.1) w g (m + k) := by
    refine ⟨(congrFun (f1 0 (by decide)) 0).trans b0, (congrFun (a1 0 (by decide)) 54).trans i12, hmk, fun e he => ?_⟩
    rw [show hp_i (hb (hb (hk H (lrn H w g s)) 145 5 (skA m k z)) 243 4 z.1.2.1) 146 = skA m k z 1 from f1 1 (by decide), show hp_i (hb (hb (hk H (lrn H w g s)) 145 5 (skA m k z)) 243 4 z.1.2.1) 147 = skA m k z 2 from f1 2 (by decide), show hp_i (hb (hb (hk H (lrn H w g s)) 145 5 (skA m k z)) 243 4 z.1.2.1) 148 = skA m k z 3 from f1 3 (by decide), show hp_i (hb (hb (hk H (lrn H w g s)) 145 5 (skA m k z)) 243 4 z.1.2.1) 149 = skA m k z 4 from f1 4 (by decide)]
    unfold skA
    by_cases q : e < m
    · rw [b1 1 e (by decide) q, b1 2 e (by decide) q, b1 3 e (by decide) q, b1 4 e (by decide) q, a2 41 e q, a2 42 e q, a2 43 e q, a2 44 e q, i10 41 (by decide) (by decide) e q, i10 42 (by decide) (by decide) e q, i10 43 (by decide) (by decide) e q, i10 44 (by decide) (by decide) e q]
      exact ⟨i3 e q, (e4 e q).2⟩
    · obtain ⟨i, hi, ei⟩ : ∃ i, i < k ∧ e = m + i := ⟨e - m, by omega, by omega⟩
      subst ei
      obtain ⟨c1, c2, c3, c4⟩ := b2 i hi
      obtain ⟨d1, d2, d3, d4⟩ := a3 i hi
      obtain ⟨h1, h2⟩ := ch i hi
      have hp8 : p ≤ 8 := rp2
      rw [c1, c2, c3, c4, d1, d2, d3, d4, i5, i6, i7, h1, nI_clamp (show tri t i < 2147483648 by omega), i8 _ h2, i9 46 (by decide) (by decide) (by decide) (by decide)]
      exact ⟨⟨rfl, rfl, rfl, rfl⟩, ho, (rp3 _ h2).2, hgo, hpo⟩
  have hfire := fire_eq (F := hp_i (hb (hb (hk H (lrn H w g s)) 145 5 (skA m k z)) 243 4 z.1.2.1)) (X := z.1.2.2) (M := pnM m k o go po t y.1.1) (n := n) (s := s) (W := y.1.2.2) (T := T) (c0 := c) (rC_fr (fun x hx => f2 x (by omega)) (fun _ _ => rfl) ⟨rfl, rfl⟩ RC) (rW_fr ⟨f2 131 (by decide), f2 132 (by decide), f2 133 (by decide)⟩ ⟨rfl, rfl, rfl⟩ RW) BC RE (fun j hj => by
    rw [f3]
    exact help_59 RC BC RA hs RT hj) hc (by rw [hM 34 (by decide) (by decide) (by decide)]; exact h34) hT
  exact hfire.2.2.2.2
theorem pn_1 {H : hp_T} {M : mM} {w g m n p L s k c T : Nat} {o go po : Int32} {z : skT} {y : (mM × mN × tW) × Int32} {t : tr3} (P : Pc H M w g m n p L) (hs : s ≤ n) (hk3 : k ≤ 3) (hmk : m + k ≤ 12) (ho : ∃ a, a ≤ 8 ∧ o = nI a) (hgo : ∃ a, 1 ≤ a ∧ a ≤ 9 ∧ go = nI a) (hpo : ∃ a, 1 ≤ a ∧ a ≤ 9 ∧ po = nI a) (hc : c < w * g) (h34 : ¬ M 34 c = 0) (hT : T ≤ 120) (I : pnI M m k p o go po z y) (ch : ∀ i, i < k → z.1.2.1 3 i = nI (tri t i) ∧ tri t i < p) (B : z.2.1 = -1 ∨ pnB k z y) (h1 : ¬ z.2.2 = 0) (j : Nat) : pnI M m k p o go po (skB (hk H (lrn H w g s)) w g m p k c T z j) (pnS n s w g m k c T o go po y t) ∧ pnB k (skB (hk H (lrn H w g s)) w g m p k c T z j) (pnS n s w g m k c T o go po y t) := by
  have hf := pn_fire P hs hmk ho hgo hpo hc h34 hT I ch
  obtain ⟨i1, ⟨i2, i3⟩, ⟨i4, i5, i6, i7, i8⟩, i9, i10, i11, i12⟩ := I
  have hp8 : p ≤ 8 := P.2.1.2.1.2.2.1
  have es : skB (hk H (lrn H w g s)) w g m p k c T z j = ((up2 (skA m k z) 0 0 (nI m), upr (skQ (hk H (lrn H w g s)) w g m k c T z) 3 (cnS p k (skQ (hk H (lrn H w g s)) w g m k c T z 3) k).2, skX (hk H (lrn H w g s)) w g m k c T z), skL (hk H (lrn H w g s)) w g m k c T z, zb ((cnS p k (skQ (hk H (lrn H w g s)) w g m k c T z 3) k).1 = true)) := if_neg h1
  rw [es]
  have hC : skC (hk H (lrn H w g s)) w g m k c T z ↔ (y.2 = -1 ∨ pnL n s w g m k c T o go po t y.1.1 y.1.2.2 < y.2) := by
    show (z.2.1 = -1 ∨ skX (hk H (lrn H w g s)) w g m k c T z 0 2 < z.2.1) ↔ _
    rw [hf, i1]
  obtain ⟨a1, a2, -⟩ := pnM_at (m := m) (o := o) (go := go) (po := po) (t := t) (M := y.1.1) k
  obtain ⟨b1, -⟩ := ad_at (m := m) (Q := z.1.2.1) (A := z.1.1) k
  have hG : ∀ r, r ≠ 0 → r < 53 ∨ 62 < r → pnG n s w g m k c T o go po t y.1.1 y.1.2.2 r = pnM m k o go po t y.1.1 r := fun r h0 hr => go_row hr h0
  have hG0 : ∀ j, j < 70 ∨ 74 < j → pnG n s w g m k c T o go po t y.1.1 y.1.2.2 0 j = y.1.1 0 j := fun j hj => (go_0 hj).trans (congrFun (a1 0 (by decide)) j)
  have hQ0 : ∀ i, i ≠ 1 → skQ (hk H (lrn H w g s)) w g m k c T z 0 i = z.1.2.1 0 i := fun i hi => skQ_0 _ _ _ _ _ _ _ _ hi
  have hQ1 : skQ (hk H (lrn H w g s)) w g m k c T z 1 = z.1.2.1 1 := skQ_row _ _ _ _ _ _ _ _ (by decide) (by decide)
  have hA : up2 (skA m k z) 0 0 (nI m) 0 0 = nI m ∧ ∀ e, e < m → up2 (skA m k z) 0 0 (nI m) 1 e = M 41 e ∧ up2 (skA m k z) 0 0 (nI m) 2 e = M 42 e ∧ up2 (skA m k z) 0 0 (nI m) 3 e = M 43 e ∧ up2 (skA m k z) 0 0 (nI m) 4 e = M 44 e := by
    refine ⟨up2_s _ _ _ _, fun e he => ?_⟩
    rw [up2_a _ _ (show 1 ≠ 0 by decide), up2_a _ _ (show 2 ≠ 0 by decide), up2_a _ _ (show 3 ≠ 0 by decide), up2_a _ _ (show 4 ≠ 0 by decide)]
    unfold skA
    rw [b1 1 e (by decide) he, b1 2 e (by decide) he, b1 3 e (by decide) he, b1 4 e (by decide) he]
    exact i3 e he
  have hM1 : ∀ Z : mM, (∀ r, r ≠ 85 → Z r = pnG n s w g m k c T o go po t y.1.1 y.1.2.2 r) → (∀ r, r ≠ 0 → r < 53 ∨ 66 < r → r < 41 ∨ 44 < r → r ≠ 85 → Z r = M r) ∧ (∀ r, 41 ≤ r → r ≤ 44 → ∀ e, e < m → Z r e = M r e) ∧ (∀ j, j < 70 ∨ 74 < j → j ≠ 54 → Z 0 j = M 0 j) ∧ Z 0 54 = nI (m + k) := fun Z hZ => by
    refine ⟨fun r h0 h2 h3 h4 => ?_, fun r h2 h3 e he => ?_, fun j h2 h3 => ?_, ?_⟩
    · rw [hZ r h4, hG r h0 (by omega), a1 r h3]
      exact i9 r h0 h2 h3 h4
    · rw [hZ r (by omega), hG r (by omega) (by omega), a2 r e he]
      exact i10 r h2 h3 e he
    · rw [hZ 0 (by decide), hG0 j h2]
      exact i11 j h2 h3
    · rw [hZ 0 (by decide), hG0 54 (by decide)]
      exact i12
  by_cases q : y.2 = -1 ∨ pnL n s w g m k c T o go po t y.1.1 y.1.2.2 < y.2
  · have e2 : pnS n s w g m k c T o go po y t = ((u85 (pnG n s w g m k c T o go po t y.1.1 y.1.2.2) t, y.1.2.1, (goZ n s w g (pnM m k o go po t y.1.1, y.1.2.2)).2), pnL n s w g m k c T o go po t y.1.1 y.1.2.2) := if_pos q
    have eQ : skQ (hk H (lrn H w g s)) w g m k c T z = keS k z.1.2.1 := if_pos (hC.mpr q)
    have eL : skL (hk H (lrn H w g s)) w g m k c T z = skX (hk H (lrn H w g s)) w g m k c T z 0 2 := if_pos (hC.mpr q)
    rw [e2, eL, hf]
    refine ⟨⟨rfl, hA, ⟨(hQ0 0 (by decide)).trans i4, (hQ0 7 (by decide)).trans i5, (hQ0 8 (by decide)).trans i6, (hQ0 9 (by decide)).trans i7, fun i hi => (congrFun hQ1 i).trans (i8 i hi)⟩, hM1 _ (fun r hr => u85_row hr)⟩, ?_, fun i hi => ?_⟩
    · show skQ (hk H (lrn H w g s)) w g m k c T z 0 1 = _
      rw [eQ]
      unfold keS
      rw [ke_row _ (show 0 ≠ 2 by decide), up2_s]
    · show skQ (hk H (lrn H w g s)) w g m k c T z 2 i = u85 (pnG n s w g m k c T o go po t y.1.1 y.1.2.2) t 85 i
      obtain ⟨c1, c2⟩ := ch i hi
      rw [eQ, u85_at (show i < 3 by omega), hG 46 (by decide) (by decide), a1 46 (by decide), i9 46 (by decide) (by decide) (by decide) (by decide)]
      unfold keS
      rw [ke_at k i hi, up2_row (show 1 ≠ 0 by decide), up2_row (show 3 ≠ 0 by decide), c1, nI_clamp (show tri t i < 2147483648 by omega)]
      exact i8 _ c2
  · have e2 : pnS n s w g m k c T o go po y t = ((pnG n s w g m k c T o go po t y.1.1 y.1.2.2, y.1.2.1, (goZ n s w g (pnM m k o go po t y.1.1, y.1.2.2)).2), y.2) := if_neg q
    have eQ : skQ (hk H (lrn H w g s)) w g m k c T z = z.1.2.1 := if_neg (fun h => q (hC.mp h))
    have eL : skL (hk H (lrn H w g s)) w g m k c T z = z.2.1 := if_neg (fun h => q (hC.mp h))
    have hB : pnB k z y := by
      rcases B with B | B
      · exact absurd (Or.inl (i1.symm.trans B)) q
      · exact B
    rw [e2, eL]
    refine ⟨⟨i1, hA, ⟨(hQ0 0 (by decide)).trans i4, (hQ0 7 (by decide)).trans i5, (hQ0 8 (by decide)).trans i6, (hQ0 9 (by decide)).trans i7, fun i hi => (congrFun hQ1 i).trans (i8 i hi)⟩, hM1 _ (fun r hr => rfl)⟩, ?_, fun i hi => ?_⟩
    · show skQ (hk H (lrn H w g s)) w g m k c T z 0 1 = _
      rw [eQ]
      exact hB.1
    · show skQ (hk H (lrn H w g s)) w g m k c T z 2 i = pnG n s w g m k c T o go po t y.1.1 y.1.2.2 85 i
      rw [eQ, hG 85 (by decide) (by decide), a1 85 (by decide)]
      exact hB.2 i hi
