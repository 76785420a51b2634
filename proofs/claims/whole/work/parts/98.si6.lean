/-! ===== the calls: plan ===== -/
theorem skB_ch {h : hp_T} {w g m p k c T j : Nat} {z : skT} (h1 : ¬ z.2.2 = 0) : (skB h w g m p k c T z j).2.2 = zb ((cnS p k (z.1.2.1 3) k).1 = true) ∧ (skB h w g m p k c T z j).1.2.1 3 = (cnS p k (z.1.2.1 3) k).2 := by
  have e3 : skQ h w g m k c T z 3 = z.1.2.1 3 := skQ_row _ _ _ _ _ _ _ _ (by decide) (by decide)
  have es : skB h w g m p k c T z j = ((up2 (skA m k z) 0 0 (nI m), upr (skQ h w g m k c T z) 3 (cnS p k (skQ h w g m k c T z 3) k).2, skX h w g m k c T z), skL h w g m k c T z, zb ((cnS p k (skQ h w g m k c T z 3) k).1 = true)) := if_neg h1
  rw [es, e3]
  refine ⟨rfl, ?_⟩
  show upr (skQ h w g m k c T z) 3 (cnS p k (z.1.2.1 3) k).2 3 = _
  exact if_pos rfl
theorem pn_run {H : hp_T} {M : mM} {w g m n p L s k c T : Nat} {o go po : Int32} (P : Pc H M w g m n p L) (hs : s ≤ n) (hk1 : 1 ≤ k) (hk3 : k ≤ 3) (hkp : k ≤ p) (hmk : m + k ≤ 12) (ho : ∃ a, a ≤ 8 ∧ o = nI a) (hgo : ∃ a, 1 ≤ a ∧ a ≤ 9 ∧ go = nI a) (hpo : ∃ a, 1 ≤ a ∧ a ≤ 9 ∧ po = nI a) (hc : c < w * g) (h34 : ¬ M 34 c = 0) (hT : T ≤ 120) : ∀ (f : Nat) (z : skT) (y : (mM × mN × tW) × Int32) (t : tr3), pnI M m k p o go po z y → (z.2.1 = -1 ∨ pnB k z y) → ¬ z.2.2 = 0 → chT p k (z.1.2.1 3) t → pnI M m k p o go po (itN (skB (hk H (lrn H w g s)) w g m p k c T) z (f + 1)) (fo9 (pnS n s w g m k c T o go po) (run3 p k (f + 1) t) y) ∧ pnB k (itN (skB (hk H (lrn H w g s)) w g m p k c T) z (f + 1)) (fo9 (pnS n s w g m k c T o go po) (run3 p k (f + 1) t) y) := by
  have hp8 : p ≤ 8 := P.2.1.2.1.2.2.1
  intro f
  induction f with
  | zero =>
    intro z y t I B h1 ch
    have e := pn_1 P hs hk3 hmk ho hgo hpo hc h34 hT I (fun i hi => ⟨(ch i hi).1, by have := (ch i hi).2; omega⟩) B h1 0
    have er : run3 p k (0 + 1) t = t :: onx (nx3 p k t) (run3 p k 0) := rfl
    rw [er]
    have eo : onx (nx3 p k t) (run3 p k 0) = [] := by
      cases nx3 p k t <;> rfl
    rw [eo]
    exact e
  | succ f ih =>
    intro z y t I B h1 ch
    obtain ⟨e1, e2⟩ := pn_1 P hs hk3 hmk ho hgo hpo hc h34 hT I (fun i hi => ⟨(ch i hi).1, by have := (ch i hi).2; omega⟩) B h1 0
    obtain ⟨c1, c2⟩ := skB_ch (h := hk H (lrn H w g s)) (w := w) (g := g) (m := m) (p := p) (k := k) (c := c) (T := T) (j := 0) h1
    obtain ⟨n1, n2⟩ := cn_nx hk1 hk3 hkp hp8 ch
    have er : run3 p k (f + 1 + 1) t = t :: onx (nx3 p k t) (run3 p k (f + 1)) := rfl
    have ei : itN (skB (hk H (lrn H w g s)) w g m p k c T) z (f + 1 + 1) = itN (skB (hk H (lrn H w g s)) w g m p k c T) (skB (hk H (lrn H w g s)) w g m p k c T z 0) (f + 1) := itN_b (fun z => skB (hk H (lrn H w g s)) w g m p k c T z 0) z (f + 1)
    rw [er, ei]
    have ef : fo9 (pnS n s w g m k c T o go po) (t :: onx (nx3 p k t) (run3 p k (f + 1))) y = fo9 (pnS n s w g m k c T o go po) (onx (nx3 p k t) (run3 p k (f + 1))) (pnS n s w g m k c T o go po y t) := rfl
    rw [ef]
    generalize skB (hk H (lrn H w g s)) w g m p k c T z 0 = z1 at e1 e2 c1 c2 ⊢
    generalize pnS n s w g m k c T o go po y t = y1 at e1 e2 ⊢
    cases hn : nx3 p k t with
    | none =>
      have h0 : z1.2.2 = 0 := c1.trans (zb_f (n1 hn))
      have e0 := sk_stop (h := hk H (lrn H w g s)) (w := w) (g := g) (m := m) (p := p) (k := k) (c := c) (T := T) (z := z1) (j := 0) h0 (f + 1)
      rw [Nat.zero_add] at e0
      rw [e0]
      exact ⟨e1, e2⟩
    | some u =>
      obtain ⟨u1, u2⟩ := n2 u hn
      exact ih z1 y1 u e1 (Or.inr e2) (by rw [c1, zb_t u1]; decide) (by rw [c2]; exact u2)
theorem hpl_row {h : hp_T} {A Q X : mM} {x : Nat} (hx : (x < 145 ∨ 150 ≤ x) ∧ (x < 243 ∨ 247 ≤ x) ∧ (x < 193 ∨ 205 ≤ x)) : hp_i (hpl h A Q X) x = hp_i h x := (hb_out _ X (b := 193) (n := 12) (by omega)).trans ((hb_out _ Q (b := 243) (n := 4) (by omega)).trans (hb_out h A (b := 145) (n := 5) (by omega)))
theorem hpl_A {h : hp_T} {A Q X : mM} {o : Nat} (ho : o < 5) : hp_i (hpl h A Q X) (145 + o) = A o := (hb_out _ X (b := 193) (n := 12) (by omega)).trans ((hb_out _ Q (b := 243) (n := 4) (by omega)).trans (hb_in h (b := 145) (n := 5) A ho))
theorem hpl_Q {h : hp_T} {A Q X : mM} {o : Nat} (ho : o < 4) : hp_i (hpl h A Q X) (243 + o) = Q o := (hb_out _ X (b := 193) (n := 12) (by omega)).trans (hb_in (hb h 145 5 A) (b := 243) (n := 4) Q ho)
theorem gr_hpl {h : hp_T} {A Q X : mM} (G : gr h) : gr (hpl h A Q X) := G
theorem hpk_row {H : hp_T} {S : kS} {A Q X : mM} {x : Nat} (hx : (x < 145 ∨ 150 ≤ x) ∧ (x < 243 ∨ 247 ≤ x) ∧ (x < 193 ∨ 205 ≤ x) ∧ (x < 165 ∨ 174 ≤ x)) : hp_i (hpl (hk H S) A Q X) x = hp_i H x := (hpl_row ⟨hx.1, hx.2.1, hx.2.2.1⟩).trans (hb_out H S.1 (b := 165) (n := 9) (by omega))
/-- behind the whole search -/
theorem Pc_pln {H : hp_T} {M Z : mM} {w g m n p L k : Nat} {S : kS} {A Q X : mM} (P : Pc H M w g m n p L) (hk3 : k ≤ 3) (i2 : A 0 0 = nI m) (i3 : ∀ e, e < m → A 1 e = M 41 e ∧ A 2 e = M 42 e ∧ A 3 e = M 43 e ∧ A 4 e = M 44 e) (i4 : Q 0 0 = nI p) (i8 : ∀ i, i < p → Q 1 i = M 46 i) (i9 : ∀ r, r ≠ 0 → r < 53 ∨ 66 < r → r < 41 ∨ 44 < r → r ≠ 85 → Z r = M r) (i10 : ∀ r, 41 ≤ r → r ≤ 44 → ∀ e, e < m → Z r e = M r e) (i11 : ∀ j, j < 70 ∨ 74 < j → j ≠ 54 → j ≠ 112 → Z 0 j = M 0 j) (i12 : Z 0 54 = nI m) (i13 : Z 0 112 = nI k) (b1 : Q 0 1 = nI k) (b2 : ∀ i, i < k → Q 2 i = Z 85 i) : Pc (hpl (hk H S) A Q X) Z w g m n p L := by
  obtain ⟨⟨r1, r2, r3⟩, ⟨⟨e1, e2, e3, e4⟩, ⟨p1, p2, p3, p4⟩, -⟩, ⟨r6, r7⟩, r8, r9⟩ := P
  have hF : ∀ x, (x < 145 ∨ 150 ≤ x) ∧ (x < 243 ∨ 247 ≤ x) ∧ (x < 193 ∨ 205 ≤ x) ∧ (x < 165 ∨ 174 ≤ x) → hp_i (hpl (hk H S) A Q X) x = hp_i H x := fun x hx => hpk_row hx
  refine ⟨⟨rC_fr (fun x hx => hF x (by omega)) (fun x hx => i9 x (by omega) (by omega) (by omega) (by omega)) ⟨i11 42 (by decide) (by decide) (by decide), i11 43 (by decide) (by decide) (by decide)⟩ r1, bC_fr (fun x hx => i9 x (by omega) (by omega) (by omega) (by omega)) r2, rW_fr ⟨hF 131 (by decide), hF 132 (by decide), hF 133 (by decide)⟩ ⟨i9 37 (by decide) (by decide) (by decide) (by decide), i9 38 (by decide) (by decide) (by decide) (by decide), i9 39 (by decide) (by decide) (by decide) (by decide)⟩ r3⟩, ⟨⟨?_, i12, e3, fun e he => ?_⟩, ⟨?_, ?_, p3, fun i hi => ?_⟩, k, hk3, ?_, i13, fun i hi => ?_⟩, ⟨rA_fr (fun x hx => hF x (by omega)) ⟨i11 62 (by decide) (by decide) (by decide), i11 68 (by decide) (by decide) (by decide)⟩ (fun x hx => i9 x (by omega) (by omega) (by omega) (by omega)) r6, rT_fr (M := M) (fun r hr => i9 r (by omega) (by omega) (by omega) (by omega)) (rT_hfr (h := H) (fun _ _ => rfl) (fun a ha => ⟨hF a (by omega), hk_hr H S ha, rfl, rfl⟩) r7)⟩, rRV_fr ⟨hF 150 (by decide), hF 154 (by decide)⟩ (fun j hj => i11 j (by omega) (by omega) (by omega)) (fun r h1 h2 => i9 r (by omega) (by omega) (by omega) (by omega)) r8, rL_fr (fun x hx => hF x (by omega)) (fun j hj => i11 j (by omega) (by omega) (by omega)) (fun r hr => i9 r (by omega) (by omega) (by omega) (by omega)) r9⟩
  · exact (congrFun (hpl_A (o := 0) (by decide)) 0).trans i2
  · rw [show hp_i (hpl (hk H S) A Q X) 146 = A 1 from hpl_A (o := 1) (by decide), show hp_i (hpl (hk H S) A Q X) 147 = A 2 from hpl_A (o := 2) (by decide), show hp_i (hpl (hk H S) A Q X) 148 = A 3 from hpl_A (o := 3) (by decide), show hp_i (hpl (hk H S) A Q X) 149 = A 4 from hpl_A (o := 4) (by decide), i10 41 (by decide) (by decide) e he, i10 42 (by decide) (by decide) e he, i10 43 (by decide) (by decide) e he, i10 44 (by decide) (by decide) e he]
    exact ⟨i3 e he, (e4 e he).2⟩
  · exact (congrFun (hpl_Q (o := 0) (by decide)) 0).trans i4
  · rw [i11 60 (by decide) (by decide) (by decide)]
    exact p2
  · rw [show hp_i (hpl (hk H S) A Q X) 244 = Q 1 from hpl_Q (o := 1) (by decide), i9 46 (by decide) (by decide) (by decide) (by decide)]
    exact ⟨i8 i hi, (p4 i hi).2⟩
  · exact (congrFun (hpl_Q (o := 0) (by decide)) 1).trans b1
  · rw [show hp_i (hpl (hk H S) A Q X) 245 = Q 2 from hpl_Q (o := 2) (by decide)]
    exact b2 i hi
