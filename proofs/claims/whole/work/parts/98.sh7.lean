/-! ===== the calls: a fire and its claims; run ===== -/
theorem rc_F {h : hp_T} {b : Nat} {Y : mM} {R : Nat → Int64} {S : kS} (hb : 174 ≤ b) : (∀ x, x < 165 → hp_i (hk (hcl h b Y R) S) x = hp_i h x) ∧ hp_i (hk (hcl h b Y R) S) 170 = S.1 5 := by
  refine ⟨fun x hx => (hb_out (hcl h b Y R) S.1 (b := 165) (n := 9) (by omega)).trans (hb_out h Y (b := b) (n := 6) (by omega)), hb_in (hcl h b Y R) (b := 165) (n := 9) (o := 5) S.1 (by decide)⟩
/-- rows behind a fire and its claims -/
theorem cf_row {n s w g m c T : Nat} {M : mM} {N : mN} {W : tW} : (∀ r, r ≠ 0 → r < 53 ∨ 66 < r → (clF n s w g (goF n s w g m c T (M, W), (goZ n s w g (M, W)).2) N).1 r = M r) ∧ ∀ k, k < 70 ∨ 74 < k → (clF n s w g (goF n s w g m c T (M, W), (goZ n s w g (M, W)).2) N).1 0 k = M 0 k := by
  refine ⟨fun r h0 hr => ?_, fun k hk => ?_⟩
  · exact (clF_row h0 (by omega) (by omega) (by omega) (by omega)).trans (go_row (by omega) h0)
  · exact (clF_0 hk).trans (go_0 hk)
theorem rc9 {h : hp_T} {M : mM} {N : mN} {W : tW} {X0 Y0 : mM} {R0 : Nat → Int64} {S : kS} {w g n s m c0 T f b : Nat} (R : rC (hp_i h) M w g) (Wd : rW (hp_i h) M) (Bd : bC M) (E9 : rE (hp_i h) M w g m) (A : rA (hp_i h) M w g n) (hs : s ≤ n) (B : rT h M n) (J : kJ S (kn h s)) (h5 : ∀ c, c < w * g → S.1 5 c = (lrn h w g s).1 5 c) (hc : c0 < w * g) (h34 : ¬ M 34 c0 = 0) (hT : T ≤ 120) (hf : 174 ≤ f ∧ f < 300) (hb9 : 174 ≤ b) {X : mM} (eX : X = brnX (hp_i (hk (hcl h b Y0 R0) S)) w g m c0 T X0) {Z : cS} (eZ : Z = saS (hb h f 12 X) w g (pn h s) (hp_i (hb h f 12 X) (f + 2)) ((Y0, R0), S)) {Mf Mc : mM} (eMf : Mf = goF n s w g m c0 T (M, W)) (eMc : Mc = (clF n s w g (Mf, (goZ n s w g (M, W)).2) N).1) : (fX X Mf (w * g) m ∧ (∀ c, c < w * g → X 2 c = mloV Mf c) ∧ X 0 0 = 1 ∧ X 0 1 = nI m ∧ X 0 2 = itN (fun f c => f + mloV Mf c) 0 (w * g)) ∧ (∀ a, a < 201 → Z.1.1 1 a = Mc 66 a ∧ Z.1.1 2 a = Mc 63 a ∧ Z.1.1 3 a = Mc 64 a) ∧ (∀ o, o < 9 → Z.1.1 4 o = mseS Mc (nI o) n) ∧ kJ Z.2 (kn h s) ∧ bd64 Mc 124000 := by
  have hcy := cty_n R.1
  obtain ⟨rf1, rf2⟩ := rc_F (h := h) (Y := Y0) (R := R0) (S := S) hb9
  have hfire := fire_eq (F := hp_i (hk (hcl h b Y0 R0) S)) (X := X0) (n := n) (s := s) (W := W) (T := T) (rC_fr (fun x hx => rf1 x (by omega)) (fun _ _ => rfl) ⟨rfl, rfl⟩ R) (rW_fr ⟨rf1 131 (by decide), rf1 132 (by decide), rf1 133 (by decide)⟩ ⟨rfl, rfl, rfl⟩ Wd) Bd (rE_fr ⟨by rw [rf1 145 (by decide)], rfl⟩ (fun x hx => rf1 x (by omega)) (fun _ _ => rfl) E9) (fun c hc => by
    rw [rf2, h5 c hc]
    exact help_59 R Bd A hs B hc) hc h34 hT
  rw [← eX, ← eMf] at hfire
  refine ⟨hfire, ?_⟩
  have hr : ∀ r, r ≠ 0 → r < 53 ∨ 62 < r → Mf r = M r := fun r h0 hr => by
    rw [eMf]
    exact go_row (by omega) h0
  have hr0 : ∀ k, k < 70 → Mf 0 k = M 0 k := fun k hk => by
    rw [eMf]
    exact go_0 (Or.inl hk)
  have hcl := clm_eq (h := h) (h1 := hb h f 12 X) (M := Mf) (N := N) (W := (goZ n s w g (M, W)).2) (X0 := Y0) (R0 := R0) (S0 := S) (s := s) (L9 := hp_i (hb h f 12 X) (f + 2)) (rC_fr (fun _ _ => rfl) (fun x hx => hr x (by omega) (by omega)) ⟨hr0 42 (by decide), hr0 43 (by decide)⟩ R) (bC_fr (fun x hx => hr x (by omega) (by omega)) Bd) (rA_fr (fun _ _ => rfl) ⟨hr0 62 (by decide), hr0 68 (by decide)⟩ (fun x hx => hr x (by omega) (by omega)) A) hs (rT_fr (fun r hr9 => hr r (by omega) (by omega)) B) (fun x hx => hb_out h X (by omega)) (sam_hb h X (by omega)) (fun c hc => by
    rw [hb_in h (b := f) (n := 12) (o := 2) X (by decide)]
    exact hfire.2.1 c hc) (fun c hc => by
    rw [eMf]
    obtain ⟨k, hk, ek⟩ := go_56 (n := n) (s := s) (w := w) (g := g) (m := m) (c0 := c0) (T := T) (z := (M, W)) hc
    exact ⟨k, by omega, ek⟩) J
  rw [← eZ, ← eMc] at hcl
  exact hcl
theorem mse_b {Z : mM} {o : Int32} {K : Nat} (h : bd64 Z K) : ∀ n, n ≤ 200 → ∃ v, v ≤ K * n ∧ mseS Z o n = nI v
  | 0, _ => ⟨0, Nat.zero_le _, rfl⟩
  | n + 1, hn => by
    obtain ⟨v, hv, e⟩ := mse_b h (o := o) n (by omega)
    have e1 : mseS Z o (n + 1) = mseB Z o (mseS Z o n) n := itN_s _ _ _
    rw [e1, e]
    unfold mseB
    obtain ⟨x, hx, ex⟩ := h (n + 1) (by omega)
    rw [Nat.mul_succ]
    split
    · rw [ex, nI_add]
      exact ⟨v + x, by omega, rfl⟩
    · exact ⟨v, by omega, rfl⟩
theorem Pc_L {H H1 : hp_T} {M M1 : mM} {w g m n p L : Nat} (r9 : rL (hp_i H1) M1 w g) (e : ∀ x, x < 165 ∨ 213 ≤ x → hp_i H1 x = hp_i H x) (e2 : ∀ r, r ≠ 0 → r < 53 ∨ 81 < r → M1 r = M r) (e20 : ∀ k, rowK k → k < 90 ∨ k = 112 → M1 0 k = M 0 k) (eR : ∀ x, x ≠ 166 → hp_r H1 x = hp_r H x) (eS : hp_tag H1 = hp_tag H ∧ hp_len H1 = hp_len H) (R : Pc H M w g m n p L) (hn : hp_n H ≤ hp_n H1 := by exact Nat.le_refl _) : Pc H1 M1 w g m n p L := by
  obtain ⟨⟨r1, r2, r3⟩, ⟨r4, r5⟩, ⟨r6, r7⟩, r8, -⟩ := R
  exact ⟨⟨rC_fr (fun x hx => e x (by omega)) (fun x hx => e2 x (by omega) (by omega)) ⟨e20 42 (by decide) (by decide), e20 43 (by decide) (by decide)⟩ r1, bC_fr (fun x hx => e2 x (by omega) (by omega)) r2, rW_fr ⟨e 131 (by decide), e 132 (by decide), e 133 (by decide)⟩ ⟨e2 37 (by decide) (by decide), e2 38 (by decide) (by decide), e2 39 (by decide) (by decide)⟩ r3⟩, ⟨rE_fr ⟨by rw [e 145 (by decide)], e20 54 (by decide) (by decide)⟩ (fun x hx => e x (by omega)) (fun x hx => e2 x (by omega) (by omega)) r4, rP_fr ⟨by rw [e 243 (by decide)], by rw [e 243 (by decide)], e20 60 (by decide) (by decide), e20 112 (by decide) (by decide)⟩ ⟨e 244 (by decide), e 245 (by decide)⟩ ⟨e2 46 (by decide) (by decide), e2 85 (by decide) (by decide)⟩ r5⟩, ⟨rA_fr (fun x hx => e x (by omega)) ⟨e20 62 (by decide) (by decide), e20 68 (by decide) (by decide)⟩ (fun x hx => e2 x (by omega) (by omega)) r6, rT_fr (fun r hr => e2 r (by omega) (by omega)) (rT_hfr (fun _ _ => by rw [eR 162 (by decide)]) (fun a ha => ⟨e a (by omega), eR a (by omega), by rw [eS.1], by rw [eS.2]⟩) r7 hn)⟩, rRV_fr ⟨e 150 (by decide), e 154 (by decide)⟩ (fun k hk => e20 k (by omega) (by omega)) (fun r h1 h2 => e2 r (by omega) (by omega)) r8, r9⟩
/-- rows of a heap with a fire, its claims, what is known -/
theorem hq_row {h : hp_T} {f b : Nat} {X Y : mM} {R : Nat → Int64} {S : kS} {x : Nat} (h1 : ¬ (165 ≤ x ∧ x < 174)) (h2 : ¬ (f ≤ x ∧ x < f + 12)) (h3 : ¬ (b ≤ x ∧ x < b + 6)) : hp_i (hq h f X b Y R S) x = hp_i h x := (hb_out (hcl (hb h f 12 X) b Y R) S.1 (b := 165) (n := 9) (by omega)).trans ((hb_out (hb h f 12 X) Y (b := b) (n := 6) h3).trans (hb_out h X (b := f) (n := 12) h2))
theorem hq_f {h : hp_T} {f b o : Nat} {X Y : mM} {R : Nat → Int64} {S : kS} (ho : o < 12) (hf : 174 ≤ f) (hb1 : f + 12 ≤ b) : hp_i (hq h f X b Y R S) (f + o) = X o := (hb_out (hcl (hb h f 12 X) b Y R) S.1 (b := 165) (n := 9) (by omega)).trans ((hb_out (hb h f 12 X) Y (b := b) (n := 6) (by omega)).trans (hb_in h (b := f) (n := 12) X ho))
theorem hq_b {h : hp_T} {f b o : Nat} {X Y : mM} {R : Nat → Int64} {S : kS} (ho : o < 6) (hb1 : 174 ≤ b) : hp_i (hq h f X b Y R S) (b + o) = Y o := (hb_out (hcl (hb h f 12 X) b Y R) S.1 (b := 165) (n := 9) (by omega)).trans (hb_in (hb h f 12 X) (b := b) (n := 6) Y ho)
theorem cal_run (E : gE) {H : hp_T} (R : rel9 H) (t u : Int32) : cal9 E mX11_run mX12_run [.int t, .int u] H := by
  obtain ⟨M, N, w, g, m, n, p, L, G, I, P⟩ := R
  have hC := P.1.1
  have hcy := cty_n hC.1
  have e12 : hp_i H 1 2 = nI (w * g) := hC.1.2.2.2.1
  obtain ⟨r6, r7⟩ := P.2.2.1
  have n3 := r6.1.2.2
  obtain ⟨s, hs, es, eh⟩ := rA_s (h := H) r6
  have E9 := P.2.1.1
  have k1 := e_X11_run E (d := 100) (by decide) t u H G (actK_rA hC r6 r7 hs eh) hC.1 (brnI_rA hC P.1.2.1 E9)
  have hRI := runI_rA hC P.1.2.1 E9 r6 r7 hs es
  by_cases q : isH H t ∧ isM u 120
  · rw [if_pos q, if_pos q] at k1
    obtain ⟨c, hc, ec⟩ := cell_n hcy.2 (show 0 ≤ t ∧ t < nI (w * g) by rw [← e12]; exact q.1.1)
    obtain ⟨T, hT, eT, hT1⟩ := isM_n (t := u) (k := 120) (by decide) q.2
    subst ec
    subst eT
    have h34 : ¬ M 34 c = 0 := by
      have := q.1.2
      rw [nI_clamp (by omega), hC.2.2.1] at this
      exact this
    rw [nI_clamp (show c < 2147483648 by omega), nI_clamp (show T < 2147483648 by omega)] at k1
    obtain ⟨W, hW⟩ := sP_any (runH H w g m s c T) M N
    have hrc := rc9 (N := N) (W := W) (f := 174) (b := 186) (X0 := rX0 H) (Y0 := rY0 H) (R0 := hp_l H 192) (S := lrn H w g s) (T := T) hC P.1.2.2 P.1.2.1 E9 r6 hs r7 ((lrn_J hC P.1.2.1 r6 hs r7 (w * g) (Nat.le_refl _)).1) (fun _ _ => rfl) hc h34 hT ⟨by decide, by decide⟩ (by decide) (X := runX H w g m s c T) rfl (Z := runZ H w g m s c T) rfl rfl rfl
    obtain ⟨c1, c2⟩ := cf_row (n := n) (s := s) (w := w) (g := g) (m := m) (c := c) (T := T) (M := M) (N := N) (W := W)
    have G1 : gr (runH H w g m s c T) := gr_k _ G
    have I1 : isM9 (runH H w g m s c T) M N := isM_fr (fun x h1 h2 => hq_row (by omega) (by omega) (by omega)) (fun x h1 h2 => if_neg (show ¬ x = 186 + 6 by omega)) I
    have k2 := e_X12_run E (d := 100) (by decide) (nI c) (nI T) (runH H w g m s c T) G1 M N hRI W
    have hmr : mrnC M w g (nI c) (nI T) := ⟨⟨⟨nI_pos' (by omega), nI_lt hc (by omega)⟩, by rw [nI_clamp (by omega)]; exact h34⟩, q.2⟩
    rw [if_pos hmr, if_pos hmr, ← hW, nI_clamp (show c < 2147483648 by omega), nI_clamp (show T < 2147483648 by omega)] at k2
    unfold rnC frF at k2
    have hMf53 : ∀ k, k < w * g → runX H w g m s c T 3 k = (clF n s w g (goF n s w g m c T (M, W), (goZ n s w g (M, W)).2) N).1 53 k := fun k hk => by
      rw [clF_row (by decide) (by decide) (by decide) (by decide) (by decide)]
      exact (hrc.1.1.1 k hk).2.1
    generalize hMc : (clF n s w g (goF n s w g m c T (M, W), (goZ n s w g (M, W)).2) N).1 = Mc at *
    obtain ⟨q1, ⟨q2, q3, q4, q5⟩, q6, q7, q8, q9, q10, q11⟩ := rn_at (w := w) (g := g) (m := m) (n := n) (M := Mc)
    have hans : nI (fa_cnt (mk (runX H w g m s c T 3)) (w * g)) = (rn1 w g Mc).2 := by
      rw [q11]
      refine congrArg nI ?_
      have go : ∀ k, k ≤ w * g → fa_cnt (mk (runX H w g m s c T 3)) k = fa_cnt (mk (Mc 53)) k := by
        intro k
        induction k with
        | zero => exact fun _ => rfl
        | succ k ih =>
          intro hk
          have e : mk (runX H w g m s c T 3) k = mk (Mc 53) k := by
            unfold mk
            rw [hMf53 k (by omega)]
          unfold fa_cnt
          rw [ih (by omega), e]
      exact go (w * g) (Nat.le_refl _)
    rw [hans] at k1
    have hMf : ∀ r, r ≠ 0 → r < 63 ∨ 66 < r → Mc r = goF n s w g m c T (M, W) r := fun r h0 hr => by
      rw [← hMc]
      exact clF_row h0 (by omega) (by omega) (by omega) (by omega)
    have hmlo : ∀ k, mloV Mc k = mloV (goF n s w g m c T (M, W)) k := fun k => by
      unfold mloV
      rw [hMf 34 (by decide) (by decide), hMf 33 (by decide) (by decide), hMf 56 (by decide) (by decide), hMf 31 (by decide) (by decide)]
    obtain ⟨⟨hX, hX2, hX00, hX01, hX02⟩, hZ, hZ4, hJ, hbd⟩ := hrc
    refine cal_1 k1 I1 k2 G1 (Pc_L (H := H) ⟨⟨?_, ⟨w * g, hcy.2, q3⟩, ⟨m, E9.2.2.1, ?_, ?_⟩, fun o ho => ?_⟩, fun _ => ⟨q3, ?_, fun k hk => ?_, fun e he he12 k hk => ?_, fun a ha => ?_, fun o ho => ?_⟩⟩ (fun x hx => hq_row (by omega) (by omega) (by omega)) (fun r h0 hr => (q1 r h0 (by omega)).trans (c1 r h0 (by omega))) (fun k hk hk2 => (q6 k (by omega) (by omega) (by omega) (by omega)).trans (c2 k (by omega))) (fun x hx => ?_) ⟨rfl, rfl⟩ P) (Nat.le_add_right _ _) (Nat.le_add_right _ _)
    · rw [q2]
      exact (congrFun (hq_f (f := 174) (b := 186) (o := 0) (by decide) (by decide) (by decide)) 0).trans hX00
    · exact (congrFun (hq_f (f := 174) (b := 186) (o := 0) (by decide) (by decide) (by decide)) 1).trans hX01
    · rw [q4, c2 54 (by decide)]
      exact E9.2.1
    · rw [q10 o ho]
      obtain ⟨v, hv, ev9⟩ := mse_b (o := nI o) hbd n n3
      have : 124000 * n ≤ 124000 * 200 := Nat.mul_le_mul_left _ n3
      exact ⟨v, by omega, ev9⟩
    · rw [q5]
      refine ((congrFun (hq_f (f := 174) (b := 186) (o := 0) (by decide) (by decide) (by decide)) 2).trans hX02).trans ?_
      exact itN_ext _ (fun j _ z => by rw [hmlo j])
    · obtain ⟨z1, z2, z3, z4, z5, z6, z7⟩ := q7 k hk
      obtain ⟨y1, y3, y4, y5, y6, y7, -⟩ := hX.1 k hk
      rw [z1, z2, z3, z4, z5, z6, z7, hMf 34 (by decide) (by decide), hMf 53 (by decide) (by decide), hMf 54 (by decide) (by decide), hMf 55 (by decide) (by decide), hMf 56 (by decide) (by decide), hMf 57 (by decide) (by decide), hmlo k]
      refine ⟨?_, ?_, ?_, ?_, ?_, ?_, ?_⟩
      · exact (congrFun (hq_f (f := 174) (b := 186) (o := 1) (by decide) (by decide) (by decide)) k).trans y1
      · exact (congrFun (hq_f (f := 174) (b := 186) (o := 3) (by decide) (by decide) (by decide)) k).trans y3
      · exact (congrFun (hq_f (f := 174) (b := 186) (o := 4) (by decide) (by decide) (by decide)) k).trans y4
      · exact (congrFun (hq_f (f := 174) (b := 186) (o := 5) (by decide) (by decide) (by decide)) k).trans y5
      · exact (congrFun (hq_f (f := 174) (b := 186) (o := 6) (by decide) (by decide) (by decide)) k).trans y6
      · exact (congrFun (hq_f (f := 174) (b := 186) (o := 2) (by decide) (by decide) (by decide)) k).trans (hX2 k hk)
      · exact (congrFun (hq_f (f := 174) (b := 186) (o := 7) (by decide) (by decide) (by decide)) k).trans y7
    · rw [q4, c2 54 (by decide), E9.2.1] at he
      have em : m = e := nI_inj (by have := E9.2.2.1; omega) (by omega) he
      subst em
      obtain ⟨z1, z2, z3⟩ := q8 k hk
      obtain ⟨y1, y2, y3⟩ := hX.2 k hk
      rw [z1, z2, z3, hMf 60 (by decide) (by decide), hMf 61 (by decide) (by decide), hMf 62 (by decide) (by decide)]
      refine ⟨?_, ?_, ?_⟩
      · exact (congrFun (hq_f (f := 174) (b := 186) (o := 9) (by decide) (by decide) (by decide)) k).trans y1
      · exact (congrFun (hq_f (f := 174) (b := 186) (o := 10) (by decide) (by decide) (by decide)) k).trans y2
      · exact (congrFun (hq_f (f := 174) (b := 186) (o := 11) (by decide) (by decide) (by decide)) k).trans y3
    · obtain ⟨z1, z2, z3⟩ := q9 a ha
      obtain ⟨y1, y2, y3⟩ := hZ a ha
      rw [z1, z2, z3]
      refine ⟨?_, ?_, ?_⟩
      · exact (congrFun (hq_b (f := 174) (b := 186) (o := 1) (by decide) (by decide)) a).trans y1
      · exact (congrFun (hq_b (f := 174) (b := 186) (o := 2) (by decide) (by decide)) a).trans y2
      · exact (congrFun (hq_b (f := 174) (b := 186) (o := 3) (by decide) (by decide)) a).trans y3
    · rw [q10 o ho]
      exact (congrFun (hq_b (f := 174) (b := 186) (o := 4) (by decide) (by decide)) o).trans (hZ4 o ho)
    · exact if_neg (show ¬ x = 166 from hx)
  · rw [if_neg q, if_neg q] at k1
    obtain ⟨W, hW⟩ := sP_any H M N
    have k2 := e_X12_run E (d := 100) (by decide) t u H G M N hRI W
    have hmr : ¬ mrnC M w g t u := fun z => q ⟨⟨by rw [e12]; exact z.1.1, by rw [hC.2.2.1]; exact z.1.2⟩, z.2⟩
    rw [if_neg hmr, if_neg hmr, ← hW, isM_hm I] at k2
    exact cal_0 ⟨M, N, w, g, m, n, p, L, G, I, P⟩ k1 k2
