/-! ===== the calls: tape, engines, places, acts ===== -/
theorem Pc_R {H H1 : hp_T} {M M1 : mM} {w g m n p L L1 : Nat} (r8 : rR (hp_i H1) M1 L1) (e : ∀ x, ¬ (150 ≤ x ∧ x < 158) → hp_i H1 x = hp_i H x) (e2 : ∀ r, r ≠ 0 → r ≠ 1 → M1 r = M r) (e20 : ∀ k, rowK k → k ≠ 1 → M1 0 k = M 0 k) (eR : hp_r H1 = hp_r H) (eS : hp_tag H1 = hp_tag H ∧ hp_len H1 = hp_len H) (R : Pc H M w g m n p L) (hn : hp_n H ≤ hp_n H1 := by exact Nat.le_refl _) : Pc H1 M1 w g m n p L1 := by
  obtain ⟨⟨r1, r2, r3⟩, ⟨r4, r5⟩, ⟨r6, r7⟩, r8w, r9⟩ := R
  exact ⟨⟨rC_fr (fun x hx => e x (by omega)) (fun x hx => e2 x (by omega) (by omega)) ⟨e20 42 (by decide) (by decide), e20 43 (by decide) (by decide)⟩ r1, bC_fr (fun x hx => e2 x (by omega) (by omega)) r2, rW_fr ⟨e 131 (by decide), e 132 (by decide), e 133 (by decide)⟩ ⟨e2 37 (by decide) (by decide), e2 38 (by decide) (by decide), e2 39 (by decide) (by decide)⟩ r3⟩, ⟨rE_fr ⟨by rw [e 145 (by decide)], e20 54 (by decide) (by decide)⟩ (fun x hx => e x (by omega)) (fun x hx => e2 x (by omega) (by omega)) r4, rP_fr ⟨by rw [e 243 (by decide)], by rw [e 243 (by decide)], e20 60 (by decide) (by decide), e20 112 (by decide) (by decide)⟩ ⟨e 244 (by decide), e 245 (by decide)⟩ ⟨e2 46 (by decide) (by decide), e2 85 (by decide) (by decide)⟩ r5⟩, ⟨rA_fr (fun x hx => e x (by omega)) ⟨e20 62 (by decide) (by decide), e20 68 (by decide) (by decide)⟩ (fun x hx => e2 x (by omega) (by omega)) r6, rT_fr (fun r hr => e2 r (by omega) (by omega)) (rT_hfr (fun _ _ => by rw [eR]) (fun a ha => ⟨e a (by omega), by rw [eR], by rw [eS.1], by rw [eS.2]⟩) r7 hn)⟩, ⟨r8, fun k hk j hj => by rw [e2 (2 + k) (by omega) (by omega)]; exact r8w.2 k hk j hj⟩, rL_fr (fun x hx => e x (by omega)) (fun k hk => e20 k (by omega) (by omega)) (fun r hr => e2 r (by omega) (by omega)) r9⟩
theorem nI_any (x : Int32) : ∃ k, x = nI k := by
  refine ⟨x.toBitVec.toNat, Int32.toBitVec_inj.mp ?_⟩
  show x.toBitVec = BitVec.ofNat 32 x.toBitVec.toNat
  rw [BitVec.ofNat_toNat]
  rfl
theorem cal_end (E : gE) {H : hp_T} (R : rel9 H) (t : Int32) : cal9 E mX11_end mX12_end [.int t] H := by
  obtain ⟨M, N, w, g, m, n, p, L, G, I, P⟩ := R
  obtain ⟨⟨a1, a2, a3⟩, -⟩ := P.2.2.2.1.1
  have k1 := e_X11_end E (d := 100) (by decide) t H G
  rw [a1] at k1
  by_cases q : (¬ t < 0) ∧ t ≤ nI L
  · rw [if_pos q, zb_t q] at k1
    have q0 : 0 ≤ t := by
      have h1 := q.1
      rw [fa_lt, ti_0] at h1
      rw [fa_le, ti_0]
      omega
    obtain ⟨k, hk, ek⟩ := int_n (b := nI L) (K := L) rfl (by omega) ⟨q0, q.2⟩
    subst ek
    have I1 : isM9 (hp_setI H 150 0 (nI k)) M N := isM_up (by decide) I
    have k2 := e_X12_end E (d := 100) (by decide) (nI k) (hm (hp_setI H 150 0 (nI k)) M N) G
    rw [show (247 : Nat) = 247 + 0 from rfl, hm_at (by decide), a2, if_pos q, zb_t q, hm_set (by decide)] at k2
    refine cal_1 k1 I1 k2 G (Pc_R (H := H) (rR_end hk P.2.2.2.1.1) (fun x hx => set_row (by omega)) (fun r h0 h1 => up2_row h0) (fun k hk h1 => up2_k _ _ h1) rfl ⟨rfl, rfl⟩ P) (Nat.le_add_right _ _) (Nat.le_add_right _ _)
  · rw [if_neg q, zb_f q] at k1
    have k2 := e_X12_end E (d := 100) (by decide) t H G
    rw [show hp_i H 247 = M 0 from (I 0 (by decide)).1, a2, if_neg q, zb_f q] at k2
    exact cal_0 ⟨M, N, w, g, m, n, p, L, G, I, P⟩ k1 k2
theorem cal_feed (E : gE) {H : hp_T} (R : rel9 H) (a b c x e : Int32) : cal9 E mX11_feed mX12_feed [.int a, .int b, .int c, .int x, .int e] H := by
  obtain ⟨M, N, w, g, m, n, p, L, G, I, P⟩ := R
  obtain ⟨⟨a1, a2, a3⟩, -⟩ := P.2.2.2.1.1
  have k1 := e_X11_feed E (d := 100) (by decide) a b c x e H G a1 a3
  by_cases q : L + 20 ≤ 600
  · rw [if_pos q, if_pos q] at k1
    have I1 : isM9 (hb H 150 8 (fdS a b c x e L (rd0 H))) M N := isM_fr (fun y h1 _ => hb_out H _ (by omega)) (fun _ _ _ => rfl) I
    have k2 := e_X12_feed E (d := 100) a b c x e (hb H 150 8 (fdS a b c x e L (rd0 H))) G M N a2 a3
    rw [if_pos q, if_pos q] at k2
    have hr := fee_rows (L := L) (a := a) (b := b) (c := c) (x := x) (e := e) (M := M) 20
    refine cal_1 k1 I1 k2 G (Pc_R (H := H) (rR_feed q (hb_in H (b := 150) (n := 8) (o := 0) _ (by decide)) (hb_in H (b := 150) (n := 8) (o := 4) _ (by decide)) P.2.2.2.1.1) (fun y hy => hb_out H _ (by omega)) (fun r h0 h1 => hr.1 r h0 h1) (fun k hk h1 => hr.2 k h1) rfl ⟨rfl, rfl⟩ P) (Nat.le_add_right _ _) (Nat.le_add_right _ _)
  · rw [if_neg q, if_neg q] at k1
    have k2 := e_X12_feed E (d := 100) a b c x e H G M N a2 a3
    rw [if_neg q, if_neg q, isM_hm I] at k2
    exact cal_0 ⟨M, N, w, g, m, n, p, L, G, I, P⟩ k1 k2
theorem cal_fault (E : gE) {H : hp_T} (R : rel9 H) (t : Int32) : cal9 E mX11_fault mX12_fault [.int t] H := by
  obtain ⟨M, N, w, g, m, n, p, L, G, I, P⟩ := R
  obtain ⟨-, -, -, ⟨d1, d2⟩, -⟩ := P.2.2.2.1.1
  have k1 := e_X11_fault E (d := 100) (by decide) t H G
  rw [d1, d2] at k1
  have k2 := e_X12_fault E (d := 100) (by decide) t H G
  rw [show hp_i H 247 = M 0 from (I 0 (by decide)).1] at k2
  exact cal_0 ⟨M, N, w, g, m, n, p, L, G, I, P⟩ k1 k2
/-- frames for what acts, engines, places write -/
theorem Pc_E {H H1 : hp_T} {M M1 : mM} {w g m m1 n p L : Nat} (r4 : rE (hp_i H1) M1 w g m1) (e : ∀ x, ¬ (145 ≤ x ∧ x < 150) → hp_i H1 x = hp_i H x) (e2 : ∀ r, r ≠ 0 → ¬ (41 ≤ r ∧ r ≤ 44) → M1 r = M r) (e20 : ∀ k, k ≠ 54 → M1 0 k = M 0 k) (eR : hp_r H1 = hp_r H) (eS : hp_tag H1 = hp_tag H ∧ hp_len H1 = hp_len H) (R : Pc H M w g m n p L) (hn : hp_n H ≤ hp_n H1 := by exact Nat.le_refl _) : Pc H1 M1 w g m1 n p L := by
  obtain ⟨⟨r1, r2, r3⟩, ⟨-, r5⟩, ⟨r6, r7⟩, r8, r9⟩ := R
  exact ⟨⟨rC_fr (fun x hx => e x (by omega)) (fun x hx => e2 x (by omega) (by omega)) ⟨e20 42 (by decide), e20 43 (by decide)⟩ r1, bC_fr (fun x hx => e2 x (by omega) (by omega)) r2, rW_fr ⟨e 131 (by decide), e 132 (by decide), e 133 (by decide)⟩ ⟨e2 37 (by decide) (by decide), e2 38 (by decide) (by decide), e2 39 (by decide) (by decide)⟩ r3⟩, ⟨r4, rP_fr ⟨by rw [e 243 (by decide)], by rw [e 243 (by decide)], e20 60 (by decide), e20 112 (by decide)⟩ ⟨e 244 (by decide), e 245 (by decide)⟩ ⟨e2 46 (by decide) (by decide), e2 85 (by decide) (by decide)⟩ r5⟩, ⟨rA_fr (fun x hx => e x (by omega)) ⟨e20 62 (by decide), e20 68 (by decide)⟩ (fun x hx => e2 x (by omega) (by omega)) r6, rT_fr (fun r hr => e2 r (by omega) (by omega)) (rT_hfr (fun _ _ => by rw [eR]) (fun a ha => ⟨e a (by omega), by rw [eR], by rw [eS.1], by rw [eS.2]⟩) r7 hn)⟩, rRV_fr ⟨e 150 (by decide), e 154 (by decide)⟩ (fun k hk => e20 k (by omega)) (fun r h1 h2 => e2 r (by omega) (by omega)) r8, rL_fr (fun x hx => e x (by omega)) (fun k hk => e20 k (by omega)) (fun r hr => e2 r (by omega) (by omega)) r9⟩
theorem cal_engine (E : gE) {H : hp_T} (R : rel9 H) (o c a b : Int32) : cal9 E mX11_engine mX12_engine [.int o, .int c, .int a, .int b] H := by
  obtain ⟨M, N, w, g, m, n, p, L, G, I, P⟩ := R
  have hC := P.1.1
  have hcy := cty_n hC.1
  have e12 : hp_i H 1 2 = nI (w * g) := hC.1.2.2.2.1
  obtain ⟨a1, a2, a3, -⟩ := P.2.1.1
  have k1 := e_X11_engine E (d := 100) (by decide) o c a b H G a1 a3
  have hm12 : hp_i H 145 0 < 12 ↔ m < 12 := by
    rw [a1, fa_lt, nI_toInt (by omega), show (12 : Int32).toInt = 12 from by decide]
    omega
  by_cases q : (0 ≤ o ∧ o ≤ 8) ∧ (0 ≤ c ∧ c < nI (w * g)) ∧ (1 ≤ a ∧ a ≤ 9) ∧ (1 ≤ b ∧ b ≤ 9) ∧ m < 12
  · have q1 : ((0 ≤ o ∧ o ≤ 8) ∧ (1 ≤ a ∧ a ≤ 9) ∧ (1 ≤ b ∧ b ≤ 9)) ∧ (0 ≤ c ∧ c < hp_i H 1 2) ∧ (hp_i H 145 0 < 12) := ⟨⟨q.1, q.2.2.1, q.2.2.2.1⟩, by rw [e12]; exact q.2.1, hm12.mpr q.2.2.2.2⟩
    rw [if_pos q1, if_pos q1] at k1
    obtain ⟨o', ho, eo⟩ := int_n (b := 8) (K := 8) rfl (by decide) q.1
    obtain ⟨k, hk, ek⟩ := cell_n hcy.2 q.2.1
    obtain ⟨x, hx, ex, hx1⟩ := isM_n (t := a) (k := 9) (by decide) q.2.2.1
    obtain ⟨y, hy, ey, hy1⟩ := isM_n (t := b) (k := 9) (by decide) q.2.2.2.1
    have I1 : isM9 (hp_setI (hp_setI (hp_setI (hp_setI (hp_setI H 146 m o) 147 m c) 148 m a) 149 m b) 145 0 (nI (m + 1))) M N := isM_up (by decide) (isM_up (by decide) (isM_up (by decide) (isM_up (by decide) (isM_up (by decide) I))))
    have k2 := e_X12_engine E (d := 100) (by decide) o c a b (hp_setI (hp_setI (hp_setI (hp_setI (hp_setI H 146 m o) 147 m c) 148 m a) 149 m b) 145 0 (nI (m + 1))) G M N hC.2.1 a2 a3
    rw [if_pos q, if_pos q] at k2
    subst eo
    subst ek
    subst ex
    subst ey
    refine cal_1 k1 I1 k2 G (Pc_E (H := H) (rE_engine q.2.2.2.2 ho hk ⟨hx1, hx⟩ ⟨hy1, hy⟩ P.2.1.1) (fun x hx => ?_) (fun r h0 h1 => ?_) (fun k hk => ?_) rfl ⟨rfl, rfl⟩ P) (Nat.le_add_right _ _) (Nat.le_add_right _ _)
    · exact (set_row (by omega)).trans ((set_row (by omega)).trans ((set_row (by omega)).trans ((set_row (by omega)).trans (set_row (by omega)))))
    · unfold mstT
      rw [up2_row h0, up2_row (by omega), up2_row (by omega), up2_row (by omega), up2_row (by omega)]
    · unfold mstT
      rw [up2_k _ _ hk, up2_row (show 0 ≠ 44 by decide), up2_row (show 0 ≠ 43 by decide), up2_row (show 0 ≠ 42 by decide), up2_row (show 0 ≠ 41 by decide)]
  · have q1 : ¬ (((0 ≤ o ∧ o ≤ 8) ∧ (1 ≤ a ∧ a ≤ 9) ∧ (1 ≤ b ∧ b ≤ 9)) ∧ (0 ≤ c ∧ c < hp_i H 1 2) ∧ (hp_i H 145 0 < 12)) := fun z => q ⟨z.1.1, by rw [← e12]; exact z.2.1, z.1.2.1, z.1.2.2, hm12.mp z.2.2⟩
    rw [if_neg q1, if_neg q1] at k1
    have k2 := e_X12_engine E (d := 100) (by decide) o c a b H G M N hC.2.1 a2 a3
    rw [if_neg q, if_neg q, isM_hm I] at k2
    exact cal_0 ⟨M, N, w, g, m, n, p, L, G, I, P⟩ k1 k2
theorem Pc_P {H H1 : hp_T} {M M1 : mM} {w g m n p p1 L : Nat} (r5 : rP (hp_i H1) M1 w g p1) (e : ∀ x, x ≠ 243 → x ≠ 244 → x ≠ 245 → hp_i H1 x = hp_i H x) (e2 : ∀ r, r ≠ 0 → r ≠ 46 → r ≠ 85 → M1 r = M r) (e20 : ∀ k, k ≠ 60 → k ≠ 112 → M1 0 k = M 0 k) (eR : hp_r H1 = hp_r H) (eS : hp_tag H1 = hp_tag H ∧ hp_len H1 = hp_len H) (R : Pc H M w g m n p L) (hn : hp_n H ≤ hp_n H1 := by exact Nat.le_refl _) : Pc H1 M1 w g m n p1 L := by
  obtain ⟨⟨r1, r2, r3⟩, ⟨r4, -⟩, ⟨r6, r7⟩, r8, r9⟩ := R
  exact ⟨⟨rC_fr (fun x hx => e x (by omega) (by omega) (by omega)) (fun x hx => e2 x (by omega) (by omega) (by omega)) ⟨e20 42 (by decide) (by decide), e20 43 (by decide) (by decide)⟩ r1, bC_fr (fun x hx => e2 x (by omega) (by omega) (by omega)) r2, rW_fr ⟨e 131 (by decide) (by decide) (by decide), e 132 (by decide) (by decide) (by decide), e 133 (by decide) (by decide) (by decide)⟩ ⟨e2 37 (by decide) (by decide) (by decide), e2 38 (by decide) (by decide) (by decide), e2 39 (by decide) (by decide) (by decide)⟩ r3⟩, ⟨rE_fr ⟨by rw [e 145 (by decide) (by decide) (by decide)], e20 54 (by decide) (by decide)⟩ (fun x hx => e x (by omega) (by omega) (by omega)) (fun x hx => e2 x (by omega) (by omega) (by omega)) r4, r5⟩, ⟨rA_fr (fun x hx => e x (by omega) (by omega) (by omega)) ⟨e20 62 (by decide) (by decide), e20 68 (by decide) (by decide)⟩ (fun x hx => e2 x (by omega) (by omega) (by omega)) r6, rT_fr (fun r hr => e2 r (by omega) (by omega) (by omega)) (rT_hfr (fun _ _ => by rw [eR]) (fun a ha => ⟨e a (by omega) (by omega) (by omega), by rw [eR], by rw [eS.1], by rw [eS.2]⟩) r7 hn)⟩, rRV_fr ⟨e 150 (by decide) (by decide) (by decide), e 154 (by decide) (by decide) (by decide)⟩ (fun k hk => e20 k (by omega) (by omega)) (fun r h1 h2 => e2 r (by omega) (by omega) (by omega)) r8, rL_fr (fun x hx => e x (by omega) (by omega) (by omega)) (fun k hk => e20 k (by omega) (by omega)) (fun r hr => e2 r (by omega) (by omega) (by omega)) r9⟩
theorem cal_place (E : gE) {H : hp_T} (R : rel9 H) (c : Int32) : cal9 E mX11_place mX12_place [.int c] H := by
  obtain ⟨M, N, w, g, m, n, p, L, G, I, P⟩ := R
  have hC := P.1.1
  have hcy := cty_n hC.1
  have e12 : hp_i H 1 2 = nI (w * g) := hC.1.2.2.2.1
  have r5 := P.2.1.2
  have k1 := e_X11_place E (d := 100) (by decide) c H G (plI_rP r5)
  have hany := rP_any (c := c) r5
  by_cases q : mplC M w g p c
  · have q1 : isPc H p c := ⟨by rw [e12]; exact q.1, by rw [hany]; exact q.2.1, q.2.2⟩
    rw [if_pos q1, if_pos q1] at k1
    obtain ⟨k, hk, ek⟩ := cell_n hcy.2 q.1
    have I1 : isM9 (hp_setI (hp_setI H 244 p c) 243 0 (nI (p + 1))) M N := isM_up (by decide) (isM_up (by decide) I)
    have k2 := e_X12_place E (d := 100) (by decide) c (hp_setI (hp_setI H 244 p c) 243 0 (nI (p + 1))) G M N hC.2.1 r5.1.2.1 r5.1.2.2.1
    rw [if_pos q, if_pos q] at k2
    have hp8 := q.2.2
    subst ek
    refine cal_1 k1 I1 k2 G (Pc_P (H := H) (rP_place hp8 hk r5) (fun x h3 h4 _ => (set_row h3).trans (set_row h4)) (fun r h0 h1 h2 => ?_) (fun k hk _ => ?_) rfl ⟨rfl, rfl⟩ P) (Nat.le_add_right _ _) (Nat.le_add_right _ _)
    · unfold mplM
      rw [up2_row h0, up2_row h1]
    · unfold mplM
      rw [up2_k _ _ hk, up2_row (show 0 ≠ 46 by decide)]
  · have q1 : ¬ isPc H p c := fun z => q ⟨by rw [← e12]; exact z.1, by rw [← hany]; exact z.2.1, z.2.2⟩
    rw [if_neg q1, if_neg q1] at k1
    have k2 := e_X12_place E (d := 100) (by decide) c H G M N hC.2.1 r5.1.2.1 r5.1.2.2.1
    rw [if_neg q, if_neg q, isM_hm I] at k2
    exact cal_0 ⟨M, N, w, g, m, n, p, L, G, I, P⟩ k1 k2
theorem cal_planned (E : gE) {H : hp_T} (R : rel9 H) (t : Int32) : cal9 E mX11_planned mX12_planned [.int t] H := by
  obtain ⟨M, N, w, g, m, n, p, L, G, I, P⟩ := R
  obtain ⟨-, q, hq, b1, b2, b3⟩ := P.2.1.2
  have k1 := e_X11_planned E (d := 100) (by decide) t H G b1 hq
  have e112 : hp_i H 247 112 = nI q := by rw [show hp_i H 247 = M 0 from (I 0 (by decide)).1]; exact b2
  have k2 := e_X12_planned E (d := 100) (by decide) t H G e112 hq
  rw [e112, show hp_i H 332 = M 85 from (I 85 (by decide)).1] at k2
  rw [b1] at k1
  have hiff : (0 ≤ t ∧ t ≤ nI q - 1) ↔ (0 ≤ t ∧ t < nI q) := by
    rcases Nat.eq_zero_or_pos q with z | z
    · subst z
      refine ⟨fun y => ?_, fun y => ?_⟩
      · have h1 := y.1
        have h2 := y.2
        rw [fa_le, ti_0] at h1
        rw [fa_le, show (nI 0 - 1 : Int32).toInt = -1 from by decide] at h2
        omega
      · have h1 := y.1
        have h2 := y.2
        rw [fa_le, ti_0] at h1
        rw [fa_lt, nI_toInt (by omega)] at h2
        omega
    · exact lt_le1 (c := t) z (by omega)
  by_cases y : 0 ≤ t ∧ t < nI q
  · rw [if_pos y] at k2
    rw [if_pos (hiff.mpr y)] at k1
    obtain ⟨k, hk, ek⟩ := cell_n (by omega) y
    rw [ek, nI_clamp (by omega)] at k1 k2
    rw [b3 k hk] at k1
    subst ek
    exact cal_0 ⟨M, N, w, g, m, n, p, L, G, I, P⟩ k1 k2
  · rw [if_neg y] at k2
    rw [if_neg (fun z => y (hiff.mp z))] at k1
    exact cal_0 ⟨M, N, w, g, m, n, p, L, G, I, P⟩ k1 k2
theorem cal_all (E : gE) {H : hp_T} (R : rel9 H) (t : Int32) : cal9 E mX11_all mX12_all [.int t] H := by
  obtain ⟨M, N, w, g, m, n, p, L, G, I, P⟩ := R
  have hC := P.1.1
  have k1 := e_X11_all E (d := 100) (by decide) t H G hC.1
  have k2 := e_X12_all E (d := 100) (by decide) t H G M N hC.2.1
  rw [isM_hm I] at k2
  unfold malV at k2
  rw [hC.1.2.2.2.1, hC.2.2.1, hC.2.2.2.2.2.2.1, P.2.1.1.1, P.2.2.1.1.1.1, P.2.2.1.1.2.1.1, P.2.1.2.1.1] at k1
  rw [P.2.1.1.2.1, P.2.2.1.1.1.2.1, P.2.1.2.1.2.1] at k2
  exact cal_0 ⟨M, N, w, g, m, n, p, L, G, I, P⟩ k1 k2
theorem Pc_A {H H1 : hp_T} {M M1 : mM} {w g m n n1 p L : Nat} (r6 : rA (hp_i H1) M1 w g n1) (r7 : rT H1 M1 n1) (e : ∀ x, ¬ (158 ≤ x ∧ x < 165) → x < 333 → hp_i H1 x = hp_i H x) (e2 : ∀ r, r ≠ 0 → ¬ (25 ≤ r ∧ r ≤ 29) → ¬ (47 ≤ r ∧ r ≤ 51) → M1 r = M r) (e20 : ∀ k, k ≠ 62 → k ≠ 68 → M1 0 k = M 0 k) (R : Pc H M w g m n p L) : Pc H1 M1 w g m n1 p L := by
  obtain ⟨⟨r1, r2, r3⟩, ⟨r4, r5⟩, -, r8, r9⟩ := R
  exact ⟨⟨rC_fr (fun x hx => e x (by omega) (by omega)) (fun x hx => e2 x (by omega) (by omega) (by omega)) ⟨e20 42 (by decide) (by decide), e20 43 (by decide) (by decide)⟩ r1, bC_fr (fun x hx => e2 x (by omega) (by omega) (by omega)) r2, rW_fr ⟨e 131 (by decide) (by decide), e 132 (by decide) (by decide), e 133 (by decide) (by decide)⟩ ⟨e2 37 (by decide) (by decide) (by decide), e2 38 (by decide) (by decide) (by decide), e2 39 (by decide) (by decide) (by decide)⟩ r3⟩, ⟨rE_fr ⟨by rw [e 145 (by decide) (by decide)], e20 54 (by decide) (by decide)⟩ (fun x hx => e x (by omega) (by omega)) (fun x hx => e2 x (by omega) (by omega) (by omega)) r4, rP_fr ⟨by rw [e 243 (by decide) (by decide)], by rw [e 243 (by decide) (by decide)], e20 60 (by decide) (by decide), e20 112 (by decide) (by decide)⟩ ⟨e 244 (by decide) (by decide), e 245 (by decide) (by decide)⟩ ⟨e2 46 (by decide) (by decide) (by decide), e2 85 (by decide) (by decide) (by decide)⟩ r5⟩, ⟨r6, r7⟩, rRV_fr ⟨e 150 (by decide) (by decide), e 154 (by decide) (by decide)⟩ (fun k hk => e20 k (by omega) (by omega)) (fun r h1 h2 => e2 r (by omega) (by omega) (by omega)) r8, rL_fr (fun x hx => e x (by omega) (by omega)) (fun k hk => e20 k (by omega) (by omega)) (fun r hr => e2 r (by omega) (by omega) (by omega)) r9⟩
theorem cal_as (E : gE) {H : hp_T} (R : rel9 H) (t : Int32) : cal9 E mX11_as mX12_as [.int t] H := by
  obtain ⟨M, N, w, g, m, n, p, L, G, I, P⟩ := R
  obtain ⟨r6, r7⟩ := P.2.2.1
  have hn := r6.1.2.2
  have k1 := e_X11_as E (d := 100) (by decide) t H G
  rw [r6.1.1] at k1
  by_cases q : -1 ≤ t ∧ t ≤ nI n
  · rw [if_pos q, zb_t q] at k1
    have hv : t = -1 ∨ ∃ s, s ≤ n ∧ t = nI s := by
      by_cases z : t = -1
      · exact Or.inl z
      · refine Or.inr (int_n (b := nI n) (K := n) rfl (by omega) ⟨?_, q.2⟩)
        have h1 := q.1
        rw [fa_le, show (-1 : Int32).toInt = -1 from by decide] at h1
        rw [fa_eq, show (-1 : Int32).toInt = -1 from by decide] at z
        rw [fa_le, ti_0]
        omega
    have I1 : isM9 (hp_setI H 158 1 t) M N := isM_up (by decide) I
    have k2 := e_X12_as E (d := 100) (by decide) t (hm (hp_setI H 158 1 t) M N) G
    rw [show (247 : Nat) = 247 + 0 from rfl, hm_at (by decide), r6.1.2.1, if_pos q, zb_t q, hm_set (by decide)] at k2
    refine cal_1 k1 I1 k2 G (Pc_A (H := H) (rA_as hv r6) (rT_fr (fun r hr => up2_row (by omega)) (rT_hfr (h := H) (fun _ _ => rfl) (fun a ha => ⟨set_row (by omega), rfl, rfl, rfl⟩) r7)) (fun x hx _ => set_row (by omega)) (fun r h0 _ _ => up2_row h0) (fun k _ hk => up2_k _ _ hk) P) (Nat.le_add_right _ _) (Nat.le_add_right _ _)
  · rw [if_neg q, zb_f q] at k1
    have k2 := e_X12_as E (d := 100) (by decide) t H G
    rw [show hp_i H 247 = M 0 from (I 0 (by decide)).1, r6.1.2.1, if_neg q, zb_f q] at k2
    exact cal_0 ⟨M, N, w, g, m, n, p, L, G, I, P⟩ k1 k2
