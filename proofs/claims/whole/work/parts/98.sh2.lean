/-! ===== the calls, one by one: the city ===== -/
theorem cal_1 {E : gE} {m1 m2 : gM} {av : List Value} {H H1 : hp_T} {M M1 : mM} {N N1 : mN} {v : Value} {w g m n p L : Nat} (k1 : ev E m1 100 (.ref (E.1 + 0) :: av) H (some v) H1) (I1 : isM9 H1 M N) (k2 : ev E m2 100 (.ref (E.1 + 247) :: av) (hm H1 M N) (some v) (hm H1 M1 N1)) (G1 : gr H1) (P : Pc H1 M1 w g m n p L) (c : hp_n H1 ≤ hp_n H + 4) (s : hp_s H1 ≤ hp_s H + 700) (hv : kV m1 v := by first | exact kV_i (by decide) | exact kV_l rfl) : cal9 E m1 m2 av H := ⟨v, H1, hm H1 M1 N1, k1, by rw [isM_hm I1] at k2; exact k2, rel_mk G1 P, c, s, hv, G1⟩
theorem Pc_town {H H1 : hp_T} {M M1 : mM} {w g m n p L : Nat} (r1 : rC (hp_i H1) M1 w g) (r2 : bC M1) (r3 : rW (hp_i H1) M1) (e : ∀ x, 145 ≤ x → hp_i H1 x = hp_i H x) (e2 : ∀ r, ¬ (31 ≤ r ∧ r ≤ 40) → r ≠ 45 → M1 r = M r) (eR : hp_r H1 = hp_r H) (eS : hp_tag H1 = hp_tag H ∧ hp_len H1 = hp_len H) (R : Pc H M w g m n p L) (hn : hp_n H ≤ hp_n H1 := by exact Nat.le_refl _) : Pc H1 M1 w g m n p L := by
  obtain ⟨-, ⟨r4, r5⟩, ⟨r6, r7⟩, r8, r9⟩ := R
  have e20 : ∀ k, M1 0 k = M 0 k := fun k => congrFun (e2 0 (by decide) (by decide)) k
  exact ⟨⟨r1, r2, r3⟩, ⟨rE_fr ⟨by rw [e 145 (by decide)], e20 54⟩ (fun x hx => e x (by omega)) (fun x hx => e2 x (by omega) (by omega)) r4, rP_fr ⟨by rw [e 243 (by decide)], by rw [e 243 (by decide)], e20 60, e20 112⟩ ⟨e 244 (by decide), e 245 (by decide)⟩ ⟨e2 46 (by decide) (by decide), e2 85 (by decide) (by decide)⟩ r5⟩, ⟨rA_fr (fun x hx => e x (by omega)) ⟨e20 62, e20 68⟩ (fun x hx => e2 x (by omega) (by omega)) r6, rT_fr (fun r hr => e2 r (by omega) (by omega)) (rT_hfr (fun _ _ => by rw [eR]) (fun a ha => ⟨e a (by omega), by rw [eR], by rw [eS.1], by rw [eS.2]⟩) r7 hn)⟩, rRV_fr ⟨e 150 (by decide), e 154 (by decide)⟩ (fun k _ => e20 k) (fun r h1 h2 => e2 r (by omega) (by omega)) r8, rL_fr (fun x hx => e x (by omega)) (fun k _ => e20 k) (fun r hr => e2 r (by omega) (by omega)) r9⟩
theorem set_row {H : hp_T} {a k x : Nat} {v : Int32} (h : x ≠ a) : hp_i (hp_setI H a k v) x = hp_i H x := up2_row h
theorem isM_up {H : hp_T} {M : mM} {N : mN} {a k : Nat} {v : Int32} (ha : a < 247) (I : isM9 H M N) : isM9 (hp_setI H a k v) M N := isM_fr (fun x h1 _ => up2_row (show x ≠ a by omega)) (fun _ _ _ => rfl) I
theorem cell_n {c : Int32} {n : Nat} (hn : n ≤ 120) (h : 0 ≤ c ∧ c < nI n) : ∃ k, k < n ∧ c = nI k := by
  obtain ⟨h0, h1⟩ := h
  rw [fa_lt, nI_toInt (by omega)] at h1
  rw [fa_le, ti_0] at h0
  exact ⟨c.toNatClampNeg, ix_lt h0 (by omega), ix_nI h0⟩
theorem int_n {c b : Int32} {K : Nat} (hb : b = nI K) (hK : K < 2147483648) (h : 0 ≤ c ∧ c ≤ b) : ∃ k, k ≤ K ∧ c = nI k := bd_of hb hK h
theorem hm_set {H : hp_T} {M : mM} {N : mN} {o k : Nat} {v : Int32} (ho : o < 86) : hp_setI (hm H M N) (247 + o) k v = hm H (up2 M o k v) N := hb_set (hbl H 247 86 N) M ho k v
theorem hm_at {H : hp_T} {M : mM} {N : mN} {o : Nat} (ho : o < 86) : hp_i (hm H M N) (247 + o) = M o := hb_in _ M ho
theorem zb_if {P Q : Prop} [Decidable P] [Decidable Q] (h : P ↔ Q) : zb P = if Q then 1 else 0 := by
  by_cases q : Q
  · rw [if_pos q]; exact if_pos (h.mpr q)
  · rw [if_neg q]; exact if_neg (fun z => q (h.mp z))
theorem cal_house (E : gE) {H : hp_T} (R : rel9 H) (c wl tr wo : Int32) : cal9 E mX11_house mX12_house [.int c, .int wl, .int tr, .int wo] H := by
  obtain ⟨M, N, w, g, m, n, p, L, G, I, P⟩ := R
  have hC := P.1.1
  have hcy := cty_n hC.1
  have e12 : hp_i H 1 2 = nI (w * g) := hC.1.2.2.2.1
  have k1 := e_X11_house E (d := 100) (by decide) c wl tr wo H G hC.1
  rw [e12] at k1
  by_cases q : (0 ≤ c ∧ c < nI (w * g)) ∧ (0 ≤ wl ∧ wl ≤ 3) ∧ (0 ≤ tr ∧ tr ≤ 5) ∧ (0 ≤ wo ∧ wo ≤ 9999)
  · rw [if_pos q, zb_t q] at k1
    obtain ⟨k, hk, ek⟩ := cell_n hcy.2 q.1
    subst ek
    obtain ⟨a, ha, ea⟩ := int_n (b := 3) (K := 3) rfl (by decide) q.2.1
    obtain ⟨b, hb, eb⟩ := int_n (b := 5) (K := 5) rfl (by decide) q.2.2.1
    obtain ⟨d, hd, ed⟩ := int_n (b := 9999) (K := 9999) rfl (by decide) q.2.2.2
    rw [nI_clamp (by omega)] at k1
    have I1 : isM9 (hp_setI (hp_setI (hp_setI (hp_setI H 2 k 1) 3 k wl) 4 k tr) 5 k wo) M N := isM_up (by decide) (isM_up (by decide) (isM_up (by decide) (isM_up (by decide) I)))
    have k2 := e_X12_house E (d := 100) (by decide) (nI k) wl tr wo (hp_setI (hp_setI (hp_setI (hp_setI H 2 k 1) 3 k wl) 4 k tr) 5 k wo) G M N hC.2.1
    rw [if_pos q, if_pos q, nI_clamp (by omega)] at k2
    refine cal_1 k1 I1 k2 G (Pc_town (H := H) (rC_house hC) (bC_up (bC_up (bC_up (bC_up P.1.2.1 ?_) ?_) ?_) ?_) (rW_fr ⟨?_, ?_, ?_⟩ ⟨?_, ?_, ?_⟩ P.1.2.2) (fun x hx => ?_) (fun r h1 h2 => ?_) rfl ⟨rfl, rfl⟩ P) (Nat.le_add_right _ _) (Nat.le_add_right _ _)
    · intro K hK
      simp only [List.mem_cons, Prod.mk.injEq, List.not_mem_nil, or_false] at hK
      exact ⟨1, by omega, rfl⟩
    · intro K hK
      simp only [List.mem_cons, Prod.mk.injEq, List.not_mem_nil, or_false] at hK
      exact ⟨a, by omega, ea⟩
    · intro K hK
      simp only [List.mem_cons, Prod.mk.injEq, List.not_mem_nil, or_false] at hK
      exact ⟨b, by omega, eb⟩
    · intro K hK
      simp only [List.mem_cons, Prod.mk.injEq, List.not_mem_nil, or_false] at hK
      exact ⟨d, by omega, ed⟩
    · exact (set_row (by decide)).trans ((set_row (by decide)).trans ((set_row (by decide)).trans (set_row (by decide))))
    · exact (set_row (by decide)).trans ((set_row (by decide)).trans ((set_row (by decide)).trans (set_row (by decide))))
    · exact (set_row (by decide)).trans ((set_row (by decide)).trans ((set_row (by decide)).trans (set_row (by decide))))
    · exact (up2_row (by decide)).trans ((up2_row (by decide)).trans ((up2_row (by decide)).trans (up2_row (by decide))))
    · exact (up2_row (by decide)).trans ((up2_row (by decide)).trans ((up2_row (by decide)).trans (up2_row (by decide))))
    · exact (up2_row (by decide)).trans ((up2_row (by decide)).trans ((up2_row (by decide)).trans (up2_row (by decide))))
    · exact (set_row (by omega)).trans ((set_row (by omega)).trans ((set_row (by omega)).trans (set_row (by omega))))
    · exact (up2_row (by omega)).trans ((up2_row (by omega)).trans ((up2_row (by omega)).trans (up2_row (by omega))))
  · rw [if_neg q, zb_f q] at k1
    have k2 := e_X12_house E (d := 100) (by decide) c wl tr wo H G M N hC.2.1
    rw [if_neg q, if_neg q, isM_hm I] at k2
    exact cal_0 ⟨M, N, w, g, m, n, p, L, G, I, P⟩ k1 k2
theorem cal_plug (E : gE) {H : hp_T} (R : rel9 H) (c b : Int32) (hb : b = 0 ∨ b = 1) : cal9 E mX11_plug mX12_plug [.int c, .int b] H := by
  obtain ⟨M, N, w, g, m, n, p, L, G, I, P⟩ := R
  have hC := P.1.1
  have hcy := cty_n hC.1
  have e12 : hp_i H 1 2 = nI (w * g) := hC.1.2.2.2.1
  have k1 := e_X11_plug E (d := 100) (by decide) c b H G hC.1 (vp_01 hb)
  rw [e12] at k1
  have hmt : ∀ H1 : hp_T, isM9 H1 M N → mty (hp_i H1) w g := fun H1 J => ⟨hC.2.1.1, by rw [(J 0 (by decide)).1]; exact hC.2.1.2.1, by rw [(J 0 (by decide)).1]; exact hC.2.1.2.2⟩
  by_cases q : 0 ≤ c ∧ c < nI (w * g)
  · rw [if_pos q, zb_t q] at k1
    obtain ⟨k, hk, ek⟩ := cell_n hcy.2 q
    subst ek
    rw [nI_clamp (by omega)] at k1
    have I1 : isM9 (hp_setI H 6 k b) M N := isM_up (by decide) I
    have k2 := e_X12_plug E (d := 100) (by decide) (nI k) b (hm (hp_setI H 6 k b) M N) G (hmt _ hm_in) (vp_01 hb)
    rw [if_pos q, zb_t q, nI_clamp (by omega), show (282 : Nat) = 247 + 35 from rfl, hm_set (by decide)] at k2
    refine cal_1 k1 I1 k2 G (Pc_town (H := H) (rC_2 (x := 6) (y := 35) (by decide) hC) (bC_up P.1.2.1 ?_) (rW_fr ⟨?_, ?_, ?_⟩ ⟨?_, ?_, ?_⟩ P.1.2.2) (fun x hx => ?_) (fun r h1 h2 => ?_) rfl ⟨rfl, rfl⟩ P) (Nat.le_add_right _ _) (Nat.le_add_right _ _)
    · intro K hK
      simp only [List.mem_cons, Prod.mk.injEq, List.not_mem_nil, or_false] at hK
      rcases hb with y | y
      · exact ⟨0, by omega, y⟩
      · exact ⟨1, by omega, y⟩
    all_goals first | exact set_row (by omega) | exact up2_row (by omega)
  · rw [if_neg q, zb_f q] at k1
    have k2 := e_X12_plug E (d := 100) (by decide) c b H G (hmt H I) (vp_01 hb)
    rw [if_neg q, zb_f q] at k2
    exact cal_0 ⟨M, N, w, g, m, n, p, L, G, I, P⟩ k1 k2
theorem cal_hazard (E : gE) {H : hp_T} (R : rel9 H) (t u : Int32) : cal9 E mX11_hazard mX12_hazard [.int t, .int u] H := by
  obtain ⟨M, N, w, g, m, n, p, L, G, I, P⟩ := R
  have hC := P.1.1
  have k1 := e_X11_hazard E (d := 100) (by decide) t u H G
  by_cases q : (0 ≤ t ∧ t ≤ 5) ∧ (0 ≤ u ∧ u ≤ 9)
  · rw [if_pos q, zb_t q] at k1
    obtain ⟨k, hk, ek⟩ := int_n (b := 5) (K := 5) rfl (by decide) q.1
    obtain ⟨a, ha, ea⟩ := int_n (b := 9) (K := 9) rfl (by decide) q.2
    subst ek
    rw [nI_clamp (by omega)] at k1
    have I1 : isM9 (hp_setI H 130 k u) M N := isM_up (by decide) I
    have k2 := e_X12_hazard E (d := 100) (by decide) (nI k) u (hm (hp_setI H 130 k u) M N) G
    rw [if_pos q, zb_t q, nI_clamp (by omega), show (283 : Nat) = 247 + 36 from rfl, hm_set (by decide)] at k2
    refine cal_1 k1 I1 k2 G (Pc_town (H := H) (rC_2 (x := 130) (y := 36) (by decide) hC) (bC_up P.1.2.1 ?_) (rW_fr ⟨?_, ?_, ?_⟩ ⟨?_, ?_, ?_⟩ P.1.2.2) (fun x hx => ?_) (fun r h1 h2 => ?_) rfl ⟨rfl, rfl⟩ P) (Nat.le_add_right _ _) (Nat.le_add_right _ _)
    · intro K hK
      simp only [List.mem_cons, Prod.mk.injEq, List.not_mem_nil, or_false] at hK
      exact ⟨a, by omega, ea⟩
    all_goals first | exact set_row (by omega) | exact up2_row (by omega)
  · rw [if_neg q, zb_f q] at k1
    have k2 := e_X12_hazard E (d := 100) (by decide) t u H G
    rw [if_neg q, zb_f q] at k2
    exact cal_0 ⟨M, N, w, g, m, n, p, L, G, I, P⟩ k1 k2
theorem cal_coin (E : gE) {H : hp_T} (R : rel9 H) (t u : Int32) : cal9 E mX11_coin mX12_coin [.int t, .int u] H := by
  obtain ⟨M, N, w, g, m, n, p, L, G, I, P⟩ := R
  have hC := P.1.1
  have k1 := e_X11_coin E (d := 100) (by decide) t u H G
  by_cases q : (0 ≤ t ∧ t ≤ 8) ∧ (0 ≤ u ∧ u ≤ 100000000)
  · rw [if_pos q, zb_t q] at k1
    obtain ⟨k, hk, ek⟩ := int_n (b := 8) (K := 8) rfl (by decide) q.1
    obtain ⟨a, ha, ea⟩ := int_n (b := 100000000) (K := 100000000) rfl (by decide) q.2
    subst ek
    rw [nI_clamp (by omega)] at k1
    have I1 : isM9 (hp_setI H 134 k u) M N := isM_up (by decide) I
    have k2 := e_X12_coin E (d := 100) (by decide) (nI k) u (hm (hp_setI H 134 k u) M N) G
    rw [if_pos q, zb_t q, nI_clamp (by omega), show (287 : Nat) = 247 + 40 from rfl, hm_set (by decide)] at k2
    refine cal_1 k1 I1 k2 G (Pc_town (H := H) (rC_2 (x := 134) (y := 40) (by decide) hC) (bC_up P.1.2.1 ?_) (rW_fr ⟨?_, ?_, ?_⟩ ⟨?_, ?_, ?_⟩ P.1.2.2) (fun x hx => ?_) (fun r h1 h2 => ?_) rfl ⟨rfl, rfl⟩ P) (Nat.le_add_right _ _) (Nat.le_add_right _ _)
    · intro K hK
      simp only [List.mem_cons, Prod.mk.injEq, List.not_mem_nil, or_false] at hK
      exact ⟨a, by omega, ea⟩
    all_goals first | exact set_row (by omega) | exact up2_row (by omega)
  · rw [if_neg q, zb_f q] at k1
    have k2 := e_X12_coin E (d := 100) (by decide) t u H G
    rw [if_neg q, zb_f q] at k2
    exact cal_0 ⟨M, N, w, g, m, n, p, L, G, I, P⟩ k1 k2
theorem cal_deal (E : gE) {H : hp_T} (R : rel9 H) (b c t : Int32) : cal9 E mX11_deal mX12_deal [.int b, .int c, .int t] H := by
  obtain ⟨M, N, w, g, m, n, p, L, G, I, P⟩ := R
  have hC := P.1.1
  have k1 := e_X11_deal E (d := 100) (by decide) b c t H G
  by_cases q : (0 ≤ b ∧ b ≤ 8) ∧ (0 ≤ c ∧ c ≤ 8) ∧ (¬ b = c) ∧ (0 ≤ t ∧ t ≤ 1000)
  · rw [if_pos q, zb_t q] at k1
    obtain ⟨k, hk, ek⟩ := int_n (b := 8) (K := 8) rfl (by decide) q.1
    obtain ⟨j, hj, ej⟩ := int_n (b := 8) (K := 8) rfl (by decide) q.2.1
    obtain ⟨a, ha, ea⟩ := int_n (b := 1000) (K := 1000) rfl (by decide) q.2.2.2
    subst ek
    subst ej
    rw [nI_clamp (by omega), nI_clamp (by omega)] at k1
    have I1 : isM9 (hp_setI H (136 + k) j t) M N := isM_up (by omega) I
    have k2 := e_X12_deal E (d := 100) (by decide) (nI k) (nI j) t (hp_setI H (136 + k) j t) G M N
    rw [if_pos q, if_pos q, nI_clamp (by omega), nI_clamp (by omega)] at k2
    refine cal_1 k1 I1 k2 G (Pc_town (H := H) (rC_deal (by omega) (by omega) hC) (bC_up P.1.2.1 ?_) (rW_fr ⟨?_, ?_, ?_⟩ ⟨?_, ?_, ?_⟩ P.1.2.2) (fun x hx => ?_) (fun r h1 h2 => ?_) rfl ⟨rfl, rfl⟩ P) (Nat.le_add_right _ _) (Nat.le_add_right _ _)
    · intro K hK
      simp only [List.mem_cons, Prod.mk.injEq, List.not_mem_nil, or_false] at hK
      exact ⟨a, by omega, ea⟩
    all_goals first | exact set_row (by omega) | exact up2_row (by omega)
  · rw [if_neg q, zb_f q] at k1
    have k2 := e_X12_deal E (d := 100) (by decide) b c t H G M N
    rw [if_neg q, if_neg q, isM_hm I] at k2
    exact cal_0 ⟨M, N, w, g, m, n, p, L, G, I, P⟩ k1 k2
theorem cal_wind (E : gE) {H : hp_T} (R : rel9 H) (t y s : Int32) : cal9 E mX11_wind mX12_wind [.int t, .int y, .int s] H := by
  obtain ⟨M, N, w, g, m, n, p, L, G, I, P⟩ := R
  have hC := P.1.1
  have k1 := e_X11_wind E (d := 100) (by decide) t y s H G
  by_cases q : (1 ≤ t ∧ t ≤ 120) ∧ (0 ≤ y ∧ y ≤ 7) ∧ (0 ≤ s ∧ s ≤ 20)
  · rw [if_pos q, zb_t q] at k1
    obtain ⟨k, hk, ek, hk1⟩ := isM_n (t := t) (k := 120) (by decide) q.1
    obtain ⟨a, ha, ea⟩ := int_n (b := 7) (K := 7) rfl (by decide) q.2.1
    obtain ⟨b, hb, eb⟩ := int_n (b := 20) (K := 20) rfl (by decide) q.2.2
    subst ek
    rw [nI_clamp (by omega)] at k1
    have hrow : ∀ x, x ≠ 131 → x ≠ 132 → x ≠ 133 → hp_i (rw1 (rw1 (hp_setI H 131 k 1) 132 (wgo (hp_i (hp_setI H 131 k 1) 131) y (120 - k) (k + 1) (va_up (hp_i H 132) k y))) 133 (wgo (hp_i (hp_setI H 131 k 1) 131) s (120 - k) (k + 1) (va_up (hp_i H 133) k s))) x = hp_i H x := fun x h1 h2 h3 => (rw1_ne _ _ h3).trans ((rw1_ne _ _ h2).trans (up2_row h1))
    have h131 : hp_i (hp_setI H 131 k 1) 131 = va_up (M 39) k 1 := (up2_r _ _ _ _).trans (congrArg (fun f => va_up f k 1) P.1.2.2.1)
    have I1 : isM9 (rw1 (rw1 (hp_setI H 131 k 1) 132 (wgo (hp_i (hp_setI H 131 k 1) 131) y (120 - k) (k + 1) (va_up (hp_i H 132) k y))) 133 (wgo (hp_i (hp_setI H 131 k 1) 131) s (120 - k) (k + 1) (va_up (hp_i H 133) k s))) M N := isM_fr (fun x h1 _ => hrow x (by omega) (by omega) (by omega)) (fun _ _ _ => rfl) I
    have k2 := e_X12_wind E (d := 100) (by decide) (nI k) y s (rw1 (rw1 (hp_setI H 131 k 1) 132 (wgo (hp_i (hp_setI H 131 k 1) 131) y (120 - k) (k + 1) (va_up (hp_i H 132) k y))) 133 (wgo (hp_i (hp_setI H 131 k 1) 131) s (120 - k) (k + 1) (va_up (hp_i H 133) k s))) G M N
    rw [if_pos q, if_pos q, nI_clamp (by omega)] at k2
    have hM : ∀ r, r ≠ 37 → r ≠ 38 → r ≠ 39 → up2 (up2 (up2 M 39 k 1) 37 k y) 38 k s r = M r := fun r h7 h8 h9 => (up2_row h8).trans ((up2_row h7).trans (up2_row h9))
    refine cal_1 k1 I1 k2 G (Pc_town (H := H) (rC_fr (fun x hx => hrow x (by omega) (by omega) (by omega)) (fun x hx => hM x (by omega) (by omega) (by omega)) ⟨congrFun (hM 0 (by decide) (by decide) (by decide)) 42, congrFun (hM 0 (by decide) (by decide) (by decide)) 43⟩ hC) (bC_up (bC_up (bC_up P.1.2.1 ?_) ?_) ?_) ⟨?_, ?_, ?_⟩ (fun x hx => hrow x (by omega) (by omega) (by omega)) (fun r h1 h2 => hM r (by omega) (by omega) (by omega)) rfl ⟨rfl, rfl⟩ P) (Nat.le_add_right _ _) (Nat.le_add_right _ _)
    · intro K hK
      simp only [List.mem_cons, Prod.mk.injEq, List.not_mem_nil, or_false] at hK
      omega
    · intro K hK
      simp only [List.mem_cons, Prod.mk.injEq, List.not_mem_nil, or_false] at hK
      exact ⟨a, by omega, ea⟩
    · intro K hK
      simp only [List.mem_cons, Prod.mk.injEq, List.not_mem_nil, or_false] at hK
      exact ⟨b, by omega, eb⟩
    · rw [rw1_ne _ _ (show 131 ≠ 133 by decide), rw1_ne _ _ (show 131 ≠ 132 by decide), h131, up2_row (show 39 ≠ 38 by decide), up2_row (show 39 ≠ 37 by decide), up2_r]
    · rw [rw1_ne _ _ (show 132 ≠ 133 by decide), rw1_at, h131]
      exact relD_wind hk1 hk (by rw [up2_row (show 39 ≠ 38 by decide), up2_row (show 39 ≠ 37 by decide), up2_r]) (by rw [up2_row (show 37 ≠ 38 by decide), up2_r, up2_row (show 37 ≠ 39 by decide)]) P.1.2.2.2.1
    · rw [rw1_at, h131]
      exact relD_wind hk1 hk (by rw [up2_row (show 39 ≠ 38 by decide), up2_row (show 39 ≠ 37 by decide), up2_r]) (by rw [up2_r, up2_row (show 38 ≠ 37 by decide), up2_row (show 38 ≠ 39 by decide)]) P.1.2.2.2.2
  · rw [if_neg q, zb_f q] at k1
    have k2 := e_X12_wind E (d := 100) (by decide) t y s H G M N
    rw [if_neg q, if_neg q, isM_hm I] at k2
    exact cal_0 ⟨M, N, w, g, m, n, p, L, G, I, P⟩ k1 k2
