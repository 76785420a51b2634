/-! ===== the calls: terms, a text without fault ===== -/
theorem cal_tm_ok (E : gE) {H : hp_T} {M : mM} {N : mN} {w g m n p L a c wt b j : Nat} {t : Int32} {tx : Nat → Nat} (G : gr H) (I : isM9 H M N) (P : Pc H M w g m n p L) (hq : M 0 2 = nI a ∧ M 0 37 = nI c ∧ M 0 39 = nI wt ∧ M 0 41 = nI b) (hT : isTm t n) (h4 : trmY rdS L H 4 = rd0 H 4) (T : txM M tx L) (S : stI9 (rdR M L (pQ M a c wt b)).1 tx L j (trmY rdS L H) (rdR M L (pQ M a c wt b)).2) : cal9 E mX11_terms mX12_terms [.int t] H := by
  obtain ⟨o, ho, et⟩ := int_n (c := t) (b := 8) (K := 8) rfl (by omega) hT.1
  subst et
  obtain ⟨⟨a1, a2, hL6⟩, e4, hT1, -⟩ := P.2.2.2.1.1
  obtain ⟨⟨n1, n2, hn⟩, -⟩ := P.2.2.1.1
  have k1 := e_X11_terms E (d := 100) (by decide) (nI o) H G (txI_rR P.2.2.2.1.1) n1 hn
  unfold trmV trmR at k1
  rw [if_pos hT, if_pos hT] at k1
  generalize trmY rdS L H = Y at k1 h4 S
  obtain ⟨⟨C, h0, z1⟩, IJ, ⟨d1, d2, d3, -⟩, ⟨z3, m25, hj⟩, ⟨hB, z2⟩, K⟩ := S
  rw [if_pos z1, if_pos z1] at k1
  have T2 : txM (rdR M L (pQ M a c wt b)).1 tx L := ⟨T.1, fun i hi => by rw [(rdR_T hL6).1 1 (by decide) (by decide)]; exact T.2 i hi⟩
  have hc6 : (rdR M L (pQ M a c wt b)).2.2.2.2.2.1 ≤ 600 := Nat.le_trans d2 (cnt_600 T2 C)
  have hc : Y 0 4 = nI (rdR M L (pQ M a c wt b)).2.2.2.2.2.1 := d1
  obtain ⟨F, eh, es⟩ := rdH_ob G z3 hj hc hc6
  obtain ⟨l1, l2, l3⟩ := lo_rd G Y
  have gR : gr (rdH H Y) := gr_lo l1 (by rw [l2]; have := G.1; omega) G
  generalize rdH H Y = hR at k1 F eh es l1 l2 l3 gR
  have G1 : gr (trmG (trm0 hR) (nI o) n (hp_n H)) := gr_r162 (gr_r162 gR)
  have hrow : ∀ x, ¬ (x = 150 ∨ x = 158 ∨ x = 159 ∨ x = 163 ∨ x = 164) → hp_i (trmG (trm0 hR) (nI o) n (hp_n H)) x = hp_i hR x := fun x hx => by
    rw [trmG_i, up2_row (show x ≠ 159 by omega), up2_row (show x ≠ 164 by omega), up2_row (show x ≠ 163 by omega), up2_row (show x ≠ 158 by omega), trm0_i, up2_row (show x ≠ 150 by omega)]
  have h150 : hp_i (trmG (trm0 hR) (nI o) n (hp_n H)) 150 = up2 (hp_i hR) 150 0 0 150 := by
    rw [trmG_i, up2_row (show 150 ≠ 159 by decide), up2_row (show 150 ≠ 164 by decide), up2_row (show 150 ≠ 163 by decide), up2_row (show 150 ≠ 158 by decide), trm0_i]
  have hlow : ∀ x, x < 333 → ¬ (150 ≤ x ∧ x < 158) → hp_i hR x = hp_i H x := fun x hx h2 => (l1 x hx).2.2.1.trans (hb_out H Y (by omega))
  have hY : ∀ k, k < 8 → hp_i hR (150 + k) = Y k := fun k hk => (l1 (150 + k) (by omega)).2.2.1.trans (hb_in H Y hk)
  have hrr : ∀ x, x ≠ 162 → hp_r (trmG (trm0 hR) (nI o) n (hp_n H)) x = hp_r hR x := fun x hx => by
    rw [trmG_r, hp_upne hx, hp_upne hx]
    rfl
  have I1 : isM9 (trmG (trm0 hR) (nI o) n (hp_n H)) M N := isM_fr (fun x hx hx2 => (hrow x (by omega)).trans (hlow x hx2 (by omega))) (fun x hx hx2 => (l1 x hx2).2.2.2.1) I
  have k2 := e_X12_terms E (d := 100) (by decide) (nI o) hL6 (trmG (trm0 hR) (nI o) n (hp_n H)) G1 M N (pQ M a c wt b) a2 hT1 n2 hn
  have hM25 : rdM M L (pQ M a c wt b) 25 0 = nI j := (congrFun (rdM_x (r := 25) (by decide) (by decide) (by decide)) 0).trans m25
  rw [mte_yes hT, if_pos h0, pM_id hq, hM25, nI_clamp (by omega)] at k2
  dsimp only at k2
  obtain ⟨o1, o2, o3⟩ := rdM_old (M := M) (L := L) (a := a) (c := c) (w := wt) (b := b) hL6
  obtain ⟨p1, ⟨p2, p3⟩, ⟨p4, p5⟩, p6, p7⟩ := mcp_at (a := n + 1) (p := j) (c := (rdR M L (pQ M a c wt b)).2.2.2.2.2.1) (macT (rdM M L (pQ M a c wt b)) n 1 (nI o) 0 0) (by omega) hj (by omega)
  generalize mcpS (n + 1) j (rdR M L (pQ M a c wt b)).2.2.2.2.2.1 (macT (rdM M L (pQ M a c wt b)) n 1 (nI o) 0 0) = M1 at k2 p1 p2 p3 p4 p5 p6 p7
  have mrow : ∀ r, 25 ≤ r → r ≤ 29 → macT (rdM M L (pQ M a c wt b)) n 1 (nI o) 0 0 r = rdM M L (pQ M a c wt b) r := fun r h1 h2 => mac_row (by omega) (by omega)
  have m0 : ∀ k, k ≠ 62 → M1 0 k = rdM M L (pQ M a c wt b) 0 k := fun k hk => (congrFun (p1 0 (by decide)) k).trans (macT_0 hk)
  have mx : ∀ r, r ≠ 0 → ¬ (25 ≤ r ∧ r ≤ 29) → ¬ (47 ≤ r ∧ r ≤ 51) → M1 r = rdM M L (pQ M a c wt b) r := fun r h1 h2 h3 => (p1 r h2).trans (mac_row h1 h3)
  refine cal_1 k1 I1 k2 G1 (Pc_T (n1 := n + 1) (L1 := 0) ?_ ?_ ?_ (fun x hx hx2 => (hrow x (by omega)).trans (hlow x (by omega) (by omega))) (fun r h0 h1 h2 => (mx r h0 (by omega) h2).trans (rdM_r hL6 h0 h1)) (fun k hk => (m0 k (by omega)).trans (rdM_k hL6 (by omega) (by omega) (by omega) (by omega) (by omega))) P) (Nat.le_of_eq l2) es
  · have r1 : rA (hp_i (trm0 hR)) (rdM M L (pQ M a c wt b)) w g n := rA_fr (fun x hx => by rw [trm0_i, up2_row (show x ≠ 150 by omega)]; exact hlow x (by omega) (by omega)) ⟨rdM_k (k := 62) hL6 (by decide) (by decide) (by decide) (by decide) (by decide), rdM_k (k := 68) hL6 (by decide) (by decide) (by decide) (by decide) (by decide)⟩ (fun x hx => rdM_r hL6 (by omega) (by omega)) P.2.2.1.1
    exact rA_fr (F := hp_i (trmG (trm0 hR) (nI o) n (hp_n H))) (fun _ _ => rfl) ⟨congrFun (p1 0 (by decide)) 62, congrFun (p1 0 (by decide)) 68⟩ (fun x hx => p1 x (by omega)) (rA_terms hT.2 ho r1)
  · intro x h1 h2 h3
    by_cases e : x = n + 1
    · subst e
      have F1 : obF (trmG (trm0 hR) (nI o) n (hp_n H)) (hp_n H) j (rdR M L (pQ M a c wt b)).2.2.2.2.2.1 Y := obF_fr (h := hR) (fun y hy => by
        have := G.1
        exact ⟨hrow y (by omega), hrr y (by omega)⟩) rfl rfl F
      obtain ⟨t1, t2, t3, t4⟩ := obF_ok F1 G.1 hj hc6 K d3
      refine ⟨hp_n H, j, G.1, ?_, F1.1, t1, F1.2.1.1, ⟨hj, ?_, fun i hi => ?_⟩, ?_, ?_, ?_, ?_, F1.2.2.1⟩
      · rw [trmG_r, up2_s]
      · rw [p2, mrow 25 (by decide) (by decide)]
        exact hM25
      · rw [t2, t3, t4]
        refine ob_st (cs := (rdR M L (pQ M a c wt b)).2.2.2.2.2.2.2.2.2.1) hc6 hj hi (K i hi) d3 ?_ ?_ ?_ (fun k hk => ?_)
        · rw [p5 26 (by decide) i hi, mrow 26 (by decide) (by decide), rdM_x (by decide) (by decide) (by decide)]
        · rw [p5 27 (by decide) i hi, mrow 27 (by decide) (by decide), rdM_x (by decide) (by decide) (by decide)]
        · rw [p5 28 (by decide) i hi, mrow 28 (by decide) (by decide), rdM_x (by decide) (by decide) (by decide)]
        · rw [p7 k hk, mrow 29 (by decide) (by decide), rdM_29]
      · rw [t3]
        exact F1.2.1.2.1
      · rw [t3]
        exact F1.2.1.2.2.1
      · rw [t3]
        exact F1.2.1.2.2.2
      · show hp_n H + 3 < hp_n hR
        omega
    · have B : rT (trmG (trm0 hR) (nI o) n (hp_n H)) M1 n := by
        refine rT_old (h := H) (M := M) (fun y hy hy2 => ?_) ?_ (fun y hy => ?_) (fun y hy => ?_) (fun y hy hy2 => ?_) (fun r hr i hi hi2 => ?_) (fun i hi hi2 => ?_) P.2.2.1.2
        · obtain ⟨q1, q2, q3, q4⟩ := eh y hy hy2
          exact ⟨(hrow y (by omega)).trans q1, (hrr y (by omega)).trans q2, q3, q4⟩
        · show hp_n H ≤ hp_n hR
          omega
        · rw [trmG_r, up2_k _ _ (show y ≠ n + 1 by omega), up2_k _ _ (show y ≠ n + 1 by omega)]
          exact congrFun (l1 162 (by decide)).2.2.2.2 y
        · rw [p1 47 (by decide), mac_lo (by decide) hy]
          exact congrFun (rdM_r (r := 47) hL6 (by decide) (by decide)) y
        · rw [p3 y (by omega), mrow 25 (by decide) (by decide)]
          exact o1 y hy
        · rw [p4 r hr i hi2, mrow r (by omega) (by omega)]
          exact o2 r hr i hi
        · rw [p6 i hi2, mrow 29 (by decide) (by decide)]
          exact o3 i hi
      exact B x h1 (by omega) h3
  · have r1 : rRV (hp_i (trmG (trm0 hR) (nI o) n (hp_n H))) (rdM M L (pQ M a c wt b)) 0 := by
      refine rRV_rd (F := hp_i H) hL6 ?_ ?_ ?_ ?_ P.2.2.2.1
      · rw [h150, up2_s]
      · rw [h150, up2_k _ _ (show 1 ≠ 0 by decide)]
        exact (congrFun (hY 0 (by decide)) 1).trans (z1.trans h0.symm)
      · rw [h150, up2_k _ _ (show 2 ≠ 0 by decide)]
        exact (congrFun (hY 0 (by decide)) 2).trans (z2.trans (hB h0).symm)
      · exact (hrow 154 (by decide)).trans ((hY 4 (by decide)).trans h4)
    exact rRV_fr ⟨rfl, rfl⟩ (fun k hk => m0 k (by omega)) (fun r h1 h2 => mx r (by omega) (by omega) (by omega)) r1
/-- terms -/
theorem cal_terms (E : gE) {H : hp_T} (R : rel9 H) (t : Int32) : cal9 E mX11_terms mX12_terms [.int t] H := by
  obtain ⟨M, N, w, g, m, n, p, L, G, I, P⟩ := R
  obtain ⟨⟨a1, a2, hL6⟩, e4, hT1, -, a, c, wt, b, hq⟩ := id P.2.2.2.1.1
  obtain ⟨⟨n1, n2, hn⟩, -⟩ := id P.2.2.1.1
  by_cases hT : isTm t n
  · obtain ⟨⟨h4, hz⟩, T⟩ := rd_at P.2.2.2.1 (pQ M a c wt b)
    rcases hz with ⟨j, S⟩ | st
    · exact cal_tm_ok E G I P hq hT h4 T S
    · exact cal_tm_bad E G I P hq hT h4 st
  · have k1 := e_X11_terms E (d := 100) (by decide) t H G (txI_rR P.2.2.2.1.1) n1 hn
    unfold trmV trmR at k1
    rw [if_neg hT, if_neg hT] at k1
    have I1 : isM9 (trm0 H) M N := isM_up (by decide) I
    have k2 := e_X12_terms E (d := 100) (by decide) t hL6 (trm0 H) G M N (pQ M a c wt b) a2 hT1 n2 hn
    rw [mte_no hn hT, pM_id hq] at k2
    exact cal_1 k1 I1 k2 G (Pc_R (H := H) (rR_end (K := 0) (Nat.zero_le _) P.2.2.2.1.1) (fun x hx => set_row (by omega)) (fun r h0 h1 => up2_row h0) (fun k hk h1 => up2_k _ _ h1) rfl ⟨rfl, rfl⟩ P) (Nat.le_add_right _ _) (Nat.le_add_right _ _)
