/-! ===== the parsers agree: every statement ===== -/
theorem stB_s {M : mM} {L j : Nat} {sv : Int32} {q : pS} (h1 : ¬ sv = -1) (h5 : ¬ sv = 5) (h3 : 3 ≤ sv) : stB M L j sv q = stC (up2 M 26 j sv) L j (-1) (sumS (up2 M 26 j sv) L q) := by
  obtain ⟨aT, eN, bD, bP, cD, wT, oP, bS, cS, wS⟩ := q
  exact (if_neg h1).trans ((if_neg h5).trans (if_pos h3))
theorem stB_t {M : mM} {L j : Nat} {sv : Int32} {q : pS} (h1 : ¬ sv = -1) (h5 : ¬ sv = 5) (h3 : ¬ 3 ≤ sv) : stB M L j sv q = stC (up2 M 26 j sv) L j (-1) (tesS (up2 M 26 j sv) L q) := by
  obtain ⟨aT, eN, bD, bP, cD, wT, oP, bS, cS, wS⟩ := q
  exact (if_neg h1).trans ((if_neg h5).trans (if_neg h3))
theorem stB_x {M : mM} {L j : Nat} {sv : Int32} {q : pS} (h : sv = -1) : stB M L j sv q = stC (up2 M 26 j sv) L j (-1) (flS9 q 1 (nI q.1)) := by
  obtain ⟨aT, eN, bD, bP, cD, wT, oP, bS, cS, wS⟩ := q
  exact if_pos h
theorem bI_1 {b : Bool} (h : b = true) : ¬ bI b = 0 := by
  rw [h]
  decide
theorem bI_0 {b : Bool} (h : b = false) : bI b = 0 := by
  rw [h]
  rfl
/-- BESIDE: the word behind it -/
theorem stB_b {M : mM} {L j : Nat} {sv : Int32} {q : pS} (hm : ¬ sv = -1) (hv : sv = 5) : (hrQ (up2 M 26 j sv) L q 5 (up2 M 26 j sv 8) = true → stB M L j sv q = stC (up2 M 26 j sv) L j 0 (tkS9 (up2 M 26 j sv) L q 5 (up2 M 26 j sv 8))) ∧ (hrQ (up2 M 26 j sv) L q 5 (up2 M 26 j sv 8) = false → (hrQ (up2 M 26 j sv) L (skb (up2 M 26 j sv) L q.1, q.2) 5 (up2 M 26 j sv 9) = true → stB M L j sv q = stC (up2 M 26 j sv) L j 1 (tkS9 (up2 M 26 j sv) L (skb (up2 M 26 j sv) L q.1, q.2) 5 (up2 M 26 j sv 9))) ∧ (hrQ (up2 M 26 j sv) L (skb (up2 M 26 j sv) L q.1, q.2) 5 (up2 M 26 j sv 9) = false → (hrQ (up2 M 26 j sv) L (skb (up2 M 26 j sv) L q.1, q.2) 5 (up2 M 26 j sv 10) = true → stB M L j sv q = stC (up2 M 26 j sv) L j 2 (tkS9 (up2 M 26 j sv) L (skb (up2 M 26 j sv) L q.1, q.2) 5 (up2 M 26 j sv 10))) ∧ (hrQ (up2 M 26 j sv) L (skb (up2 M 26 j sv) L q.1, q.2) 5 (up2 M 26 j sv 10) = false → stB M L j sv q = stC (up2 M 26 j sv) L j (-1) (flS9 (skb (up2 M 26 j sv) L q.1, q.2) 1 (nI (skb (up2 M 26 j sv) L q.1)))))) := by
  obtain ⟨aT, eN, bD, bP, cD, wT, oP, bS, cS, wS⟩ := q
  refine ⟨fun h => ?_, fun h => ⟨fun h2 => ?_, fun h2 => ⟨fun h3 => ?_, fun h3 => ?_⟩⟩⟩
  · exact (if_neg hm).trans ((if_pos hv).trans (if_neg (bI_1 h)))
  · exact (if_neg hm).trans ((if_pos hv).trans ((if_pos (bI_0 h)).trans (if_neg (bI_1 h2))))
  · exact (if_neg hm).trans ((if_pos hv).trans ((if_pos (bI_0 h)).trans ((if_pos (bI_0 h2)).trans (if_neg (bI_1 h3)))))
  · exact (if_neg hm).trans ((if_pos hv).trans ((if_pos (bI_0 h)).trans ((if_pos (bI_0 h2)).trans (if_pos (bI_0 h3)))))
/-- the six words of a statement -/
theorem stA_at {M : mM} {tx : Nat → Nat} {L j : Nat} {Z : rZ} {q : pS} (T : txM M tx L) (R : rV M) (C : cur9 M tx L Z q) (h0 : q.2.2.1 = 0) : (∀ t, t ≤ 5 → rtok Z = nI (14 + t) → stA M L j q = stB M L j (nI t) (wkQ M L (14 + t) q)) ∧ ((∀ t, t ≤ 5 → ¬ rtok Z = nI (14 + t)) → stA M L j q = stB M L j (-1) q) := by
  have a0 := hqW (k := 14) (l := 5) (r := 2) T R C h0 (by decide) rfl rfl
  have a1 := hqW (k := 15) (l := 4) (r := 3) T R C h0 (by decide) rfl rfl
  have a2 := hqW (k := 16) (l := 4) (r := 4) T R C h0 (by decide) rfl rfl
  have a3 := hqW (k := 17) (l := 3) (r := 5) T R C h0 (by decide) rfl rfl
  have a4 := hqW (k := 18) (l := 7) (r := 6) T R C h0 (by decide) rfl rfl
  have a5 := hqW (k := 19) (l := 6) (r := 7) T R C h0 (by decide) rfl rfl
  obtain ⟨aT, eN, bD, bP, cD, wT, oP, bS, cS, wS⟩ := q
  have no : ∀ a b : Nat, a < 256 → b < 256 → a ≠ b → rtok Z = nI a → ¬ rtok Z = nI b := fun a b ha hb hab h z => hab (nI_inj (by omega) (by omega) (h.symm.trans z))
  refine ⟨fun t ht h => ?_, fun hn => ?_⟩
  · rcases (show t = 0 ∨ t = 1 ∨ t = 2 ∨ t = 3 ∨ t = 4 ∨ t = 5 by omega) with e | e | e | e | e | e
    · subst e
      exact (if_neg (bI_1 (a0.1 h).1)).trans (congrArg (stB M L j 0) (a0.1 h).2)
    · subst e
      exact (if_pos (bI_0 (a0.2 (no 15 14 (by decide) (by decide) (by decide) h)))).trans ((if_neg (bI_1 (a1.1 h).1)).trans (congrArg (stB M L j 1) (a1.1 h).2))
    · subst e
      exact (if_pos (bI_0 (a0.2 (no 16 14 (by decide) (by decide) (by decide) h)))).trans ((if_pos (bI_0 (a1.2 (no 16 15 (by decide) (by decide) (by decide) h)))).trans ((if_neg (bI_1 (a2.1 h).1)).trans (congrArg (stB M L j 2) (a2.1 h).2)))
    · subst e
      exact (if_pos (bI_0 (a0.2 (no 17 14 (by decide) (by decide) (by decide) h)))).trans ((if_pos (bI_0 (a1.2 (no 17 15 (by decide) (by decide) (by decide) h)))).trans ((if_pos (bI_0 (a2.2 (no 17 16 (by decide) (by decide) (by decide) h)))).trans ((if_neg (bI_1 (a3.1 h).1)).trans (congrArg (stB M L j 3) (a3.1 h).2))))
    · subst e
      exact (if_pos (bI_0 (a0.2 (no 18 14 (by decide) (by decide) (by decide) h)))).trans ((if_pos (bI_0 (a1.2 (no 18 15 (by decide) (by decide) (by decide) h)))).trans ((if_pos (bI_0 (a2.2 (no 18 16 (by decide) (by decide) (by decide) h)))).trans ((if_pos (bI_0 (a3.2 (no 18 17 (by decide) (by decide) (by decide) h)))).trans ((if_neg (bI_1 (a4.1 h).1)).trans (congrArg (stB M L j 4) (a4.1 h).2)))))
    · subst e
      exact (if_pos (bI_0 (a0.2 (no 19 14 (by decide) (by decide) (by decide) h)))).trans ((if_pos (bI_0 (a1.2 (no 19 15 (by decide) (by decide) (by decide) h)))).trans ((if_pos (bI_0 (a2.2 (no 19 16 (by decide) (by decide) (by decide) h)))).trans ((if_pos (bI_0 (a3.2 (no 19 17 (by decide) (by decide) (by decide) h)))).trans ((if_pos (bI_0 (a4.2 (no 19 18 (by decide) (by decide) (by decide) h)))).trans ((if_neg (bI_1 (a5.1 h).1)).trans (congrArg (stB M L j 5) (a5.1 h).2))))))
  · exact (if_pos (bI_0 (a0.2 (hn 0 (by decide))))).trans ((if_pos (bI_0 (a1.2 (hn 1 (by decide))))).trans ((if_pos (bI_0 (a2.2 (hn 2 (by decide))))).trans ((if_pos (bI_0 (a3.2 (hn 3 (by decide))))).trans ((if_pos (bI_0 (a4.2 (hn 4 (by decide))))).trans (if_pos (bI_0 (a5.2 (hn 5 (by decide)))))))))
/-- where a statement stops at once -/
theorem st_bad {M : mM} {tx : Nat → Nat} {L j : Nat} {wh : Int32} {Z Y : rZ} {q : pS} (h4 : Y 4 = Z 4) (st : stp9 q Y) : stO9 (stC M L j wh q).1 tx L j Z Y (stC M L j wh q).2 := by
  by_cases h : M 26 j = 5
  · rw [stC_5 h, ag_x st.1]
    exact ⟨h4, Or.inr st⟩
  · rw [stC_n h, ag_x st.1]
    exact ⟨h4, Or.inr st⟩
theorem stp_fl {q : pS} {k p : Int32} {Y : rZ} {p2 : Int32} (h0 : q.2.2.1 = 0) (hk : ¬ k = 0) (hp : p2 = p) : stp9 (flS9 q k p) (rref Y k p2) := by
  rw [fl_0 h0, hp]
  exact ⟨hk, (rref_at (Z := Y) (k := k) (p := p)).1, (rref_at (Z := Y) (k := k) (p := p)).2⟩
theorem rref_4 {Y : rZ} {k p : Int32} : rref Y k p 4 = Y 4 := by
  unfold rref
  rw [up2_row (by decide), up2_row (by decide)]
theorem st_at {M : mM} {tx : Nat → Nat} {L j d0 d2 : Nat} {Z : rZ} {q : pS} {R0 R2 : rZ → Bool × rZ} (T : txM M tx L) (R : rV M) (S : stI9 M tx L j Z q) (H0 : ∀ M', txM M' tx L → rV M' → orH M' tx L 0 R0) (H2 : ∀ M', txM M' tx L → rV M' → sumH M' tx L 0 R2) (Ty0 : tyP R0 d0 true) (Ty2 : tyP R2 d2 false) (hd0 : d0 ≤ 64) (hd2 : d2 ≤ 64) : stO9 (staS9 M L j q).1 tx L j Z (staS R0 R2 Z).2 (staS9 M L j q).2 := by
  obtain ⟨⟨C, h0, z1⟩, IJ, D, ⟨z3, m25, hj⟩, ⟨hB, z2⟩, K⟩ := S
  obtain ⟨aT, eN, bD, bP, cD, wT, oP, bS, cS, wS⟩ := q
  by_cases h24 : j = 24
  · rw [show staS9 M L j (aT, eN, bD, bP, cD, wT, oP, bS, cS, wS) = (M, flS9 (skb M L aT, eN, bD, bP, cD, wT, oP, bS, cS, wS) 4 (nI (skb M L aT))) from if_pos (by rw [h24]; rfl), show staS R0 R2 Z = (false, rref Z 4 (rher Z)) from if_pos (by rw [z3, h24]; decide)]
    exact ⟨rref_4 (Y := Z) (k := 4) (p := rher Z), Or.inr (stp_fl h0 (by decide) (cur_at T C).1.2.1)⟩
  · have hj24 : j < 24 := by omega
    have n24 : ¬ (24 : Int32) ≤ Z 0 3 := by
      rw [z3, show (24 : Int32) = nI 24 from rfl, nI_leq (by omega) (by omega)]
      omega
    rw [show staS9 M L j (aT, eN, bD, bP, cD, wT, oP, bS, cS, wS) = stA (up2 M 27 j (nI cD)) L j (skb M L aT, eN, bD, bP, cD, 0, 0, 0, cS, wS) from if_neg (nI_ne (b := 24) (by omega) (by decide) h24)]
    have T1 : txM (up2 M 27 j (nI cD)) tx L := txM_u (by decide) T
    have R1 : rV (up2 M 27 j (nI cD)) := rV_u (by decide) R
    have C0 : cur9 M tx L Z (skb M L aT, eN, bD, bP, cD, 0, 0, 0, cS, wS) := cur_sk T C rfl rfl
    have C1 : cur9 (up2 M 27 j (nI cD)) tx L Z (skb M L aT, eN, bD, bP, cD, 0, 0, 0, cS, wS) := C0
    have hle := (skb_le (M := M) (L := L) (a := aT)).1
    have k1 := (sk_pl T C.2.2).2.1
    obtain ⟨d1, dd2, d3, d4⟩ := D
    have I1 : prI (up2 M 27 j (nI cD)) tx L Z (skb M L aT, eN, bD, bP, cD, 0, 0, 0, cS, wS) 0 := ⟨C1, ⟨h0, z1⟩, ⟨C1.2.2.1, by have := IJ.2; show cD + 0 ≤ skb M L aT + 2; exact Nat.le_trans this (by show aT + 2 ≤ _; omega)⟩, rfl, Nat.zero_le _⟩
    have D1 : cdI tx L Z (skb M L aT, eN, bD, bP, cD, 0, 0, 0, cS, wS) [] := ⟨d1, by show cD + 0 ≤ cnt tx L (skb M L aT); rw [k1]; exact dd2, d3, d4⟩
    obtain ⟨w1, w2⟩ := stA_at (j := j) T1 R1 C1 h0
    obtain ⟨tk, tk2, tke⟩ := rt_nat T C
    have hh := (cur_at T C).1.2.1
    by_cases hw : 14 ≤ tk ∧ tk ≤ 19
    · obtain ⟨t, et⟩ : ∃ t, tk = 14 + t := ⟨tk - 14, by omega⟩
      subst et
      have hin : 14 ≤ rtok Z ∧ rtok Z ≤ 19 := by
        rw [tke]
        exact ⟨(nI_leq (a := 14) (by omega) (by omega)).mpr (by omega), (nI_leq (b := 19) (by omega) (by omega)).mpr (by omega)⟩
      rw [w1 t (by omega) tke]
      have C2 := wk_cur T1 R1 C1 h0 (show 14 + t < 23 by omega) tke
      obtain ⟨I2, D2, -, -⟩ := adv_pr T1 I1 D1 C2 rfl
      by_cases h5 : t = 5
      · subst h5
        have h19 : rtok Z = 19 := tke
        have T2 : txM (up2 (up2 M 27 j (nI cD)) 26 j 5) tx L := txM_u (by decide) T1
        have R2v : rV (up2 (up2 M 27 j (nI cD)) 26 j 5) := rV_u (by decide) R1
        have b0 : (wkQ (up2 M 27 j (nI cD)) L (14 + 5) (skb M L aT, eN, bD, bP, cD, 0, 0, 0, cS, wS)).2.2.1 = 0 := h0
        have bB : gB (wkQ (up2 M 27 j (nI cD)) L (14 + 5) (skb M L aT, eN, bD, bP, cD, 0, 0, 0, cS, wS)) := hB
        have bl : (wkQ (up2 M 27 j (nI cD)) L (14 + 5) (skb M L aT, eN, bD, bP, cD, 0, 0, 0, cS, wS)).2.2.2.2.1 = cD := rfl
        show stO9 (stB (up2 M 27 j (nI cD)) L j 5 _).1 tx L j Z _ (stB (up2 M 27 j (nI cD)) L j 5 _).2
        rw [show staS R0 R2 Z = (if ¬ (20 ≤ rtok (staB Z (rtok (rnxt Z))) ∧ rtok (staB Z (rtok (rnxt Z))) ≤ 22) then (false, rref (staB Z (rtok (rnxt Z))) 1 (rher (staB Z (rtok (rnxt Z))))) else rpas (rnxt (staB Z (rtok (rnxt Z)))) 59) from (if_neg n24).trans ((if_neg (not_not_intro hin)).trans (if_neg (not_not_intro h19)))]
        generalize wkQ (up2 M 27 j (nI cD)) L (14 + 5) (skb M L aT, eN, bD, bP, cD, 0, 0, 0, cS, wS) = q2 at C2 I2 D2 b0 bB bl ⊢
        have CW : ∀ w, cur9 (up2 (up2 M 27 j (nI cD)) 26 j 5) tx L (staB Z w) q2 := fun w => cur_sB (M := up2 M 27 j (nI cD)) C2
        have CS : ∀ w, cur9 (up2 (up2 M 27 j (nI cD)) 26 j 5) tx L (staB Z w) (skb (up2 (up2 M 27 j (nI cD)) 26 j 5) L q2.1, q2.2) := fun w => cur_sk T2 (CW w) rfl rfl
        have er : ∀ w, rtok (staB Z w) = rtok (rnxt Z) := fun w => (cur_at T2 (CW w)).1.1.trans (cur_at (M := up2 (up2 M 27 j (nI cD)) 26 j 5) T2 C2).1.1.symm
        rw [er]
        obtain ⟨s1, s2⟩ := stB_b (M := up2 M 27 j (nI cD)) (L := L) (j := j) (sv := 5) (q := q2) (by decide) rfl
        have g0 := hqW (k := 20) (l := 5) (r := 8) T2 R2v (CW (rtok (rnxt Z))) b0 (by decide) rfl rfl
        have g1 := hqW (k := 21) (l := 5) (r := 9) T2 R2v (CS (rtok (rnxt Z))) b0 (by decide) rfl rfl
        have g2 := hqW (k := 22) (l := 5) (r := 10) T2 R2v (CS (rtok (rnxt Z))) b0 (by decide) rfl rfl
        rw [er] at g0 g1 g2
        have fin : ∀ (e : Nat) (q3 : pS), e ≤ 2 → rtok (rnxt Z) = nI (20 + e) → cur9 (up2 (up2 M 27 j (nI cD)) 26 j 5) tx L (rnxt (staB Z (nI (20 + e)))) q3 → q3.2.2 = q2.2.2 → stO9 (stC (up2 (up2 M 27 j (nI cD)) 26 j 5) L j (nI e) q3).1 tx L j Z (if ¬ (20 ≤ rtok (rnxt Z) ∧ rtok (rnxt Z) ≤ 22) then (false, rref (staB Z (rtok (rnxt Z))) 1 (rher (staB Z (rtok (rnxt Z))))) else rpas (rnxt (staB Z (rtok (rnxt Z)))) 59).2 (stC (up2 (up2 M 27 j (nI cD)) 26 j 5) L j (nI e) q3).2 := fun e q3 he h C3 e3 => by
          rw [if_neg (not_not_intro (show 20 ≤ rtok (rnxt Z) ∧ rtok (rnxt Z) ≤ 22 by
            rw [h]
            exact ⟨(nI_leq (a := 20) (by omega) (by omega)).mpr (by omega), (nI_leq (b := 22) (by omega) (by omega)).mpr (by omega)⟩)), h]
          obtain ⟨I4, D4⟩ := prI_sB (w := nI (20 + e)) I2 D2
          exact st_bes rfl T2 he hj24 z3 ((show Z 0 4 = nI (cD + 0) from d1)) z2 K I4 D4 bl bB C3 e3
        by_cases c0 : rtok (rnxt Z) = nI 20
        · rw [s1 (g0.1 c0).1, (g0.1 c0).2]
          refine fin 0 _ (by decide) c0 (wk_cur T2 R2v (CW _) b0 (show 20 < 23 by decide) ((er _).trans c0)) rfl
        · by_cases c1 : rtok (rnxt Z) = nI 21
          · rw [(s2 (g0.2 c0)).1 (g1.1 c1).1, (g1.1 c1).2]
            exact fin 1 _ (by decide) c1 (wk_cur T2 R2v (CS _) b0 (show 21 < 23 by decide) ((er _).trans c1)) rfl
          · by_cases c2 : rtok (rnxt Z) = nI 22
            · rw [((s2 (g0.2 c0)).2 (g1.2 c1)).1 (g2.1 c2).1, (g2.1 c2).2]
              exact fin 2 _ (by decide) c2 (wk_cur T2 R2v (CS _) b0 (show 22 < 23 by decide) ((er _).trans c2)) rfl
            · rw [((s2 (g0.2 c0)).2 (g1.2 c1)).2 (g2.2 c2)]
              obtain ⟨t3, t4, t5⟩ := rt_nat T2 (CW (rtok (rnxt Z)))
              rw [er] at t5
              rw [if_pos (show ¬ (20 ≤ rtok (rnxt Z) ∧ rtok (rnxt Z) ≤ 22) from fun z => by
                rw [t5] at z
                have y1 := (nI_leq (a := 20) (by omega) (by omega)).mp z.1
                have y2 := (nI_leq (b := 22) (by omega) (by omega)).mp z.2
                rcases (show t3 = 20 ∨ t3 = 21 ∨ t3 = 22 by omega) with e | e | e
                · exact c0 (by rw [t5, e])
                · exact c1 (by rw [t5, e])
                · exact c2 (by rw [t5, e]))]
              exact st_bad ((rref_4 (Y := staB Z (rtok (rnxt Z))) (k := 1) (p := rher (staB Z (rtok (rnxt Z))))).trans (sB_r (by decide) (by decide) (by decide))) (stp_fl b0 (by decide) (cur_at T2 (CW _)).1.2.1)
      · have ht4 : t ≤ 4 := by omega
        have n19 : ¬ rtok Z = 19 := by
          rw [tke]
          exact nI_ne (b := 19) (by omega) (by decide) (by omega)
        have T2 : txM (up2 (up2 M 27 j (nI cD)) 26 j (nI t)) tx L := txM_u (by decide) T1
        have R2v : rV (up2 (up2 M 27 j (nI cD)) 26 j (nI t)) := rV_u (by decide) R1
        have m1 : ¬ nI t = -1 := fun z => by
          have h := congrArg Int32.toInt z
          rw [nI_toInt (by omega), show (-1 : Int32).toInt = -1 from by decide] at h
          omega
        have m5 : ¬ nI t = 5 := nI_ne (b := 5) (by omega) (by decide) (by omega)
        rw [show staS R0 R2 Z = rbd ((if rtok Z = 17 ∨ rtok Z = 18 then R2 else R0) (staB Z (rtok Z))) (fun Y => rpas Y 59) from (if_neg n24).trans ((if_neg (not_not_intro hin)).trans (if_pos n19)), tke]
        obtain ⟨I4, D4⟩ := prI_sB (w := nI (14 + t)) I2 D2
        have hBq : gB (wkQ (up2 M 27 j (nI cD)) L (14 + t) (skb M L aT, eN, bD, bP, cD, 0, 0, 0, cS, wS)) := hB
        by_cases h3 : t < 3
        · rw [stB_t m1 m5 (fun z => absurd ((nI_leq (a := 3) (by omega) (by omega)).mp z) (by omega)), if_neg (show ¬ (nI (14 + t) = 17 ∨ nI (14 + t) = 18) from fun z => by
            rcases z with z | z
            · exact nI_ne (b := 17) (by omega) (by decide) (by omega) z
            · exact nI_ne (b := 18) (by omega) (by decide) (by omega) z)]
          exact st_row rfl T2 ht4 hj24 z3 (show Z 0 4 = nI (cD + 0) from d1) z2 K I4 D4 rfl (gB_tes hBq) (tesS_at T2 R2v (H0 _ T2 R2v) I4 D4 rfl) (by rw [decide_eq_true h3]; exact Ty0) hd0
        · rw [stB_s m1 m5 ((nI_leq (a := 3) (by omega) (by omega)).mpr (by omega)), if_pos (show nI (14 + t) = 17 ∨ nI (14 + t) = 18 from by
            rcases (show t = 3 ∨ t = 4 by omega) with e | e
            · exact Or.inl (by rw [e]; rfl)
            · exact Or.inr (by rw [e]; rfl))]
          exact st_row rfl T2 ht4 hj24 z3 (show Z 0 4 = nI (cD + 0) from d1) z2 K I4 D4 rfl (gB_sum hBq) (sumS_at T2 (H2 _ T2 R2v) I4 D4 (Or.inl rfl)) (by rw [decide_eq_false h3]; exact Ty2) hd2
    · have hn : ∀ t, t ≤ 5 → ¬ rtok Z = nI (14 + t) := fun t ht z => by
        rw [tke] at z
        have := nI_inj (by omega) (by omega) z
        omega
      rw [w2 hn, stB_x rfl, show staS R0 R2 Z = (false, rref Z 1 (rher Z)) from (if_neg n24).trans (if_pos (fun z => by
        rw [tke] at z
        have y1 := (nI_leq (a := 14) (by omega) (by omega)).mp z.1
        have y2 := (nI_leq (b := 19) (by omega) (by omega)).mp z.2
        exact hw ⟨y1, y2⟩))]
      exact st_bad (rref_4 (Y := Z) (k := 1) (p := rher Z)) (stp_fl h0 (by decide) hh)
