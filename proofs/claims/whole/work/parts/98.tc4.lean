/-! ===== the parsers agree: all, office, a comparison ===== -/
def endQ (M : mM) (tx : Nat → Nat) (L : Nat) (Z : rZ) (q : pS) (o : Nat) (R : pS) (r : Bool × rZ) : Prop := frZ Z r.2 ∧ ((r.1 = true ∧ prI M tx L r.2 R o ∧ cdI tx L r.2 R [] ∧ skI9 R q [] ∧ R.2.2.2.2.1 + cnt tx L q.1 ≤ q.2.2.2.2.1 + cnt tx L R.1 ∧ cnt tx L q.1 ≤ cnt tx L R.1) ∨ (r.1 = false ∧ stp9 R r.2))
/-- one code written on both sides, behind a token or more -/
theorem wr_e {M : mM} {tx : Nat → Nat} {L o : Nat} {Z Y : rZ} {q q2 : pS} {y t n : Int32} (T : txM M tx L) (f : frZ Z Y) (I2 : prI M tx L Y q2 o) (D2 : cdI tx L Y q2 []) (S2 : skI9 q2 q []) (hr : q2.2.2.2.2.1 + q2.2.2.2.2.2.1 + 1 ≤ q2.1 + 2) (hs : q2.2.2.2.2.1 + cnt tx L q.1 + 1 ≤ q.2.2.2.2.1 + cnt tx L q2.1) (hs2 : cnt tx L q.1 ≤ cnt tx L q2.1) (hq : q.2.2.2.2.1 ≤ cnt tx L q.1) (hc : cdR y (t + n <<< (7 &&& 31))) : endQ M tx L Z q o (cdS q2 y) (true, remi Y t n) := by
  obtain ⟨I3, D3⟩ := cw_at T I2 D2 hr (by omega) hc
  refine ⟨frZ_t f frZ_e, Or.inl ⟨rfl, I3, D3, S2, ?_, hs2⟩⟩
  show q2.2.2.2.2.1 + 1 + cnt tx L q.1 ≤ q.2.2.2.2.1 + cnt tx L q2.1
  omega
theorem sk_0 {q q2 : pS} (e : q2.2.2 = q.2.2) : skI9 q2 q [] := by
  refine ⟨?_, ?_, fun i hi => ?_, fun j hj => absurd hj (Nat.not_lt_zero j)⟩
  · show q2.2.2.2.2.2.1 = _
    rw [e]
    rfl
  · show q2.2.2.2.2.2.2.2.1 = _
    rw [e]
  · rw [e]
theorem hqW {M : mM} {tx : Nat → Nat} {L k l r : Nat} {Z : rZ} {q : pS} (T : txM M tx L) (R : rV M) (C : cur9 M tx L Z q) (h0 : q.2.2.1 = 0) (hk : k < 23) (el : (wdC.getD k []).length = l) (er : rowW k = r) : (rtok Z = nI k → hrQ M L q l (M r) = true ∧ tkS9 M L q l (M r) = wkQ M L k q) ∧ (¬ rtok Z = nI k → hrQ M L q l (M r) = false) := by
  subst el
  subst er
  have h := hq_e T R C h0 hk
  refine ⟨fun z => ?_, fun z => by rw [h]; exact decide_eq_false z⟩
  have e : hrQ M L q (wdC.getD k []).length (M (rowW k)) = true := by rw [h]; exact decide_eq_true z
  exact ⟨e, tk_at e⟩
theorem fac_9 {M : mM} {tx : Nat → Nat} {L o : Nat} {Z : rZ} {q : pS} (T : txM M tx L) (R : rV M) (I : prI M tx L Z q o) (D : cdI tx L Z q []) (h : rtok Z = nI 9) : endQ M tx L Z q o (facS9 M L q) (rbd (rpas Z 9) (fun Y => (true, remi Y 9 0))) := by
  obtain ⟨e1, e2⟩ := (hqW (k := 9) (l := 3) (r := 14) T R I.1 I.2.1.1 (by decide) rfl rfl).1 h
  have C2 := wk_cur T R I.1 I.2.1.1 (show 9 < 23 by decide) h
  obtain ⟨I2, D2, k1, k2⟩ := adv_pr T I D C2 rfl
  have ef : facS9 M L q = cdS (wkQ M L 9 q) 17 := by
    rw [← e2]
    obtain ⟨aT, eN, bD, bP, cD, wT, oP, bS, cS, wS⟩ := q
    exact if_neg (by rw [e1]; decide)
  have h' : rtok Z = 9 := h
  have c0 : q.2.2.2.2.1 + 0 ≤ cnt tx L q.1 := D.2.1
  have c5 : (wkQ M L 9 q).2.2.2.2.1 = q.2.2.2.2.1 := rfl
  rw [rpas_ok h', rbd_ok rfl, ef]
  have hc : cdR 17 ((9 : Int32) + (0 : Int32) <<< (7 &&& 31)) := by
    rw [show (9 : Int32) + (0 : Int32) <<< (7 &&& 31) = nI 9 from by decide]
    exact cdR_17
  exact wr_e T frZ_n I2 D2 (sk_0 rfl) k2 (by omega) (by omega) c0 hc
theorem fac_10 {M : mM} {tx : Nat → Nat} {L o : Nat} {Z : rZ} {q : pS} (T : txM M tx L) (R : rV M) (I : prI M tx L Z q o) (D : cdI tx L Z q []) (h : rtok Z = nI 10) : endQ M tx L Z q o (facS9 M L q) (rbd (rpas Z 10) (fun Y => rnum Y 10 8)) := by
  have e9 := (hqW (k := 9) (l := 3) (r := 14) T R I.1 I.2.1.1 (by decide) rfl rfl).2 (by rw [h]; decide)
  obtain ⟨e1, e2⟩ := (hqW (k := 10) (l := 6) (r := 15) T R I.1 I.2.1.1 (by decide) rfl rfl).1 h
  have C2 := wk_cur T R I.1 I.2.1.1 (show 10 < 23 by decide) h
  obtain ⟨I2, D2, k1, k2⟩ := adv_pr T I D C2 rfl
  have ef : facS9 M L q = cdS ((nbV M L (wkQ M L 10 q) 0 8).2) (100 + (nbV M L (wkQ M L 10 q) 0 8).1) := by
    rw [← e2]
    obtain ⟨aT, eN, bD, bP, cD, wT, oP, bS, cS, wS⟩ := q
    exact (if_pos (by rw [e9]; rfl)).trans (if_neg (by rw [e1]; decide))
  have h' : rtok Z = 10 := h
  have c0 : q.2.2.2.2.1 + 0 ≤ cnt tx L q.1 := D.2.1
  have w2 : (wkQ M L 10 q).2.2 = q.2.2 := rfl
  rw [rpas_ok h', rbd_ok rfl, ef]
  show endQ _ _ _ _ _ _ _ (rnum (rnxt Z) 10 8)
  generalize wkQ M L 10 q = q1 at I2 D2 k1 k2 w2
  rcases tok_n (m := 8) T I2.1 I2.2.1.1 (by decide) with ⟨v, e, v1, v2, n1, n2, n3, n4⟩ | ⟨x, y, k, p, val, k0, n1, n2⟩
  · rw [show (8 : Int32) = nI 8 from rfl, n1, n3 10]
    obtain ⟨I3, D3, k3, k4⟩ := adv_pr (q2 := (e, nI e, q1.2.2)) T I2 D2 (n4 _ rfl rfl) rfl
    have c5 : ((e, nI e, q1.2.2) : pS).2.2.2.2.1 = q.2.2.2.2.1 := by
      show q1.2.2.2.2.1 = _
      rw [w2]
    have hc : cdR ((100 : Int32) + nI v) ((10 : Int32) + nI v <<< ((7 : Int32) &&& 31)) := Or.inr (Or.inl ⟨v, v1, by rw [show (100 : Int32) = nI 100 from rfl, nI_add], by rw [shl_nI, show (10 : Int32) = nI 10 from rfl, nI_add]⟩)
    exact wr_e (q2 := (e, nI e, q1.2.2)) T (frZ_t frZ_n frZ_n) I3 D3 (sk_0 w2) k4 (by omega) (by omega) c0 hc
  · rw [show (8 : Int32) = nI 8 from rfl, n1, n2 10]
    exact ⟨frZ_t frZ_n frZ_r, Or.inr ⟨rfl, k0, (rref_at (Z := rnxt Z) (k := k) (p := p)).1, (rref_at (Z := rnxt Z) (k := k) (p := p)).2⟩⟩
theorem fac_f {M : mM} {L : Nat} {aT : Nat} {eN bD bP : Int32} {cD wT : Nat} {oP : Int32} {bS : Nat} {cS wS : Nat → Int32} : fac2 M L (aT, eN, bD, bP, cD, wT, oP, bS, cS, wS) = (if bD = 0 then (if (lkV M L aT) = 60 then (fac3 (lkV M L aT) (sumS M L (((skb M L aT) + 1), eN, bD, bP, cD, wT, oP, bS, cS, wS))) else (if (lkV M L aT) = 62 then (fac3 (lkV M L aT) (sumS M L (((skb M L aT) + 1), eN, bD, bP, cD, wT, oP, bS, cS, wS))) else (if (lkV M L aT) = 61 then (fac3 (lkV M L aT) (sumS M L (((skb M L aT) + 1), eN, bD, bP, cD, wT, oP, bS, cS, wS))) else (flS9 ((skb M L aT), eN, bD, bP, cD, wT, oP, bS, cS, wS) 1 (nI (skb M L aT)))))) else (aT, eN, bD, bP, cD, wT, oP, bS, cS, wS)) := rfl
/-- the signs of a comparison -/
def cmT (c : Nat) (y : Int32) : Prop := (c = 60 ∧ y = 11) ∨ (c = 62 ∧ y = 12) ∨ (c = 61 ∧ y = 13)
theorem fac3_c9 {c : Nat} {y : Int32} (h : cmT c y) (q : pS) : fac3 (nI c) q = cdS q y := by
  obtain ⟨aT, eN, bD, bP, cD, wT, oP, bS, cS, wS⟩ := q
  have e : fac3 (nI c) (aT, eN, bD, bP, cD, wT, oP, bS, cS, wS) = (if nI c = 60 then (cdS (aT, eN, bD, bP, cD, wT, oP, bS, cS, wS) 11) else (if nI c = 62 then (cdS (aT, eN, bD, bP, cD, wT, oP, bS, cS, wS) 12) else (cdS (aT, eN, bD, bP, cD, wT, oP, bS, cS, wS) 13))) := rfl
  rw [e]
  rcases h with ⟨a, b⟩ | ⟨a, b⟩ | ⟨a, b⟩
  · subst a; subst b
    rw [if_pos (show nI 60 = 60 from rfl)]
  · subst a; subst b
    rw [if_neg (show ¬ nI 62 = 60 by decide), if_pos (show nI 62 = 62 from rfl)]
  · subst a; subst b
    rw [if_neg (show ¬ nI 61 = 60 by decide), if_neg (show ¬ nI 61 = 62 by decide)]
theorem fac2_c {M : mM} {L c : Nat} {y : Int32} {q : pS} (h : cmT c y) (h0 : q.2.2.1 = 0) (lk : lkV M L q.1 = nI c) : fac2 M L q = cdS (sumS M L (skb M L q.1 + 1, q.2)) y := by
  rw [← fac3_c9 h]
  obtain ⟨aT, eN, bD, bP, cD, wT, oP, bS, cS, wS⟩ := q
  have lk' : lkV M L aT = nI c := lk
  rw [fac_f, if_pos (show bD = 0 from h0), lk']
  rcases h with ⟨a, b⟩ | ⟨a, b⟩ | ⟨a, b⟩
  · subst a
    exact if_pos (show nI 60 = 60 from rfl)
  · subst a
    exact (if_neg (show ¬ nI 62 = 60 by decide)).trans (if_pos (show nI 62 = 62 from rfl))
  · subst a
    exact (if_neg (show ¬ nI 61 = 60 by decide)).trans ((if_neg (show ¬ nI 61 = 62 by decide)).trans (if_pos (show nI 61 = 61 from rfl)))
theorem fac2_n {M : mM} {L : Nat} {q : pS} (h0 : q.2.2.1 = 0) (h : ¬ (lkV M L q.1 = 60 ∨ lkV M L q.1 = 62 ∨ lkV M L q.1 = 61)) : fac2 M L q = (skb M L q.1, q.2.1, 1, nI (skb M L q.1), q.2.2.2.2) := by
  have ef : flS9 (skb M L q.1, q.2) 1 (nI (skb M L q.1)) = (skb M L q.1, q.2.1, 1, nI (skb M L q.1), q.2.2.2.2) := fl_0 h0
  rw [← ef]
  obtain ⟨aT, eN, bD, bP, cD, wT, oP, bS, cS, wS⟩ := q
  rw [fac_f, if_pos (show bD = 0 from h0), if_neg (fun z => h (Or.inl z)), if_neg (fun z => h (Or.inr (Or.inl z))), if_neg (fun z => h (Or.inr (Or.inr z)))]
theorem fac2_x {M : mM} {L : Nat} {q : pS} (h0 : ¬ q.2.2.1 = 0) : fac2 M L q = q := by
  obtain ⟨aT, eN, bD, bP, cD, wT, oP, bS, cS, wS⟩ := q
  exact if_neg h0
theorem cmp_a {M : mM} {tx : Nat → Nat} {L o : Nat} {Z : rZ} {q : pS} {r2 : rZ → Bool × rZ} (T : txM M tx L) (H : sumH M tx L o r2) (I : prI M tx L Z q o) (D : cdI tx L Z q []) (h0 : q.2.2.2.2.2.1 = 0 ∨ P1 (q.2.2.2.2.2.2.2.2.2 (q.2.2.2.2.2.1 - 1)) = false) : endQ M tx L Z q o (fac2 M L (sumS M L q)) (cmpS r2 Z) := by
  obtain ⟨f1, h1⟩ := sumS_at T H I D h0
  unfold cmpS
  have c0 : q.2.2.2.2.1 + 0 ≤ cnt tx L q.1 := D.2.1
  rcases h1 with ⟨ok, I1, D1, S1, ⟨b1, b2⟩, sk1, -⟩ | ⟨no, st⟩
  · rw [rbd_ok ok]
    have tT := sumS_T (M := M) T.1 I.2.2.1
    generalize sumS M L q = q1 at I1 D1 S1 b1 b2 sk1 tT ⊢
    generalize (r2 Z).2 = Y at f1 I1 D1
    have t60 := tok_c T I1.1 (c := 60) (by decide) sg_ok.2.2.2.2.2.2.2.2.1
    have t61 := tok_c T I1.1 (c := 61) (by decide) sg_ok.2.2.2.2.2.2.2.2.2.1
    have t62 := tok_c T I1.1 (c := 62) (by decide) sg_ok.2.2.2.2.2.2.2.2.2.2.1
    by_cases hs : rtok Y = 60 ∨ rtok Y = 62 ∨ rtok Y = 61
    · obtain ⟨c, y, hct, hc9, lk, nxt⟩ : ∃ c y, cmT c y ∧ rtok Y = nI c ∧ lkV M L q1.1 = nI c ∧ ∀ r : pS, r.1 = skb M L q1.1 + 1 → r.2.1 = q1.2.1 → cur9 M tx L (rnxt Y) r := by
        rcases hs with e | e | e
        · exact ⟨60, 11, Or.inl ⟨rfl, rfl⟩, e, t60.1.mpr e, t60.2 e⟩
        · exact ⟨62, 12, Or.inr (Or.inl ⟨rfl, rfl⟩), e, t62.1.mpr e, t62.2 e⟩
        · exact ⟨61, 13, Or.inr (Or.inr ⟨rfl, rfl⟩), e, t61.1.mpr e, t61.2 e⟩
      rw [if_pos hs, rpas_ok rfl, rbd_ok rfl, fac2_c hct I1.2.1.1 lk]
      obtain ⟨I2, D2, k2, k3⟩ := adv_pr (q2 := (skb M L q1.1 + 1, q1.2)) T I1 D1 (nxt _ rfl rfl) rfl
      have S2 : skI9 (skb M L q1.1 + 1, q1.2) q [] := S1
      have w1 : q1.2.2.2.2.2.1 = q.2.2.2.2.2.1 + 0 := S1.1
      obtain ⟨f3, h3⟩ := sumS_at T H I2 D2 (by
        rcases Nat.eq_zero_or_pos q.2.2.2.2.2.1 with z | z
        · exact Or.inl (by show q1.2.2.2.2.2.1 = 0; omega)
        · refine Or.inr ?_
          show P1 (q1.2.2.2.2.2.2.2.2.2 (q1.2.2.2.2.2.1 - 1)) = false
          rw [w1, Nat.add_zero, S1.2.2.1 _ (by omega)]
          exact h0.resolve_left (by omega))
      have t2 := sumS_T (M := M) T.1 I2.2.2.1
      have hle := (skb_le (M := M) (L := L) (a := q1.1)).1
      show endQ _ _ _ _ _ _ _ (rbd (r2 (rnxt Y)) _)
      rcases h3 with ⟨ok3, I3, D3, S3, ⟨b3, b4⟩, -, -⟩ | ⟨no3, st3⟩
      · rw [rbd_ok ok3]
        have S4 : skI9 (sumS M L (skb M L q1.1 + 1, q1.2)) q [] := skI_t S3 S2
        generalize sumS M L (skb M L q1.1 + 1, q1.2) = q3 at I3 D3 S4 b3 b4 t2 ⊢
        have x1 : q3.2.2.2.2.1 + q3.2.2.2.2.2.1 + (skb M L q1.1 + 1) ≤ q1.2.2.2.2.1 + q1.2.2.2.2.2.1 + q3.1 := t2.2.2.2
        have x2 : q1.2.2.2.2.1 + q1.2.2.2.2.2.1 ≤ q1.1 + 2 := I1.2.2.1.2
        have k2' : cnt tx L (skb M L q1.1 + 1) = cnt tx L q1.1 + 1 := k2
        have b3' : q3.2.2.2.2.1 + cnt tx L (skb M L q1.1 + 1) ≤ q1.2.2.2.2.1 + cnt tx L q3.1 := b3
        have b4' : cnt tx L (skb M L q1.1 + 1) ≤ cnt tx L q3.1 := b4
        have hcd : cdR y (rtok Y + (0 : Int32) <<< (7 &&& 31)) := by
          rw [hc9, show (0 : Int32) <<< (7 &&& 31) = 0 from by decide, Int32.add_zero]
          rcases hct with ⟨a, b⟩ | ⟨a, b⟩ | ⟨a, b⟩ <;> subst a <;> subst b
          · exact cdR_11
          · exact cdR_12
          · exact cdR_13
        exact wr_e T (frZ_t f1 (frZ_t frZ_n f3)) I3 D3 S4 (by omega) (by omega) (by omega) c0 hcd
      · rw [rbd_no no3]
        exact ⟨frZ_t f1 (frZ_t frZ_n f3), Or.inr ⟨rfl, st3⟩⟩
    · rw [if_neg hs, fac2_n I1.2.1.1 (fun z => hs (by
        rcases z with e | e | e
        · exact Or.inl (t60.1.mp e)
        · exact Or.inr (Or.inl (t62.1.mp e))
        · exact Or.inr (Or.inr (t61.1.mp e))))]
      exact ⟨frZ_t f1 frZ_r, Or.inr ⟨rfl, stp_1 T I1.1⟩⟩
  · rw [rbd_no no, fac2_x st.1]
    exact ⟨f1, Or.inr ⟨rfl, st⟩⟩
