/-! ===== the reference's reader: bounds of a part; what comes behind it ===== -/
theorem cdT_I {M : mM} {L : Nat} {q : pS} {l : Nat} {f : Nat → Int32} {v : Int32} (I : rI L q) (hl : 1 ≤ l) (h : hrQ M L q l f = true) : rI L (cdS (tkS9 M L q l f) v) := by
  have h0 := tkS_P h
  have h1 := (tkS_I (M := M) (l := l) (f := f) I).1
  have h2 := I.2
  refine cdS_I h1 ?_
  rw [h0.1]
  show q.2.2.2.2.1 + q.2.2.2.2.2.1 + 1 ≤ skb M L q.1 + l + 2
  have := h0.2
  omega
theorem opE_I {M : mM} {L : Nat} {q : pS} (I : rI L q) : rI L (opE M L q) := by
  obtain ⟨aT, eN, bD, bP, cD, wT, oP, bS, cS, wS⟩ := q
  have hS := skb_I (M := M) I
  unfold opE
  dsimp only
  repeat' split
  all_goals first
    | exact I
    | exact npS_I hS
    | (rename_i q9; exact cdT_I I (by decide) (bI_t q9))
    | (rename_i q9; exact cdT_I hS (by decide) (bI_t q9))
theorem tk3_I {M : mM} {L : Nat} {q : pS} {f : Nat → Int32} {v : Int32} (I : rI L q) (h : hrQ M L q 3 f = true) : rI L (skb M L (tkS9 M L q 3 f).1, (tkS9 M L q 3 f).2) ∧ q.1 + 1 ≤ skb M L (tkS9 M L q 3 f).1 ∧ ∀ p, rI L (opS (skb M L (tkS9 M L q 3 f).1, (tkS9 M L q 3 f).2) v p) := by
  have h0 := tkS_P h
  have h1 := tkS_I (M := M) (l := 3) (f := f) I
  have h2 := I.2
  have h3 := skb_le (M := M) (L := L) (a := (tkS9 M L q 3 f).1)
  have h4 := (skb_I (M := M) h1).1
  have e1 : (tkS9 M L q 3 f).1 = skb M L q.1 + 3 := congrArg (fun z => z.1) h0.1
  have e4 : (tkS9 M L q 3 f).2.2.2.2.1 = q.2.2.2.2.1 := congrArg (fun z => z.2.2.2.2.1) h0.1
  have e5 : (tkS9 M L q 3 f).2.2.2.2.2.1 = q.2.2.2.2.2.1 := congrArg (fun z => z.2.2.2.2.2.1) h0.1
  have h5 := h0.2
  refine ⟨skb_I h1, by omega, fun p => opS_I2 h4 ?_⟩
  show (tkS9 M L q 3 f).2.2.2.2.1 + (tkS9 M L q 3 f).2.2.2.2.2.1 + 1 ≤ skb M L (tkS9 M L q 3 f).1 + 2
  omega
theorem opB_I {M : mM} {L : Nat} {q : pS} (I : rI L q) : rI L (opB M L q).2 ∧ ((opB M L q).1 = true → q.1 + 1 ≤ (opB M L q).2.1) := by
  obtain ⟨aT, eN, bD, bP, cD, wT, oP, bS, cS, wS⟩ := q
  have hS := skb_I (M := M) I
  have hk := (skb_le (M := M) (L := L) (a := aT)).1
  unfold opB
  dsimp only
  split
  · rename_i zc
    have r := opS_r (q := (skb M L aT, eN, bD, bP, cD, wT, oP, bS, cS, wS)) (v := 20) (p := nI (skb M L aT))
    exact ⟨opS_I hS (lkV_lt (by decide) zc), fun _ => by show aT + 1 ≤ (opS _ _ _).1 + 1; rw [r.1]; show aT + 1 ≤ skb M L aT + 1; omega⟩
  · have go : ∀ (f : Nat → Int32) (v : Int32), hrQ M L (skb M L aT, eN, bD, bP, cD, wT, oP, bS, cS, wS) 3 f = true → ∀ (p : Int32), (rI L (agS M L (opS (skb M L (tkS9 M L (skb M L aT, eN, bD, bP, cD, wT, oP, bS, cS, wS) 3 f).1, (tkS9 M L (skb M L aT, eN, bD, bP, cD, wT, oP, bS, cS, wS) 3 f).2) v p) 40) ∧ aT + 1 ≤ (agS M L (opS (skb M L (tkS9 M L (skb M L aT, eN, bD, bP, cD, wT, oP, bS, cS, wS) 3 f).1, (tkS9 M L (skb M L aT, eN, bD, bP, cD, wT, oP, bS, cS, wS) 3 f).2) v p) 40).1) ∧ (rI L (agS M L (skb M L (tkS9 M L (skb M L aT, eN, bD, bP, cD, wT, oP, bS, cS, wS) 3 f).1, (tkS9 M L (skb M L aT, eN, bD, bP, cD, wT, oP, bS, cS, wS) 3 f).2) 40) ∧ aT + 1 ≤ (agS M L (skb M L (tkS9 M L (skb M L aT, eN, bD, bP, cD, wT, oP, bS, cS, wS) 3 f).1, (tkS9 M L (skb M L aT, eN, bD, bP, cD, wT, oP, bS, cS, wS) 3 f).2) 40).1) := fun f v hq p => by
      have h3 := tk3_I (v := v) hS hq
      have r := opS_r (q := (skb M L (tkS9 M L (skb M L aT, eN, bD, bP, cD, wT, oP, bS, cS, wS) 3 f).1, (tkS9 M L (skb M L aT, eN, bD, bP, cD, wT, oP, bS, cS, wS) 3 f).2)) (v := v) (p := p)
      have h4 : skb M L aT + 1 ≤ skb M L (tkS9 M L (skb M L aT, eN, bD, bP, cD, wT, oP, bS, cS, wS) 3 f).1 := h3.2.1
      refine ⟨⟨agS_I (by decide) (h3.2.2 p), Nat.le_trans ?_ agS_ge⟩, agS_I (by decide) h3.1, Nat.le_trans ?_ agS_ge⟩
      · rw [r.1]
        show aT + 1 ≤ skb M L (tkS9 M L (skb M L aT, eN, bD, bP, cD, wT, oP, bS, cS, wS) 3 f).1
        omega
      · show aT + 1 ≤ skb M L (tkS9 M L (skb M L aT, eN, bD, bP, cD, wT, oP, bS, cS, wS) 3 f).1
        omega
    repeat' split
    all_goals first
      | exact ⟨hS, fun h => Bool.noConfusion h⟩
      | (rename_i a1 a2; exact ⟨(go _ _ (bI_t a1) _).1.1, fun _ => (go _ _ (bI_t a1) _).1.2⟩)
      | (rename_i a1 a2; exact ⟨(go _ 21 (bI_t a1) 0).2.1, fun _ => (go _ 21 (bI_t a1) 0).2.2⟩)
theorem opF_I {M : mM} {L : Nat} : ∀ (k : Nat) {q : pS}, rI L q → rI L (opF M L k q)
  | 0, _, I => I
  | k + 1, q, I => by
    unfold opF
    split
    · split
      · exact opF_I k (opB_I I).1
      · exact (opB_I I).1
    · exact I
theorem oneS_I {M : mM} {L : Nat} {q : pS} (I : rI L q) : rI L (oneS M L q) := opE_I (opF_I 700 I)
/-- the topmost mark is where dropping stops -/
def tmP (b : Nat) (ws : Nat → Int32) : Nat → Bool := fun i => decide (b ≤ i) && !decide (isMk (ws i))
theorem mk_dw {ws : Nat → Int32} {b : Nat} {v : Int32} (hv : ¬ v = -1) : ∀ (w c : Nat) (s : Nat → Int32), mkF ws b w = v → ∃ m, (dwS ws (tmP b ws) w c s).1 = m + 1 ∧ ws m = v ∧ b ≤ m ∧ m < w
  | 0, _, _, h => absurd h.symm hv
  | w + 1, c, s, h => by
    unfold mkF at h
    unfold dwS
    split at h
    · exact absurd h.symm hv
    · rename_i h1
      split at h
      · rename_i h2
        rw [if_neg (by show ¬ (decide (b ≤ w) && !decide (isMk (ws w))) = true; rw [decide_eq_true h2, Bool.not_true, Bool.and_false]; decide)]
        exact ⟨w, rfl, h, by omega, by omega⟩
      · rename_i h2
        rw [if_pos (by show (decide (b ≤ w) && !decide (isMk (ws w))) = true; rw [decide_eq_true (show b ≤ w by omega), decide_eq_false h2]; rfl)]
        obtain ⟨m, e, f, g, i⟩ := mk_dw hv w (c + 1) (va_up s c (ws w)) h
        exact ⟨m, e, f, g, by omega⟩
/-- a closing: whether one stood there -/
def gcB (M : mM) (L : Nat) : pS → Bool × pS := fun (aT, eN, bD, bP, cD, wT, oP, bS, cS, wS) => (if (lkV M L aT) = 41 then (if (mkV ((skb M L aT), eN, bD, bP, cD, wT, oP, bS, cS, wS)) = 20 then (if ((dwQ (((skb M L aT) + 1), eN, bD, bP, cD, wT, oP, bS, cS, wS) (tmP bS wS)).2.2.2.2.2.2.2.2.2 ((dwQ (((skb M L aT) + 1), eN, bD, bP, cD, wT, oP, bS, cS, wS) (tmP bS wS)).2.2.2.2.2.1 - 1)) = 20 then (true, (s6 (s5 (dwQ (((skb M L aT) + 1), eN, bD, bP, cD, wT, oP, bS, cS, wS) (tmP bS wS)) ((dwQ (((skb M L aT) + 1), eN, bD, bP, cD, wT, oP, bS, cS, wS) (tmP bS wS)).2.2.2.2.2.1 - 1)) ((dwQ (((skb M L aT) + 1), eN, bD, bP, cD, wT, oP, bS, cS, wS) (tmP bS wS)).2.2.2.2.2.2.1 - 1))) else (if ((dwQ (((skb M L aT) + 1), eN, bD, bP, cD, wT, oP, bS, cS, wS) (tmP bS wS)).2.2.2.2.2.2.2.2.2 ((dwQ (((skb M L aT) + 1), eN, bD, bP, cD, wT, oP, bS, cS, wS) (tmP bS wS)).2.2.2.2.2.1 - 1)) = 23 then (true, (cdS (s6 (s5 (dwQ (((skb M L aT) + 1), eN, bD, bP, cD, wT, oP, bS, cS, wS) (tmP bS wS)) ((dwQ (((skb M L aT) + 1), eN, bD, bP, cD, wT, oP, bS, cS, wS) (tmP bS wS)).2.2.2.2.2.1 - 1)) ((dwQ (((skb M L aT) + 1), eN, bD, bP, cD, wT, oP, bS, cS, wS) (tmP bS wS)).2.2.2.2.2.2.1 - 1)) 5)) else (true, (cdS (s6 (s5 (dwQ (((skb M L aT) + 1), eN, bD, bP, cD, wT, oP, bS, cS, wS) (tmP bS wS)) ((dwQ (((skb M L aT) + 1), eN, bD, bP, cD, wT, oP, bS, cS, wS) (tmP bS wS)).2.2.2.2.2.1 - 1)) ((dwQ (((skb M L aT) + 1), eN, bD, bP, cD, wT, oP, bS, cS, wS) (tmP bS wS)).2.2.2.2.2.2.1 - 1)) 6)))) else (if (mkV ((skb M L aT), eN, bD, bP, cD, wT, oP, bS, cS, wS)) = 23 then (if ((dwQ (((skb M L aT) + 1), eN, bD, bP, cD, wT, oP, bS, cS, wS) (tmP bS wS)).2.2.2.2.2.2.2.2.2 ((dwQ (((skb M L aT) + 1), eN, bD, bP, cD, wT, oP, bS, cS, wS) (tmP bS wS)).2.2.2.2.2.1 - 1)) = 20 then (true, (s6 (s5 (dwQ (((skb M L aT) + 1), eN, bD, bP, cD, wT, oP, bS, cS, wS) (tmP bS wS)) ((dwQ (((skb M L aT) + 1), eN, bD, bP, cD, wT, oP, bS, cS, wS) (tmP bS wS)).2.2.2.2.2.1 - 1)) ((dwQ (((skb M L aT) + 1), eN, bD, bP, cD, wT, oP, bS, cS, wS) (tmP bS wS)).2.2.2.2.2.2.1 - 1))) else (if ((dwQ (((skb M L aT) + 1), eN, bD, bP, cD, wT, oP, bS, cS, wS) (tmP bS wS)).2.2.2.2.2.2.2.2.2 ((dwQ (((skb M L aT) + 1), eN, bD, bP, cD, wT, oP, bS, cS, wS) (tmP bS wS)).2.2.2.2.2.1 - 1)) = 23 then (true, (cdS (s6 (s5 (dwQ (((skb M L aT) + 1), eN, bD, bP, cD, wT, oP, bS, cS, wS) (tmP bS wS)) ((dwQ (((skb M L aT) + 1), eN, bD, bP, cD, wT, oP, bS, cS, wS) (tmP bS wS)).2.2.2.2.2.1 - 1)) ((dwQ (((skb M L aT) + 1), eN, bD, bP, cD, wT, oP, bS, cS, wS) (tmP bS wS)).2.2.2.2.2.2.1 - 1)) 5)) else (true, (cdS (s6 (s5 (dwQ (((skb M L aT) + 1), eN, bD, bP, cD, wT, oP, bS, cS, wS) (tmP bS wS)) ((dwQ (((skb M L aT) + 1), eN, bD, bP, cD, wT, oP, bS, cS, wS) (tmP bS wS)).2.2.2.2.2.1 - 1)) ((dwQ (((skb M L aT) + 1), eN, bD, bP, cD, wT, oP, bS, cS, wS) (tmP bS wS)).2.2.2.2.2.2.1 - 1)) 6)))) else (if (mkV ((skb M L aT), eN, bD, bP, cD, wT, oP, bS, cS, wS)) = 24 then (if ((dwQ (((skb M L aT) + 1), eN, bD, bP, cD, wT, oP, bS, cS, wS) (tmP bS wS)).2.2.2.2.2.2.2.2.2 ((dwQ (((skb M L aT) + 1), eN, bD, bP, cD, wT, oP, bS, cS, wS) (tmP bS wS)).2.2.2.2.2.1 - 1)) = 20 then (true, (s6 (s5 (dwQ (((skb M L aT) + 1), eN, bD, bP, cD, wT, oP, bS, cS, wS) (tmP bS wS)) ((dwQ (((skb M L aT) + 1), eN, bD, bP, cD, wT, oP, bS, cS, wS) (tmP bS wS)).2.2.2.2.2.1 - 1)) ((dwQ (((skb M L aT) + 1), eN, bD, bP, cD, wT, oP, bS, cS, wS) (tmP bS wS)).2.2.2.2.2.2.1 - 1))) else (if ((dwQ (((skb M L aT) + 1), eN, bD, bP, cD, wT, oP, bS, cS, wS) (tmP bS wS)).2.2.2.2.2.2.2.2.2 ((dwQ (((skb M L aT) + 1), eN, bD, bP, cD, wT, oP, bS, cS, wS) (tmP bS wS)).2.2.2.2.2.1 - 1)) = 23 then (true, (cdS (s6 (s5 (dwQ (((skb M L aT) + 1), eN, bD, bP, cD, wT, oP, bS, cS, wS) (tmP bS wS)) ((dwQ (((skb M L aT) + 1), eN, bD, bP, cD, wT, oP, bS, cS, wS) (tmP bS wS)).2.2.2.2.2.1 - 1)) ((dwQ (((skb M L aT) + 1), eN, bD, bP, cD, wT, oP, bS, cS, wS) (tmP bS wS)).2.2.2.2.2.2.1 - 1)) 5)) else (true, (cdS (s6 (s5 (dwQ (((skb M L aT) + 1), eN, bD, bP, cD, wT, oP, bS, cS, wS) (tmP bS wS)) ((dwQ (((skb M L aT) + 1), eN, bD, bP, cD, wT, oP, bS, cS, wS) (tmP bS wS)).2.2.2.2.2.1 - 1)) ((dwQ (((skb M L aT) + 1), eN, bD, bP, cD, wT, oP, bS, cS, wS) (tmP bS wS)).2.2.2.2.2.2.1 - 1)) 6)))) else (false, ((skb M L aT), eN, bD, bP, cD, wT, oP, bS, cS, wS))))) else (false, ((skb M L aT), eN, bD, bP, cD, wT, oP, bS, cS, wS)))
theorem l_gcB (E : gE) {d : Nat} (hd : 4 ≤ d) {L : Nat} (h : hp_T) (hG : gr h) (M : mM) (N : mN) (T : tpI M L) (aT : Nat) (eN bD bP : Int32) (cD wT : Nat) (oP : Int32) (bS : Nat) (cS wS : Nat → Int32) (I0 : rI L (aT, eN, bD, bP, cD, wT, oP, bS, cS, wS)) (hbs : bS < 1000) (zb0 : bD = 0) {v : Option Value} {hz : hp_T} (K1 : ∀ q', rI L q' → aT + 1 ≤ q'.1 → q'.2.2.2.2.2.2.2.1 = bS → q'.2.2.1 = 0 → gcB M L (aT, eN, bD, bP, cD, wT, oP, bS, cS, wS) = (true, q') → gf E mX12_goesOn d 0 [(0, .ref (E.1 + 247))] [] (hm h (pM M q') N) v hz) (K2 : ∀ q', rI L q' → skb M L q'.1 = q'.1 → q'.2.2.2.2.2.2.2.1 = bS → q'.2.2.1 = 0 → gcB M L (aT, eN, bD, bP, cD, wT, oP, bS, cS, wS) = (false, q') → gf E mX12_goesOn d 118 [(0, .ref (E.1 + 247))] [] (hm h (pM M q') N) v hz) : gf E mX12_goesOn d 0 [(0, .ref (E.1 + 247))] [] (hm h (pM M (aT, eN, bD, bP, cD, wT, oP, bS, cS, wS)) N) v hz := by
  have hL6 := T.2.1
  have hA0 : aT ≤ L := I0.1
  have hB0 : cD + wT ≤ aT + 2 := I0.2
  have hsk := skb_le (M := M) (L := L) (a := aT)
  refine gf_aload_n 0 dX12_goesOn_0 rfl rfl ?_
  refine gf_getI flX12_285 rfl dX12_goesOn_1 (gt_247 hG) ?_
  rw [show hp_i (hm h (pM M (aT, eN, bD, bP, cD, wT, oP, bS, cS, wS)) N) 247 5 = bD from rfl]
  refine gf_if_ne 118 dX12_goesOn_4 rfl (fun q => absurd (zb0) q) (fun _ => ?_)
  refine gf_aload_n 0 dX12_goesOn_7 rfl rfl ?_
  refine gf_callV cmX12_look lkX12_297 imX12_look seX12_look ⟨rfl, by decide⟩ dX12_goesOn_8 (d1 := d - 1) (by omega) (gt_247 hG) (e_X12_look E h hG M N T aT eN bD bP cD wT oP bS cS wS (by omega)) rfl rfl (Nat.le_of_ble_eq_true rfl) ?_
  have hI1 : rI L ((skb M L aT), eN, bD, bP, cD, wT, oP, bS, cS, wS) := skb_I I0
  have hA1 : (skb M L aT) ≤ L := hI1.1
  have hB1 : cD + wT ≤ (skb M L aT) + 2 := hI1.2
  have hk2 := (skb_le (M := M) (L := L) (a := aT)).1
  refine gf_bipush (41) dX12_goesOn_11 rfl ?_
  refine gf_icmp_ne 118 dX12_goesOn_13 rfl (fun zc13 => ?_) (fun zc13 => ?_)
  · exact gf_lw (K2 _ hI1 (skb_skb hA0) rfl zb0 (show gcB M L (aT, eN, bD, bP, cD, wT, oP, bS, cS, wS) = _ from if_neg zc13)) ⟨rfl, trivial⟩
  · refine gf_aload_n 0 dX12_goesOn_16 rfl rfl ?_
    refine gf_callV cmX12_mark lkX12_369 imX12_mark seX12_mark ⟨rfl, by decide⟩ dX12_goesOn_17 (d1 := d - 1) (by omega) (gt_247 hG) (e_X12_mark E (by omega) h hG M N (skb M L aT) eN bD bP cD wT oP bS cS wS (by omega) hbs) rfl rfl (Nat.le_of_ble_eq_true rfl) ?_
    refine gf_bipush (20) dX12_goesOn_20 rfl ?_
    refine gf_icmp_eq 43 dX12_goesOn_22 rfl (fun zc22 => ?_) (fun zc22 => ?_)
    · refine gf_aload_n 0 dX12_goesOn_43 rfl rfl ?_
      refine gf_dup dX12_goesOn_44 rfl ?_
      refine gf_getI flX12_291 rfl dX12_goesOn_45 (gt_247 hG) ?_
      rw [show hp_i (hm h (pM M ((skb M L aT), eN, bD, bP, cD, wT, oP, bS, cS, wS)) N) 247 2 = (nI (skb M L aT)) from rfl]
      refine gf_iconst (1) dX12_goesOn_48 rfl ?_
      refine gf_iadd dX12_goesOn_49 ?_
      rw [nI_1 (skb M L aT)]
      refine gf_putI flX12_291 rfl rfl dX12_goesOn_50 (gt_247 hG) ⟨rfl, rfl⟩ ?_
      rw [mI_0, pM_2]
      have hI3 : rI L (((skb M L aT) + 1), eN, bD, bP, cD, wT, oP, bS, cS, wS) := (show rI L (((skb M L aT) + 1), eN, bD, bP, cD, wT, oP, bS, cS, wS) from ⟨lkV_lt (by decide) zc13, by show cD + wT ≤ skb M L aT + 1 + 2; omega⟩)
      have hA3 : ((skb M L aT) + 1) ≤ L := hI3.1
      have hB3 : cD + wT ≤ ((skb M L aT) + 1) + 2 := hI3.2
      refine gf_aload_n 0 dX12_goesOn_53 rfl rfl ?_
      refine gf_callV cmX12_dropsToMark lkX12_372 imX12_dropsToMark seX12_dropsToMark ⟨rfl, by decide⟩ dX12_goesOn_54 (d1 := d - 1) (by omega) (gt_247 hG) (e_X12_dropsToMark E (by omega) h hG M N ((skb M L aT) + 1) eN bD bP cD wT oP bS cS wS (by omega) (by omega) hbs) rfl rfl (Nat.le_of_ble_eq_true rfl) ?_
      change gf _ _ _ _ _ _ (hm h (pM M (dwQ (((skb M L aT) + 1), eN, bD, bP, cD, wT, oP, bS, cS, wS) (tmP bS wS))) N) _ _
      have hI4 : rI L (dwQ (((skb M L aT) + 1), eN, bD, bP, cD, wT, oP, bS, cS, wS) (tmP bS wS)) := dwQ_I hI3
      have hA4 : (dwQ (((skb M L aT) + 1), eN, bD, bP, cD, wT, oP, bS, cS, wS) (tmP bS wS)).1 ≤ L := hI4.1
      have hB4 : (dwQ (((skb M L aT) + 1), eN, bD, bP, cD, wT, oP, bS, cS, wS) (tmP bS wS)).2.2.2.2.1 + (dwQ (((skb M L aT) + 1), eN, bD, bP, cD, wT, oP, bS, cS, wS) (tmP bS wS)).2.2.2.2.2.1 ≤ (dwQ (((skb M L aT) + 1), eN, bD, bP, cD, wT, oP, bS, cS, wS) (tmP bS wS)).1 + 2 := hI4.2
      refine gf_aload_n 0 dX12_goesOn_57 rfl rfl ?_
      refine gf_dup dX12_goesOn_58 rfl ?_
      refine gf_getI flX12_335 rfl dX12_goesOn_59 (gt_247 hG) ?_
      rw [show hp_i (hm h (pM M (dwQ (((skb M L aT) + 1), eN, bD, bP, cD, wT, oP, bS, cS, wS) (tmP bS wS))) N) 247 39 = (nI ((dwQ (((skb M L aT) + 1), eN, bD, bP, cD, wT, oP, bS, cS, wS) (tmP bS wS)).2.2.2.2.2.1)) from rfl]
      refine gf_iconst (1) dX12_goesOn_62 rfl ?_
      refine gf_isub dX12_goesOn_63 ?_
      obtain ⟨m9, hm1, hm2, hm3, hm4⟩ := mk_dw (ws := wS) (b := bS) (v := 20) (by decide) wT cD cS (show mkF wS bS wT = 20 from zc22)
      have hw1 : 1 ≤ (dwQ (((skb M L aT) + 1), eN, bD, bP, cD, wT, oP, bS, cS, wS) (tmP bS wS)).2.2.2.2.2.1 := by show 1 ≤ (dwS wS (tmP bS wS) wT cD cS).1; omega
      rw [show nI ((dwQ (((skb M L aT) + 1), eN, bD, bP, cD, wT, oP, bS, cS, wS) (tmP bS wS)).2.2.2.2.2.1) - 1 = nI ((dwQ (((skb M L aT) + 1), eN, bD, bP, cD, wT, oP, bS, cS, wS) (tmP bS wS)).2.2.2.2.2.1 - 1) from pk_sub (b := 1) hw1]
      refine gf_putI flX12_335 rfl rfl dX12_goesOn_64 (gt_247 hG) ⟨rfl, rfl⟩ ?_
      rw [mI_0, pM_39]
      refine gf_aload_n 0 dX12_goesOn_67 rfl rfl ?_
      refine gf_dup dX12_goesOn_68 rfl ?_
      refine gf_getI flX12_332 rfl dX12_goesOn_69 (gt_247 hG) ?_
      rw [show hp_i (hm h (pM M (s5 (dwQ (((skb M L aT) + 1), eN, bD, bP, cD, wT, oP, bS, cS, wS) (tmP bS wS)) ((dwQ (((skb M L aT) + 1), eN, bD, bP, cD, wT, oP, bS, cS, wS) (tmP bS wS)).2.2.2.2.2.1 - 1))) N) 247 40 = (dwQ (((skb M L aT) + 1), eN, bD, bP, cD, wT, oP, bS, cS, wS) (tmP bS wS)).2.2.2.2.2.2.1 from rfl]
      refine gf_iconst (1) dX12_goesOn_72 rfl ?_
      refine gf_isub dX12_goesOn_73 ?_
      refine gf_putI flX12_332 rfl rfl dX12_goesOn_74 (gt_247 hG) ⟨rfl, rfl⟩ ?_
      rw [mI_0, pM_40]
      refine gf_aload_n 0 dX12_goesOn_77 rfl rfl ?_
      refine gf_getR flX12_103 rfl dX12_goesOn_78 (gt_247 hG) (gp_247_38 hG) ?_
      refine gf_aload_n 0 dX12_goesOn_81 rfl rfl ?_
      refine gf_getI flX12_335 rfl dX12_goesOn_82 (gt_247 hG) ?_
      rw [show hp_i (hm h (pM M (s6 (s5 (dwQ (((skb M L aT) + 1), eN, bD, bP, cD, wT, oP, bS, cS, wS) (tmP bS wS)) ((dwQ (((skb M L aT) + 1), eN, bD, bP, cD, wT, oP, bS, cS, wS) (tmP bS wS)).2.2.2.2.2.1 - 1)) ((dwQ (((skb M L aT) + 1), eN, bD, bP, cD, wT, oP, bS, cS, wS) (tmP bS wS)).2.2.2.2.2.2.1 - 1))) N) 247 39 = (nI ((dwQ (((skb M L aT) + 1), eN, bD, bP, cD, wT, oP, bS, cS, wS) (tmP bS wS)).2.2.2.2.2.1 - 1)) from rfl]
      refine gf_iald 700 dX12_goesOn_85 (gt_277 hG) (gl_277 hG) rfl (by omega) (by decide) ?_
      refine gf_bipush (20) dX12_goesOn_86 rfl ?_
      refine gf_icmp_eq 0 dX12_goesOn_88 rfl (fun zc88 => ?_) (fun zc88 => ?_)
      · exact gf_lw (K1 _ (show rI L (s6 (s5 (dwQ (((skb M L aT) + 1), eN, bD, bP, cD, wT, oP, bS, cS, wS) (tmP bS wS)) ((dwQ (((skb M L aT) + 1), eN, bD, bP, cD, wT, oP, bS, cS, wS) (tmP bS wS)).2.2.2.2.2.1 - 1)) ((dwQ (((skb M L aT) + 1), eN, bD, bP, cD, wT, oP, bS, cS, wS) (tmP bS wS)).2.2.2.2.2.2.1 - 1)) from ⟨by show skb M L aT + 1 ≤ L; omega, by show (dwQ (((skb M L aT) + 1), eN, bD, bP, cD, wT, oP, bS, cS, wS) (tmP bS wS)).2.2.2.2.1 + (((dwQ (((skb M L aT) + 1), eN, bD, bP, cD, wT, oP, bS, cS, wS) (tmP bS wS)).2.2.2.2.2.1 - 1)) ≤ (dwQ (((skb M L aT) + 1), eN, bD, bP, cD, wT, oP, bS, cS, wS) (tmP bS wS)).1 + 2; omega⟩) (by show aT + 1 ≤ skb M L aT + 1; omega) rfl zb0 (show gcB M L (aT, eN, bD, bP, cD, wT, oP, bS, cS, wS) = _ from (if_pos zc13).trans ((if_pos zc22).trans (if_pos zc88)))) ⟨rfl, trivial⟩
      · have hz9 := hm1
        refine gf_aload_n 0 dX12_goesOn_91 rfl rfl ?_
        refine gf_aload_n 0 dX12_goesOn_92 rfl rfl ?_
        refine gf_getR flX12_103 rfl dX12_goesOn_93 (gt_247 hG) (gp_247_38 hG) ?_
        refine gf_aload_n 0 dX12_goesOn_96 rfl rfl ?_
        refine gf_getI flX12_335 rfl dX12_goesOn_97 (gt_247 hG) ?_
        rw [show hp_i (hm h (pM M (s6 (s5 (dwQ (((skb M L aT) + 1), eN, bD, bP, cD, wT, oP, bS, cS, wS) (tmP bS wS)) ((dwQ (((skb M L aT) + 1), eN, bD, bP, cD, wT, oP, bS, cS, wS) (tmP bS wS)).2.2.2.2.2.1 - 1)) ((dwQ (((skb M L aT) + 1), eN, bD, bP, cD, wT, oP, bS, cS, wS) (tmP bS wS)).2.2.2.2.2.2.1 - 1))) N) 247 39 = (nI ((dwQ (((skb M L aT) + 1), eN, bD, bP, cD, wT, oP, bS, cS, wS) (tmP bS wS)).2.2.2.2.2.1 - 1)) from rfl]
        refine gf_iald 700 dX12_goesOn_100 (gt_277 hG) (gl_277 hG) rfl (by omega) (by decide) ?_
        refine gf_bipush (23) dX12_goesOn_101 rfl ?_
        refine gf_icmp_ne 110 dX12_goesOn_103 rfl (fun zc103 => ?_) (fun zc103 => ?_)
        · refine gf_bipush (6) dX12_goesOn_110 rfl ?_
          refine gf_callV cmX12_code lkX12_338 imX12_code seX12_code ⟨rfl, by decide⟩ dX12_goesOn_112 (d1 := d - 1) (by omega) (gt_247 hG) (e_X12_code E 6 h hG M N ((dwQ (((skb M L aT) + 1), eN, bD, bP, cD, wT, oP, bS, cS, wS) (tmP bS wS)).1) ((dwQ (((skb M L aT) + 1), eN, bD, bP, cD, wT, oP, bS, cS, wS) (tmP bS wS)).2.1) ((dwQ (((skb M L aT) + 1), eN, bD, bP, cD, wT, oP, bS, cS, wS) (tmP bS wS)).2.2.1) ((dwQ (((skb M L aT) + 1), eN, bD, bP, cD, wT, oP, bS, cS, wS) (tmP bS wS)).2.2.2.1) ((dwQ (((skb M L aT) + 1), eN, bD, bP, cD, wT, oP, bS, cS, wS) (tmP bS wS)).2.2.2.2.1) ((dwQ (((skb M L aT) + 1), eN, bD, bP, cD, wT, oP, bS, cS, wS) (tmP bS wS)).2.2.2.2.2.1 - 1) ((dwQ (((skb M L aT) + 1), eN, bD, bP, cD, wT, oP, bS, cS, wS) (tmP bS wS)).2.2.2.2.2.2.1 - 1) ((dwQ (((skb M L aT) + 1), eN, bD, bP, cD, wT, oP, bS, cS, wS) (tmP bS wS)).2.2.2.2.2.2.2.1) ((dwQ (((skb M L aT) + 1), eN, bD, bP, cD, wT, oP, bS, cS, wS) (tmP bS wS)).2.2.2.2.2.2.2.2.1) ((dwQ (((skb M L aT) + 1), eN, bD, bP, cD, wT, oP, bS, cS, wS) (tmP bS wS)).2.2.2.2.2.2.2.2.2) (by omega)) rfl rfl (Nat.le_of_ble_eq_true rfl) ?_
          have hI9 : rI L (cdS (s6 (s5 (dwQ (((skb M L aT) + 1), eN, bD, bP, cD, wT, oP, bS, cS, wS) (tmP bS wS)) ((dwQ (((skb M L aT) + 1), eN, bD, bP, cD, wT, oP, bS, cS, wS) (tmP bS wS)).2.2.2.2.2.1 - 1)) ((dwQ (((skb M L aT) + 1), eN, bD, bP, cD, wT, oP, bS, cS, wS) (tmP bS wS)).2.2.2.2.2.2.1 - 1)) 6) := cdS_I (by show skb M L aT + 1 ≤ L; omega) (by show (dwQ (((skb M L aT) + 1), eN, bD, bP, cD, wT, oP, bS, cS, wS) (tmP bS wS)).2.2.2.2.1 + (((dwQ (((skb M L aT) + 1), eN, bD, bP, cD, wT, oP, bS, cS, wS) (tmP bS wS)).2.2.2.2.2.1 - 1)) + 1 ≤ (dwQ (((skb M L aT) + 1), eN, bD, bP, cD, wT, oP, bS, cS, wS) (tmP bS wS)).1 + 2; omega)
          refine gf_goto 0 dX12_goesOn_115 rfl ?_
          exact gf_lw (K1 _ hI9 (by show aT + 1 ≤ skb M L aT + 1; omega) rfl zb0 (show gcB M L (aT, eN, bD, bP, cD, wT, oP, bS, cS, wS) = _ from (if_pos zc13).trans ((if_pos zc22).trans ((if_neg zc88).trans (if_neg zc103))))) ⟨rfl, trivial⟩
        · refine gf_iconst (5) dX12_goesOn_106 rfl ?_
          refine gf_goto 112 dX12_goesOn_107 rfl ?_
          refine gf_callV cmX12_code lkX12_338 imX12_code seX12_code ⟨rfl, by decide⟩ dX12_goesOn_112 (d1 := d - 1) (by omega) (gt_247 hG) (e_X12_code E 5 h hG M N ((dwQ (((skb M L aT) + 1), eN, bD, bP, cD, wT, oP, bS, cS, wS) (tmP bS wS)).1) ((dwQ (((skb M L aT) + 1), eN, bD, bP, cD, wT, oP, bS, cS, wS) (tmP bS wS)).2.1) ((dwQ (((skb M L aT) + 1), eN, bD, bP, cD, wT, oP, bS, cS, wS) (tmP bS wS)).2.2.1) ((dwQ (((skb M L aT) + 1), eN, bD, bP, cD, wT, oP, bS, cS, wS) (tmP bS wS)).2.2.2.1) ((dwQ (((skb M L aT) + 1), eN, bD, bP, cD, wT, oP, bS, cS, wS) (tmP bS wS)).2.2.2.2.1) ((dwQ (((skb M L aT) + 1), eN, bD, bP, cD, wT, oP, bS, cS, wS) (tmP bS wS)).2.2.2.2.2.1 - 1) ((dwQ (((skb M L aT) + 1), eN, bD, bP, cD, wT, oP, bS, cS, wS) (tmP bS wS)).2.2.2.2.2.2.1 - 1) ((dwQ (((skb M L aT) + 1), eN, bD, bP, cD, wT, oP, bS, cS, wS) (tmP bS wS)).2.2.2.2.2.2.2.1) ((dwQ (((skb M L aT) + 1), eN, bD, bP, cD, wT, oP, bS, cS, wS) (tmP bS wS)).2.2.2.2.2.2.2.2.1) ((dwQ (((skb M L aT) + 1), eN, bD, bP, cD, wT, oP, bS, cS, wS) (tmP bS wS)).2.2.2.2.2.2.2.2.2) (by omega)) rfl rfl (Nat.le_of_ble_eq_true rfl) ?_
          have hI9 : rI L (cdS (s6 (s5 (dwQ (((skb M L aT) + 1), eN, bD, bP, cD, wT, oP, bS, cS, wS) (tmP bS wS)) ((dwQ (((skb M L aT) + 1), eN, bD, bP, cD, wT, oP, bS, cS, wS) (tmP bS wS)).2.2.2.2.2.1 - 1)) ((dwQ (((skb M L aT) + 1), eN, bD, bP, cD, wT, oP, bS, cS, wS) (tmP bS wS)).2.2.2.2.2.2.1 - 1)) 5) := cdS_I (by show skb M L aT + 1 ≤ L; omega) (by show (dwQ (((skb M L aT) + 1), eN, bD, bP, cD, wT, oP, bS, cS, wS) (tmP bS wS)).2.2.2.2.1 + (((dwQ (((skb M L aT) + 1), eN, bD, bP, cD, wT, oP, bS, cS, wS) (tmP bS wS)).2.2.2.2.2.1 - 1)) + 1 ≤ (dwQ (((skb M L aT) + 1), eN, bD, bP, cD, wT, oP, bS, cS, wS) (tmP bS wS)).1 + 2; omega)
          refine gf_goto 0 dX12_goesOn_115 rfl ?_
          exact gf_lw (K1 _ hI9 (by show aT + 1 ≤ skb M L aT + 1; omega) rfl zb0 (show gcB M L (aT, eN, bD, bP, cD, wT, oP, bS, cS, wS) = _ from (if_pos zc13).trans ((if_pos zc22).trans ((if_neg zc88).trans (if_pos zc103))))) ⟨rfl, trivial⟩
    · refine gf_aload_n 0 dX12_goesOn_25 rfl rfl ?_
      refine gf_callV cmX12_mark lkX12_369 imX12_mark seX12_mark ⟨rfl, by decide⟩ dX12_goesOn_26 (d1 := d - 1) (by omega) (gt_247 hG) (e_X12_mark E (by omega) h hG M N (skb M L aT) eN bD bP cD wT oP bS cS wS (by omega) hbs) rfl rfl (Nat.le_of_ble_eq_true rfl) ?_
      refine gf_bipush (23) dX12_goesOn_29 rfl ?_
      refine gf_icmp_eq 43 dX12_goesOn_31 rfl (fun zc31 => ?_) (fun zc31 => ?_)
      · refine gf_aload_n 0 dX12_goesOn_43 rfl rfl ?_
        refine gf_dup dX12_goesOn_44 rfl ?_
        refine gf_getI flX12_291 rfl dX12_goesOn_45 (gt_247 hG) ?_
        rw [show hp_i (hm h (pM M ((skb M L aT), eN, bD, bP, cD, wT, oP, bS, cS, wS)) N) 247 2 = (nI (skb M L aT)) from rfl]
        refine gf_iconst (1) dX12_goesOn_48 rfl ?_
        refine gf_iadd dX12_goesOn_49 ?_
        rw [nI_1 (skb M L aT)]
        refine gf_putI flX12_291 rfl rfl dX12_goesOn_50 (gt_247 hG) ⟨rfl, rfl⟩ ?_
        rw [mI_0, pM_2]
        have hI5 : rI L (((skb M L aT) + 1), eN, bD, bP, cD, wT, oP, bS, cS, wS) := (show rI L (((skb M L aT) + 1), eN, bD, bP, cD, wT, oP, bS, cS, wS) from ⟨lkV_lt (by decide) zc13, by show cD + wT ≤ skb M L aT + 1 + 2; omega⟩)
        have hA5 : ((skb M L aT) + 1) ≤ L := hI5.1
        have hB5 : cD + wT ≤ ((skb M L aT) + 1) + 2 := hI5.2
        refine gf_aload_n 0 dX12_goesOn_53 rfl rfl ?_
        refine gf_callV cmX12_dropsToMark lkX12_372 imX12_dropsToMark seX12_dropsToMark ⟨rfl, by decide⟩ dX12_goesOn_54 (d1 := d - 1) (by omega) (gt_247 hG) (e_X12_dropsToMark E (by omega) h hG M N ((skb M L aT) + 1) eN bD bP cD wT oP bS cS wS (by omega) (by omega) hbs) rfl rfl (Nat.le_of_ble_eq_true rfl) ?_
        change gf _ _ _ _ _ _ (hm h (pM M (dwQ (((skb M L aT) + 1), eN, bD, bP, cD, wT, oP, bS, cS, wS) (tmP bS wS))) N) _ _
        have hI6 : rI L (dwQ (((skb M L aT) + 1), eN, bD, bP, cD, wT, oP, bS, cS, wS) (tmP bS wS)) := dwQ_I hI5
        have hA6 : (dwQ (((skb M L aT) + 1), eN, bD, bP, cD, wT, oP, bS, cS, wS) (tmP bS wS)).1 ≤ L := hI6.1
        have hB6 : (dwQ (((skb M L aT) + 1), eN, bD, bP, cD, wT, oP, bS, cS, wS) (tmP bS wS)).2.2.2.2.1 + (dwQ (((skb M L aT) + 1), eN, bD, bP, cD, wT, oP, bS, cS, wS) (tmP bS wS)).2.2.2.2.2.1 ≤ (dwQ (((skb M L aT) + 1), eN, bD, bP, cD, wT, oP, bS, cS, wS) (tmP bS wS)).1 + 2 := hI6.2
        refine gf_aload_n 0 dX12_goesOn_57 rfl rfl ?_
        refine gf_dup dX12_goesOn_58 rfl ?_
        refine gf_getI flX12_335 rfl dX12_goesOn_59 (gt_247 hG) ?_
        rw [show hp_i (hm h (pM M (dwQ (((skb M L aT) + 1), eN, bD, bP, cD, wT, oP, bS, cS, wS) (tmP bS wS))) N) 247 39 = (nI ((dwQ (((skb M L aT) + 1), eN, bD, bP, cD, wT, oP, bS, cS, wS) (tmP bS wS)).2.2.2.2.2.1)) from rfl]
        refine gf_iconst (1) dX12_goesOn_62 rfl ?_
        refine gf_isub dX12_goesOn_63 ?_
        obtain ⟨m9, hm1, hm2, hm3, hm4⟩ := mk_dw (ws := wS) (b := bS) (v := 23) (by decide) wT cD cS (show mkF wS bS wT = 23 from zc31)
        have hw1 : 1 ≤ (dwQ (((skb M L aT) + 1), eN, bD, bP, cD, wT, oP, bS, cS, wS) (tmP bS wS)).2.2.2.2.2.1 := by show 1 ≤ (dwS wS (tmP bS wS) wT cD cS).1; omega
        rw [show nI ((dwQ (((skb M L aT) + 1), eN, bD, bP, cD, wT, oP, bS, cS, wS) (tmP bS wS)).2.2.2.2.2.1) - 1 = nI ((dwQ (((skb M L aT) + 1), eN, bD, bP, cD, wT, oP, bS, cS, wS) (tmP bS wS)).2.2.2.2.2.1 - 1) from pk_sub (b := 1) hw1]
        refine gf_putI flX12_335 rfl rfl dX12_goesOn_64 (gt_247 hG) ⟨rfl, rfl⟩ ?_
        rw [mI_0, pM_39]
        refine gf_aload_n 0 dX12_goesOn_67 rfl rfl ?_
        refine gf_dup dX12_goesOn_68 rfl ?_
        refine gf_getI flX12_332 rfl dX12_goesOn_69 (gt_247 hG) ?_
        rw [show hp_i (hm h (pM M (s5 (dwQ (((skb M L aT) + 1), eN, bD, bP, cD, wT, oP, bS, cS, wS) (tmP bS wS)) ((dwQ (((skb M L aT) + 1), eN, bD, bP, cD, wT, oP, bS, cS, wS) (tmP bS wS)).2.2.2.2.2.1 - 1))) N) 247 40 = (dwQ (((skb M L aT) + 1), eN, bD, bP, cD, wT, oP, bS, cS, wS) (tmP bS wS)).2.2.2.2.2.2.1 from rfl]
        refine gf_iconst (1) dX12_goesOn_72 rfl ?_
        refine gf_isub dX12_goesOn_73 ?_
        refine gf_putI flX12_332 rfl rfl dX12_goesOn_74 (gt_247 hG) ⟨rfl, rfl⟩ ?_
        rw [mI_0, pM_40]
        refine gf_aload_n 0 dX12_goesOn_77 rfl rfl ?_
        refine gf_getR flX12_103 rfl dX12_goesOn_78 (gt_247 hG) (gp_247_38 hG) ?_
        refine gf_aload_n 0 dX12_goesOn_81 rfl rfl ?_
        refine gf_getI flX12_335 rfl dX12_goesOn_82 (gt_247 hG) ?_
        rw [show hp_i (hm h (pM M (s6 (s5 (dwQ (((skb M L aT) + 1), eN, bD, bP, cD, wT, oP, bS, cS, wS) (tmP bS wS)) ((dwQ (((skb M L aT) + 1), eN, bD, bP, cD, wT, oP, bS, cS, wS) (tmP bS wS)).2.2.2.2.2.1 - 1)) ((dwQ (((skb M L aT) + 1), eN, bD, bP, cD, wT, oP, bS, cS, wS) (tmP bS wS)).2.2.2.2.2.2.1 - 1))) N) 247 39 = (nI ((dwQ (((skb M L aT) + 1), eN, bD, bP, cD, wT, oP, bS, cS, wS) (tmP bS wS)).2.2.2.2.2.1 - 1)) from rfl]
        refine gf_iald 700 dX12_goesOn_85 (gt_277 hG) (gl_277 hG) rfl (by omega) (by decide) ?_
        refine gf_bipush (20) dX12_goesOn_86 rfl ?_
        refine gf_icmp_eq 0 dX12_goesOn_88 rfl (fun zc88 => ?_) (fun zc88 => ?_)
        · exact gf_lw (K1 _ (show rI L (s6 (s5 (dwQ (((skb M L aT) + 1), eN, bD, bP, cD, wT, oP, bS, cS, wS) (tmP bS wS)) ((dwQ (((skb M L aT) + 1), eN, bD, bP, cD, wT, oP, bS, cS, wS) (tmP bS wS)).2.2.2.2.2.1 - 1)) ((dwQ (((skb M L aT) + 1), eN, bD, bP, cD, wT, oP, bS, cS, wS) (tmP bS wS)).2.2.2.2.2.2.1 - 1)) from ⟨by show skb M L aT + 1 ≤ L; omega, by show (dwQ (((skb M L aT) + 1), eN, bD, bP, cD, wT, oP, bS, cS, wS) (tmP bS wS)).2.2.2.2.1 + (((dwQ (((skb M L aT) + 1), eN, bD, bP, cD, wT, oP, bS, cS, wS) (tmP bS wS)).2.2.2.2.2.1 - 1)) ≤ (dwQ (((skb M L aT) + 1), eN, bD, bP, cD, wT, oP, bS, cS, wS) (tmP bS wS)).1 + 2; omega⟩) (by show aT + 1 ≤ skb M L aT + 1; omega) rfl zb0 (show gcB M L (aT, eN, bD, bP, cD, wT, oP, bS, cS, wS) = _ from (if_pos zc13).trans ((if_neg zc22).trans ((if_pos zc31).trans (if_pos zc88))))) ⟨rfl, trivial⟩
        · have hz9 := hm1
          refine gf_aload_n 0 dX12_goesOn_91 rfl rfl ?_
          refine gf_aload_n 0 dX12_goesOn_92 rfl rfl ?_
          refine gf_getR flX12_103 rfl dX12_goesOn_93 (gt_247 hG) (gp_247_38 hG) ?_
          refine gf_aload_n 0 dX12_goesOn_96 rfl rfl ?_
          refine gf_getI flX12_335 rfl dX12_goesOn_97 (gt_247 hG) ?_
          rw [show hp_i (hm h (pM M (s6 (s5 (dwQ (((skb M L aT) + 1), eN, bD, bP, cD, wT, oP, bS, cS, wS) (tmP bS wS)) ((dwQ (((skb M L aT) + 1), eN, bD, bP, cD, wT, oP, bS, cS, wS) (tmP bS wS)).2.2.2.2.2.1 - 1)) ((dwQ (((skb M L aT) + 1), eN, bD, bP, cD, wT, oP, bS, cS, wS) (tmP bS wS)).2.2.2.2.2.2.1 - 1))) N) 247 39 = (nI ((dwQ (((skb M L aT) + 1), eN, bD, bP, cD, wT, oP, bS, cS, wS) (tmP bS wS)).2.2.2.2.2.1 - 1)) from rfl]
          refine gf_iald 700 dX12_goesOn_100 (gt_277 hG) (gl_277 hG) rfl (by omega) (by decide) ?_
          refine gf_bipush (23) dX12_goesOn_101 rfl ?_
          refine gf_icmp_ne 110 dX12_goesOn_103 rfl (fun zc103 => ?_) (fun zc103 => ?_)
          · refine gf_bipush (6) dX12_goesOn_110 rfl ?_
            refine gf_callV cmX12_code lkX12_338 imX12_code seX12_code ⟨rfl, by decide⟩ dX12_goesOn_112 (d1 := d - 1) (by omega) (gt_247 hG) (e_X12_code E 6 h hG M N ((dwQ (((skb M L aT) + 1), eN, bD, bP, cD, wT, oP, bS, cS, wS) (tmP bS wS)).1) ((dwQ (((skb M L aT) + 1), eN, bD, bP, cD, wT, oP, bS, cS, wS) (tmP bS wS)).2.1) ((dwQ (((skb M L aT) + 1), eN, bD, bP, cD, wT, oP, bS, cS, wS) (tmP bS wS)).2.2.1) ((dwQ (((skb M L aT) + 1), eN, bD, bP, cD, wT, oP, bS, cS, wS) (tmP bS wS)).2.2.2.1) ((dwQ (((skb M L aT) + 1), eN, bD, bP, cD, wT, oP, bS, cS, wS) (tmP bS wS)).2.2.2.2.1) ((dwQ (((skb M L aT) + 1), eN, bD, bP, cD, wT, oP, bS, cS, wS) (tmP bS wS)).2.2.2.2.2.1 - 1) ((dwQ (((skb M L aT) + 1), eN, bD, bP, cD, wT, oP, bS, cS, wS) (tmP bS wS)).2.2.2.2.2.2.1 - 1) ((dwQ (((skb M L aT) + 1), eN, bD, bP, cD, wT, oP, bS, cS, wS) (tmP bS wS)).2.2.2.2.2.2.2.1) ((dwQ (((skb M L aT) + 1), eN, bD, bP, cD, wT, oP, bS, cS, wS) (tmP bS wS)).2.2.2.2.2.2.2.2.1) ((dwQ (((skb M L aT) + 1), eN, bD, bP, cD, wT, oP, bS, cS, wS) (tmP bS wS)).2.2.2.2.2.2.2.2.2) (by omega)) rfl rfl (Nat.le_of_ble_eq_true rfl) ?_
            have hI9 : rI L (cdS (s6 (s5 (dwQ (((skb M L aT) + 1), eN, bD, bP, cD, wT, oP, bS, cS, wS) (tmP bS wS)) ((dwQ (((skb M L aT) + 1), eN, bD, bP, cD, wT, oP, bS, cS, wS) (tmP bS wS)).2.2.2.2.2.1 - 1)) ((dwQ (((skb M L aT) + 1), eN, bD, bP, cD, wT, oP, bS, cS, wS) (tmP bS wS)).2.2.2.2.2.2.1 - 1)) 6) := cdS_I (by show skb M L aT + 1 ≤ L; omega) (by show (dwQ (((skb M L aT) + 1), eN, bD, bP, cD, wT, oP, bS, cS, wS) (tmP bS wS)).2.2.2.2.1 + (((dwQ (((skb M L aT) + 1), eN, bD, bP, cD, wT, oP, bS, cS, wS) (tmP bS wS)).2.2.2.2.2.1 - 1)) + 1 ≤ (dwQ (((skb M L aT) + 1), eN, bD, bP, cD, wT, oP, bS, cS, wS) (tmP bS wS)).1 + 2; omega)
            refine gf_goto 0 dX12_goesOn_115 rfl ?_
            exact gf_lw (K1 _ hI9 (by show aT + 1 ≤ skb M L aT + 1; omega) rfl zb0 (show gcB M L (aT, eN, bD, bP, cD, wT, oP, bS, cS, wS) = _ from (if_pos zc13).trans ((if_neg zc22).trans ((if_pos zc31).trans ((if_neg zc88).trans (if_neg zc103)))))) ⟨rfl, trivial⟩
          · refine gf_iconst (5) dX12_goesOn_106 rfl ?_
            refine gf_goto 112 dX12_goesOn_107 rfl ?_
            refine gf_callV cmX12_code lkX12_338 imX12_code seX12_code ⟨rfl, by decide⟩ dX12_goesOn_112 (d1 := d - 1) (by omega) (gt_247 hG) (e_X12_code E 5 h hG M N ((dwQ (((skb M L aT) + 1), eN, bD, bP, cD, wT, oP, bS, cS, wS) (tmP bS wS)).1) ((dwQ (((skb M L aT) + 1), eN, bD, bP, cD, wT, oP, bS, cS, wS) (tmP bS wS)).2.1) ((dwQ (((skb M L aT) + 1), eN, bD, bP, cD, wT, oP, bS, cS, wS) (tmP bS wS)).2.2.1) ((dwQ (((skb M L aT) + 1), eN, bD, bP, cD, wT, oP, bS, cS, wS) (tmP bS wS)).2.2.2.1) ((dwQ (((skb M L aT) + 1), eN, bD, bP, cD, wT, oP, bS, cS, wS) (tmP bS wS)).2.2.2.2.1) ((dwQ (((skb M L aT) + 1), eN, bD, bP, cD, wT, oP, bS, cS, wS) (tmP bS wS)).2.2.2.2.2.1 - 1) ((dwQ (((skb M L aT) + 1), eN, bD, bP, cD, wT, oP, bS, cS, wS) (tmP bS wS)).2.2.2.2.2.2.1 - 1) ((dwQ (((skb M L aT) + 1), eN, bD, bP, cD, wT, oP, bS, cS, wS) (tmP bS wS)).2.2.2.2.2.2.2.1) ((dwQ (((skb M L aT) + 1), eN, bD, bP, cD, wT, oP, bS, cS, wS) (tmP bS wS)).2.2.2.2.2.2.2.2.1) ((dwQ (((skb M L aT) + 1), eN, bD, bP, cD, wT, oP, bS, cS, wS) (tmP bS wS)).2.2.2.2.2.2.2.2.2) (by omega)) rfl rfl (Nat.le_of_ble_eq_true rfl) ?_
            have hI9 : rI L (cdS (s6 (s5 (dwQ (((skb M L aT) + 1), eN, bD, bP, cD, wT, oP, bS, cS, wS) (tmP bS wS)) ((dwQ (((skb M L aT) + 1), eN, bD, bP, cD, wT, oP, bS, cS, wS) (tmP bS wS)).2.2.2.2.2.1 - 1)) ((dwQ (((skb M L aT) + 1), eN, bD, bP, cD, wT, oP, bS, cS, wS) (tmP bS wS)).2.2.2.2.2.2.1 - 1)) 5) := cdS_I (by show skb M L aT + 1 ≤ L; omega) (by show (dwQ (((skb M L aT) + 1), eN, bD, bP, cD, wT, oP, bS, cS, wS) (tmP bS wS)).2.2.2.2.1 + (((dwQ (((skb M L aT) + 1), eN, bD, bP, cD, wT, oP, bS, cS, wS) (tmP bS wS)).2.2.2.2.2.1 - 1)) + 1 ≤ (dwQ (((skb M L aT) + 1), eN, bD, bP, cD, wT, oP, bS, cS, wS) (tmP bS wS)).1 + 2; omega)
            refine gf_goto 0 dX12_goesOn_115 rfl ?_
            exact gf_lw (K1 _ hI9 (by show aT + 1 ≤ skb M L aT + 1; omega) rfl zb0 (show gcB M L (aT, eN, bD, bP, cD, wT, oP, bS, cS, wS) = _ from (if_pos zc13).trans ((if_neg zc22).trans ((if_pos zc31).trans ((if_neg zc88).trans (if_pos zc103)))))) ⟨rfl, trivial⟩
      · refine gf_aload_n 0 dX12_goesOn_34 rfl rfl ?_
        refine gf_callV cmX12_mark lkX12_369 imX12_mark seX12_mark ⟨rfl, by decide⟩ dX12_goesOn_35 (d1 := d - 1) (by omega) (gt_247 hG) (e_X12_mark E (by omega) h hG M N (skb M L aT) eN bD bP cD wT oP bS cS wS (by omega) hbs) rfl rfl (Nat.le_of_ble_eq_true rfl) ?_
        refine gf_bipush (24) dX12_goesOn_38 rfl ?_
        refine gf_icmp_ne 118 dX12_goesOn_40 rfl (fun zc40 => ?_) (fun zc40 => ?_)
        · exact gf_lw (K2 _ hI1 (skb_skb hA0) rfl zb0 (show gcB M L (aT, eN, bD, bP, cD, wT, oP, bS, cS, wS) = _ from (if_pos zc13).trans ((if_neg zc22).trans ((if_neg zc31).trans (if_neg zc40))))) ⟨rfl, trivial⟩
        · refine gf_aload_n 0 dX12_goesOn_43 rfl rfl ?_
          refine gf_dup dX12_goesOn_44 rfl ?_
          refine gf_getI flX12_291 rfl dX12_goesOn_45 (gt_247 hG) ?_
          rw [show hp_i (hm h (pM M ((skb M L aT), eN, bD, bP, cD, wT, oP, bS, cS, wS)) N) 247 2 = (nI (skb M L aT)) from rfl]
          refine gf_iconst (1) dX12_goesOn_48 rfl ?_
          refine gf_iadd dX12_goesOn_49 ?_
          rw [nI_1 (skb M L aT)]
          refine gf_putI flX12_291 rfl rfl dX12_goesOn_50 (gt_247 hG) ⟨rfl, rfl⟩ ?_
          rw [mI_0, pM_2]
          have hI7 : rI L (((skb M L aT) + 1), eN, bD, bP, cD, wT, oP, bS, cS, wS) := (show rI L (((skb M L aT) + 1), eN, bD, bP, cD, wT, oP, bS, cS, wS) from ⟨lkV_lt (by decide) zc13, by show cD + wT ≤ skb M L aT + 1 + 2; omega⟩)
          have hA7 : ((skb M L aT) + 1) ≤ L := hI7.1
          have hB7 : cD + wT ≤ ((skb M L aT) + 1) + 2 := hI7.2
          refine gf_aload_n 0 dX12_goesOn_53 rfl rfl ?_
          refine gf_callV cmX12_dropsToMark lkX12_372 imX12_dropsToMark seX12_dropsToMark ⟨rfl, by decide⟩ dX12_goesOn_54 (d1 := d - 1) (by omega) (gt_247 hG) (e_X12_dropsToMark E (by omega) h hG M N ((skb M L aT) + 1) eN bD bP cD wT oP bS cS wS (by omega) (by omega) hbs) rfl rfl (Nat.le_of_ble_eq_true rfl) ?_
          change gf _ _ _ _ _ _ (hm h (pM M (dwQ (((skb M L aT) + 1), eN, bD, bP, cD, wT, oP, bS, cS, wS) (tmP bS wS))) N) _ _
          have hI8 : rI L (dwQ (((skb M L aT) + 1), eN, bD, bP, cD, wT, oP, bS, cS, wS) (tmP bS wS)) := dwQ_I hI7
          have hA8 : (dwQ (((skb M L aT) + 1), eN, bD, bP, cD, wT, oP, bS, cS, wS) (tmP bS wS)).1 ≤ L := hI8.1
          have hB8 : (dwQ (((skb M L aT) + 1), eN, bD, bP, cD, wT, oP, bS, cS, wS) (tmP bS wS)).2.2.2.2.1 + (dwQ (((skb M L aT) + 1), eN, bD, bP, cD, wT, oP, bS, cS, wS) (tmP bS wS)).2.2.2.2.2.1 ≤ (dwQ (((skb M L aT) + 1), eN, bD, bP, cD, wT, oP, bS, cS, wS) (tmP bS wS)).1 + 2 := hI8.2
          refine gf_aload_n 0 dX12_goesOn_57 rfl rfl ?_
          refine gf_dup dX12_goesOn_58 rfl ?_
          refine gf_getI flX12_335 rfl dX12_goesOn_59 (gt_247 hG) ?_
          rw [show hp_i (hm h (pM M (dwQ (((skb M L aT) + 1), eN, bD, bP, cD, wT, oP, bS, cS, wS) (tmP bS wS))) N) 247 39 = (nI ((dwQ (((skb M L aT) + 1), eN, bD, bP, cD, wT, oP, bS, cS, wS) (tmP bS wS)).2.2.2.2.2.1)) from rfl]
          refine gf_iconst (1) dX12_goesOn_62 rfl ?_
          refine gf_isub dX12_goesOn_63 ?_
          obtain ⟨m9, hm1, hm2, hm3, hm4⟩ := mk_dw (ws := wS) (b := bS) (v := 24) (by decide) wT cD cS (show mkF wS bS wT = 24 from zc40)
          have hw1 : 1 ≤ (dwQ (((skb M L aT) + 1), eN, bD, bP, cD, wT, oP, bS, cS, wS) (tmP bS wS)).2.2.2.2.2.1 := by show 1 ≤ (dwS wS (tmP bS wS) wT cD cS).1; omega
          rw [show nI ((dwQ (((skb M L aT) + 1), eN, bD, bP, cD, wT, oP, bS, cS, wS) (tmP bS wS)).2.2.2.2.2.1) - 1 = nI ((dwQ (((skb M L aT) + 1), eN, bD, bP, cD, wT, oP, bS, cS, wS) (tmP bS wS)).2.2.2.2.2.1 - 1) from pk_sub (b := 1) hw1]
          refine gf_putI flX12_335 rfl rfl dX12_goesOn_64 (gt_247 hG) ⟨rfl, rfl⟩ ?_
          rw [mI_0, pM_39]
          refine gf_aload_n 0 dX12_goesOn_67 rfl rfl ?_
          refine gf_dup dX12_goesOn_68 rfl ?_
          refine gf_getI flX12_332 rfl dX12_goesOn_69 (gt_247 hG) ?_
          rw [show hp_i (hm h (pM M (s5 (dwQ (((skb M L aT) + 1), eN, bD, bP, cD, wT, oP, bS, cS, wS) (tmP bS wS)) ((dwQ (((skb M L aT) + 1), eN, bD, bP, cD, wT, oP, bS, cS, wS) (tmP bS wS)).2.2.2.2.2.1 - 1))) N) 247 40 = (dwQ (((skb M L aT) + 1), eN, bD, bP, cD, wT, oP, bS, cS, wS) (tmP bS wS)).2.2.2.2.2.2.1 from rfl]
          refine gf_iconst (1) dX12_goesOn_72 rfl ?_
          refine gf_isub dX12_goesOn_73 ?_
          refine gf_putI flX12_332 rfl rfl dX12_goesOn_74 (gt_247 hG) ⟨rfl, rfl⟩ ?_
          rw [mI_0, pM_40]
          refine gf_aload_n 0 dX12_goesOn_77 rfl rfl ?_
          refine gf_getR flX12_103 rfl dX12_goesOn_78 (gt_247 hG) (gp_247_38 hG) ?_
          refine gf_aload_n 0 dX12_goesOn_81 rfl rfl ?_
          refine gf_getI flX12_335 rfl dX12_goesOn_82 (gt_247 hG) ?_
          rw [show hp_i (hm h (pM M (s6 (s5 (dwQ (((skb M L aT) + 1), eN, bD, bP, cD, wT, oP, bS, cS, wS) (tmP bS wS)) ((dwQ (((skb M L aT) + 1), eN, bD, bP, cD, wT, oP, bS, cS, wS) (tmP bS wS)).2.2.2.2.2.1 - 1)) ((dwQ (((skb M L aT) + 1), eN, bD, bP, cD, wT, oP, bS, cS, wS) (tmP bS wS)).2.2.2.2.2.2.1 - 1))) N) 247 39 = (nI ((dwQ (((skb M L aT) + 1), eN, bD, bP, cD, wT, oP, bS, cS, wS) (tmP bS wS)).2.2.2.2.2.1 - 1)) from rfl]
          refine gf_iald 700 dX12_goesOn_85 (gt_277 hG) (gl_277 hG) rfl (by omega) (by decide) ?_
          refine gf_bipush (20) dX12_goesOn_86 rfl ?_
          refine gf_icmp_eq 0 dX12_goesOn_88 rfl (fun zc88 => ?_) (fun zc88 => ?_)
          · exact gf_lw (K1 _ (show rI L (s6 (s5 (dwQ (((skb M L aT) + 1), eN, bD, bP, cD, wT, oP, bS, cS, wS) (tmP bS wS)) ((dwQ (((skb M L aT) + 1), eN, bD, bP, cD, wT, oP, bS, cS, wS) (tmP bS wS)).2.2.2.2.2.1 - 1)) ((dwQ (((skb M L aT) + 1), eN, bD, bP, cD, wT, oP, bS, cS, wS) (tmP bS wS)).2.2.2.2.2.2.1 - 1)) from ⟨by show skb M L aT + 1 ≤ L; omega, by show (dwQ (((skb M L aT) + 1), eN, bD, bP, cD, wT, oP, bS, cS, wS) (tmP bS wS)).2.2.2.2.1 + (((dwQ (((skb M L aT) + 1), eN, bD, bP, cD, wT, oP, bS, cS, wS) (tmP bS wS)).2.2.2.2.2.1 - 1)) ≤ (dwQ (((skb M L aT) + 1), eN, bD, bP, cD, wT, oP, bS, cS, wS) (tmP bS wS)).1 + 2; omega⟩) (by show aT + 1 ≤ skb M L aT + 1; omega) rfl zb0 (show gcB M L (aT, eN, bD, bP, cD, wT, oP, bS, cS, wS) = _ from (if_pos zc13).trans ((if_neg zc22).trans ((if_neg zc31).trans ((if_pos zc40).trans (if_pos zc88)))))) ⟨rfl, trivial⟩
          · have hz9 := hm1
            refine gf_aload_n 0 dX12_goesOn_91 rfl rfl ?_
            refine gf_aload_n 0 dX12_goesOn_92 rfl rfl ?_
            refine gf_getR flX12_103 rfl dX12_goesOn_93 (gt_247 hG) (gp_247_38 hG) ?_
            refine gf_aload_n 0 dX12_goesOn_96 rfl rfl ?_
            refine gf_getI flX12_335 rfl dX12_goesOn_97 (gt_247 hG) ?_
            rw [show hp_i (hm h (pM M (s6 (s5 (dwQ (((skb M L aT) + 1), eN, bD, bP, cD, wT, oP, bS, cS, wS) (tmP bS wS)) ((dwQ (((skb M L aT) + 1), eN, bD, bP, cD, wT, oP, bS, cS, wS) (tmP bS wS)).2.2.2.2.2.1 - 1)) ((dwQ (((skb M L aT) + 1), eN, bD, bP, cD, wT, oP, bS, cS, wS) (tmP bS wS)).2.2.2.2.2.2.1 - 1))) N) 247 39 = (nI ((dwQ (((skb M L aT) + 1), eN, bD, bP, cD, wT, oP, bS, cS, wS) (tmP bS wS)).2.2.2.2.2.1 - 1)) from rfl]
            refine gf_iald 700 dX12_goesOn_100 (gt_277 hG) (gl_277 hG) rfl (by omega) (by decide) ?_
            refine gf_bipush (23) dX12_goesOn_101 rfl ?_
            refine gf_icmp_ne 110 dX12_goesOn_103 rfl (fun zc103 => ?_) (fun zc103 => ?_)
            · refine gf_bipush (6) dX12_goesOn_110 rfl ?_
              refine gf_callV cmX12_code lkX12_338 imX12_code seX12_code ⟨rfl, by decide⟩ dX12_goesOn_112 (d1 := d - 1) (by omega) (gt_247 hG) (e_X12_code E 6 h hG M N ((dwQ (((skb M L aT) + 1), eN, bD, bP, cD, wT, oP, bS, cS, wS) (tmP bS wS)).1) ((dwQ (((skb M L aT) + 1), eN, bD, bP, cD, wT, oP, bS, cS, wS) (tmP bS wS)).2.1) ((dwQ (((skb M L aT) + 1), eN, bD, bP, cD, wT, oP, bS, cS, wS) (tmP bS wS)).2.2.1) ((dwQ (((skb M L aT) + 1), eN, bD, bP, cD, wT, oP, bS, cS, wS) (tmP bS wS)).2.2.2.1) ((dwQ (((skb M L aT) + 1), eN, bD, bP, cD, wT, oP, bS, cS, wS) (tmP bS wS)).2.2.2.2.1) ((dwQ (((skb M L aT) + 1), eN, bD, bP, cD, wT, oP, bS, cS, wS) (tmP bS wS)).2.2.2.2.2.1 - 1) ((dwQ (((skb M L aT) + 1), eN, bD, bP, cD, wT, oP, bS, cS, wS) (tmP bS wS)).2.2.2.2.2.2.1 - 1) ((dwQ (((skb M L aT) + 1), eN, bD, bP, cD, wT, oP, bS, cS, wS) (tmP bS wS)).2.2.2.2.2.2.2.1) ((dwQ (((skb M L aT) + 1), eN, bD, bP, cD, wT, oP, bS, cS, wS) (tmP bS wS)).2.2.2.2.2.2.2.2.1) ((dwQ (((skb M L aT) + 1), eN, bD, bP, cD, wT, oP, bS, cS, wS) (tmP bS wS)).2.2.2.2.2.2.2.2.2) (by omega)) rfl rfl (Nat.le_of_ble_eq_true rfl) ?_
              have hI9 : rI L (cdS (s6 (s5 (dwQ (((skb M L aT) + 1), eN, bD, bP, cD, wT, oP, bS, cS, wS) (tmP bS wS)) ((dwQ (((skb M L aT) + 1), eN, bD, bP, cD, wT, oP, bS, cS, wS) (tmP bS wS)).2.2.2.2.2.1 - 1)) ((dwQ (((skb M L aT) + 1), eN, bD, bP, cD, wT, oP, bS, cS, wS) (tmP bS wS)).2.2.2.2.2.2.1 - 1)) 6) := cdS_I (by show skb M L aT + 1 ≤ L; omega) (by show (dwQ (((skb M L aT) + 1), eN, bD, bP, cD, wT, oP, bS, cS, wS) (tmP bS wS)).2.2.2.2.1 + (((dwQ (((skb M L aT) + 1), eN, bD, bP, cD, wT, oP, bS, cS, wS) (tmP bS wS)).2.2.2.2.2.1 - 1)) + 1 ≤ (dwQ (((skb M L aT) + 1), eN, bD, bP, cD, wT, oP, bS, cS, wS) (tmP bS wS)).1 + 2; omega)
              refine gf_goto 0 dX12_goesOn_115 rfl ?_
              exact gf_lw (K1 _ hI9 (by show aT + 1 ≤ skb M L aT + 1; omega) rfl zb0 (show gcB M L (aT, eN, bD, bP, cD, wT, oP, bS, cS, wS) = _ from (if_pos zc13).trans ((if_neg zc22).trans ((if_neg zc31).trans ((if_pos zc40).trans ((if_neg zc88).trans (if_neg zc103))))))) ⟨rfl, trivial⟩
            · refine gf_iconst (5) dX12_goesOn_106 rfl ?_
              refine gf_goto 112 dX12_goesOn_107 rfl ?_
              refine gf_callV cmX12_code lkX12_338 imX12_code seX12_code ⟨rfl, by decide⟩ dX12_goesOn_112 (d1 := d - 1) (by omega) (gt_247 hG) (e_X12_code E 5 h hG M N ((dwQ (((skb M L aT) + 1), eN, bD, bP, cD, wT, oP, bS, cS, wS) (tmP bS wS)).1) ((dwQ (((skb M L aT) + 1), eN, bD, bP, cD, wT, oP, bS, cS, wS) (tmP bS wS)).2.1) ((dwQ (((skb M L aT) + 1), eN, bD, bP, cD, wT, oP, bS, cS, wS) (tmP bS wS)).2.2.1) ((dwQ (((skb M L aT) + 1), eN, bD, bP, cD, wT, oP, bS, cS, wS) (tmP bS wS)).2.2.2.1) ((dwQ (((skb M L aT) + 1), eN, bD, bP, cD, wT, oP, bS, cS, wS) (tmP bS wS)).2.2.2.2.1) ((dwQ (((skb M L aT) + 1), eN, bD, bP, cD, wT, oP, bS, cS, wS) (tmP bS wS)).2.2.2.2.2.1 - 1) ((dwQ (((skb M L aT) + 1), eN, bD, bP, cD, wT, oP, bS, cS, wS) (tmP bS wS)).2.2.2.2.2.2.1 - 1) ((dwQ (((skb M L aT) + 1), eN, bD, bP, cD, wT, oP, bS, cS, wS) (tmP bS wS)).2.2.2.2.2.2.2.1) ((dwQ (((skb M L aT) + 1), eN, bD, bP, cD, wT, oP, bS, cS, wS) (tmP bS wS)).2.2.2.2.2.2.2.2.1) ((dwQ (((skb M L aT) + 1), eN, bD, bP, cD, wT, oP, bS, cS, wS) (tmP bS wS)).2.2.2.2.2.2.2.2.2) (by omega)) rfl rfl (Nat.le_of_ble_eq_true rfl) ?_
              have hI9 : rI L (cdS (s6 (s5 (dwQ (((skb M L aT) + 1), eN, bD, bP, cD, wT, oP, bS, cS, wS) (tmP bS wS)) ((dwQ (((skb M L aT) + 1), eN, bD, bP, cD, wT, oP, bS, cS, wS) (tmP bS wS)).2.2.2.2.2.1 - 1)) ((dwQ (((skb M L aT) + 1), eN, bD, bP, cD, wT, oP, bS, cS, wS) (tmP bS wS)).2.2.2.2.2.2.1 - 1)) 5) := cdS_I (by show skb M L aT + 1 ≤ L; omega) (by show (dwQ (((skb M L aT) + 1), eN, bD, bP, cD, wT, oP, bS, cS, wS) (tmP bS wS)).2.2.2.2.1 + (((dwQ (((skb M L aT) + 1), eN, bD, bP, cD, wT, oP, bS, cS, wS) (tmP bS wS)).2.2.2.2.2.1 - 1)) + 1 ≤ (dwQ (((skb M L aT) + 1), eN, bD, bP, cD, wT, oP, bS, cS, wS) (tmP bS wS)).1 + 2; omega)
              refine gf_goto 0 dX12_goesOn_115 rfl ?_
              exact gf_lw (K1 _ hI9 (by show aT + 1 ≤ skb M L aT + 1; omega) rfl zb0 (show gcB M L (aT, eN, bD, bP, cD, wT, oP, bS, cS, wS) = _ from (if_pos zc13).trans ((if_neg zc22).trans ((if_neg zc31).trans ((if_pos zc40).trans ((if_neg zc88).trans (if_pos zc103))))))) ⟨rfl, trivial⟩
def gcF (M : mM) (L : Nat) : Nat → pS → pS
  | 0, q => q
  | k + 1, q => if (gcB M L q).1 = true then gcF M L k (gcB M L q).2 else (gcB M L q).2
theorem l_gc (E : gE) {d : Nat} (hd : 4 ≤ d) {L : Nat} (h : hp_T) (hG : gr h) (M : mM) (N : mN) (T : tpI M L) {b : Nat} (hb9 : b < 1000) {v : Option Value} {hz : hp_T} {r : pS} (K : rI L r → skb M L r.1 = r.1 → r.2.2.2.2.2.2.2.1 = b → r.2.2.1 = 0 → gf E mX12_goesOn d 118 [(0, .ref (E.1 + 247))] [] (hm h (pM M r) N) v hz) : ∀ (kz : Nat) (q : pS), rI L q → q.2.2.2.2.2.2.2.1 = b → q.2.2.1 = 0 → L - q.1 < kz → gcF M L kz q = r → gf E mX12_goesOn d 0 [(0, .ref (E.1 + 247))] [] (hm h (pM M q) N) v hz := by
  intro kz
  induction kz with
  | zero => intro q _ _ _ h; exact absurd h (Nat.not_lt_zero _)
  | succ kz ih =>
    intro q Iq hbq zb0 hm9 hr
    obtain ⟨aT, eN, bD, bP, cD, wT, oP, bS, cS, wS⟩ := q
    have hbq : bS = b := hbq
    have hm9 : L - aT < kz + 1 := hm9
    refine l_gcB E hd h hG M N T aT eN bD bP cD wT oP bS cS wS Iq (by omega) zb0 (fun q' I' hp hb' h0 he => ?_) (fun q' I' hs hb' h0 he => ?_)
    · rw [show gcF M L (kz + 1) (aT, eN, bD, bP, cD, wT, oP, bS, cS, wS) = gcF M L kz q' from by show (if (gcB M L (aT, eN, bD, bP, cD, wT, oP, bS, cS, wS)).1 = true then gcF M L kz (gcB M L (aT, eN, bD, bP, cD, wT, oP, bS, cS, wS)).2 else (gcB M L (aT, eN, bD, bP, cD, wT, oP, bS, cS, wS)).2) = _; rw [he]; exact if_pos rfl] at hr
      exact ih q' I' (hb'.trans hbq) h0 (by have := I'.1; omega) hr
    · rw [show gcF M L (kz + 1) (aT, eN, bD, bP, cD, wT, oP, bS, cS, wS) = q' from by show (if (gcB M L (aT, eN, bD, bP, cD, wT, oP, bS, cS, wS)).1 = true then gcF M L kz (gcB M L (aT, eN, bD, bP, cD, wT, oP, bS, cS, wS)).2 else (gcB M L (aT, eN, bD, bP, cD, wT, oP, bS, cS, wS)).2) = _; rw [he]; exact if_neg (fun z => Bool.noConfusion z)] at hr
      subst hr
      exact K I' hs (hb'.trans hbq) h0
