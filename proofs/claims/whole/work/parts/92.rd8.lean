/-! ===== the reference's reader: tests ===== -/
theorem cdS_T {L : Nat} {q a : pS} {v : Int32} (h : okT L q a) (I : rI L q) (hs : cwQ a + q.1 + 1 ≤ cwQ q + a.1) : okT L q (cdS a v) := by
  have h2 := I.2
  refine ⟨⟨h.1.1, ?_⟩, h.2.1, h.2.2.1, ?_⟩
  · show a.2.2.2.2.1 + 1 + a.2.2.2.2.2.1 ≤ a.1 + 2
    have : a.2.2.2.2.1 + a.2.2.2.2.2.1 + q.1 + 1 ≤ q.2.2.2.2.1 + q.2.2.2.2.2.1 + a.1 := hs
    omega
  · show a.2.2.2.2.1 + 1 + a.2.2.2.2.2.1 + q.1 ≤ q.2.2.2.2.1 + q.2.2.2.2.2.1 + a.1
    have : a.2.2.2.2.1 + a.2.2.2.2.2.1 + q.1 + 1 ≤ q.2.2.2.2.1 + q.2.2.2.2.2.1 + a.1 := hs
    omega
theorem fac3_e (c : Int32) (q : pS) : ∃ v, fac3 c q = cdS q v := by
  obtain ⟨aT, eN, bD, bP, cD, wT, oP, bS, cS, wS⟩ := q
  by_cases h : c = 60
  · exact ⟨11, if_pos h⟩
  · by_cases h2 : c = 62
    · exact ⟨12, (if_neg h).trans (if_pos h2)⟩
    · exact ⟨13, (if_neg h).trans (if_neg h2)⟩
theorem fac2_T {M : mM} {L : Nat} {q : pS} (hL6 : L ≤ 600) (I : rI L q) : okT L q (fac2 M L q) := by
  obtain ⟨aT, eN, bD, bP, cD, wT, oP, bS, cS, wS⟩ := q
  have hk : aT ≤ skb M L aT := (skb_le (M := M) (L := L) (a := aT)).1
  have hB : cD + wT ≤ aT + 2 := I.2
  have go : ∀ c : Int32, ¬ c = -1 → lkV M L aT = c → okT L (aT, eN, bD, bP, cD, wT, oP, bS, cS, wS) (fac3 (lkV M L aT) (sumS M L (skb M L aT + 1, eN, bD, bP, cD, wT, oP, bS, cS, wS))) := fun c hc h => by
    have hl := lkV_lt hc h
    have I1 : rI L (skb M L aT + 1, eN, bD, bP, cD, wT, oP, bS, cS, wS) := ⟨hl, by show cD + wT ≤ skb M L aT + 1 + 2; omega⟩
    have T1 := sumS_T (M := M) hL6 I1
    have T0 : okT L (aT, eN, bD, bP, cD, wT, oP, bS, cS, wS) (skb M L aT + 1, eN, bD, bP, cD, wT, oP, bS, cS, wS) := ⟨I1, by show aT ≤ skb M L aT + 1; omega, rfl, by show cD + wT + aT ≤ cD + wT + (skb M L aT + 1); omega⟩
    obtain ⟨v, e⟩ := fac3_e (lkV M L aT) (sumS M L (skb M L aT + 1, eN, bD, bP, cD, wT, oP, bS, cS, wS))
    rw [e]
    refine cdS_T (okT_t T0 T1) I ?_
    have h4 : cwQ (sumS M L (skb M L aT + 1, eN, bD, bP, cD, wT, oP, bS, cS, wS)) + (skb M L aT + 1) ≤ cD + wT + (sumS M L (skb M L aT + 1, eN, bD, bP, cD, wT, oP, bS, cS, wS)).1 := T1.2.2.2
    show cwQ (sumS M L (skb M L aT + 1, eN, bD, bP, cD, wT, oP, bS, cS, wS)) + aT + 1 ≤ cD + wT + (sumS M L (skb M L aT + 1, eN, bD, bP, cD, wT, oP, bS, cS, wS)).1
    omega
  unfold fac2
  dsimp only
  split
  · split
    · rename_i h; exact go 60 (by decide) h
    · split
      · rename_i h; exact go 62 (by decide) h
      · split
        · rename_i h; exact go 61 (by decide) h
        · exact okT_t (skb_T I) (flS_T (skb_I (M := M) I))
  · exact okT_r I
theorem facS_T {M : mM} {L : Nat} {q : pS} (hL6 : L ≤ 600) (I : rI L q) : okT L q (facS9 M L q) := by
  obtain ⟨aT, eN, bD, bP, cD, wT, oP, bS, cS, wS⟩ := q
  unfold facS9
  dsimp only
  split
  · rename_i zt1
    split
    · rename_i zt2
      exact okT_t (sumS_T hL6 I) (fac2_T hL6 (sumS_T (M := M) hL6 I).1)
    · rename_i zt3
      have h0 := tkS_P (bI_t zt3)
      have T1 := tkS_T (M := M) (l := 6) (f := M 15) I
      have T2 := nbV_T (M := M) (lo := 0) (hi := 8) T1.1
      refine cdS_T (okT_t T1 T2) I ?_
      have h4 := T2.2.2.2
      have e4 : cwQ (tkS9 M L (aT, eN, bD, bP, cD, wT, oP, bS, cS, wS) 6 (M 15)) = cD + wT := by rw [h0.1]
      have e1 : (tkS9 M L (aT, eN, bD, bP, cD, wT, oP, bS, cS, wS) 6 (M 15)).1 = skb M L aT + 6 := by rw [h0.1]
      rw [e4, e1] at h4
      have h5 := (skb_le (M := M) (L := L) (a := aT)).1
      show _ + aT + 1 ≤ cD + wT + _
      omega
  · rename_i zt4
    exact cdT_T I (by decide) (bI_t zt4)
theorem dnQ_b (q : pS) : (dnQ q).2.2.1 = q.2.2.1 ∧ (dnQ q).1 = q.1 := by
  unfold dnQ
  split
  · exact ⟨rfl, rfl⟩
  · exact ⟨rfl, rfl⟩
theorem dnQ_T {L : Nat} {q : pS} (I : rI L q) : okT L q (dnQ q) := by
  have hI := dnQ_I I
  unfold dnQ at hI ⊢
  split
  · rename_i h
    rw [if_pos h] at hI
    have h := dnF_le q.2.2.2.2.2.2.2.2.2 q.2.2.2.2.2.1 q.2.2.2.2.1 q.2.2.2.2.2.2.1 q.2.2.2.2.2.2.2.2.1
    exact ⟨hI, Nat.le_refl _, rfl, by show (dnF _ _ _ _ _).2.1 + (dnF _ _ _ _ _).1 + q.1 ≤ q.2.2.2.2.1 + q.2.2.2.2.2.1 + q.1; omega⟩
  · exact okT_r I
/-- a square waits: dropping down to it stops above the ground -/
abbrev nsP (ws : Nat → Int32) : Nat → Bool := fun i => !decide (ws i = 25)
theorem hs_dw {ws : Nat → Int32} : ∀ (w c : Nat) (s : Nat → Int32), anyb (fun k => decide (ws k = 25)) w = true → ∃ m, (dwS ws (nsP ws) w c s).1 = m + 1 ∧ ws m = 25 ∧ m < w
  | 0, _, _, h => by cases h
  | w + 1, c, s, h => by
    unfold dwS
    by_cases q : ws w = 25
    · rw [if_neg (by show ¬ (!decide (ws w = 25)) = true; rw [decide_eq_true q]; decide)]
      exact ⟨w, rfl, q, Nat.lt_succ_self w⟩
    · rw [if_pos (by show (!decide (ws w = 25)) = true; rw [decide_eq_false q]; rfl)]
      have h2 : anyb (fun k => decide (ws k = 25)) w = true := by
        unfold anyb at h
        rw [decide_eq_false q, Bool.or_false] at h
        exact h
      obtain ⟨m, e, f, g⟩ := hs_dw w (c + 1) (va_up s c (ws w)) h2
      exact ⟨m, e, f, by omega⟩
theorem l_tns (E : gE) {d : Nat} (hd : 2 ≤ d) (h : hp_T) (hG : gr h) (M : mM) (N : mN) (aT : Nat) (eN bD bP oP : Int32) (bS : Nat) (wS : Nat → Int32) {v : Option Value} {hz : hp_T} {r : Nat × Nat × (Nat → Int32)} (K : gf E mX12_goesOnTest d 49 [(0, .ref (E.1 + 247))] [] (hm h (pM M (aT, eN, bD, bP, r.2.1, r.1, oP, bS, r.2.2, wS)) N) v hz) : ∀ (w c : Nat) (s : Nat → Int32), w ≤ 700 → w + c ≤ 100000 → anyb (fun k => decide (wS k = 25)) w = true → (dwS wS (nsP wS) w c s) = r → gf E mX12_goesOnTest d 33 [(0, .ref (E.1 + 247))] [] (hm h (pM M (aT, eN, bD, bP, c, w, oP, bS, s, wS)) N) v hz := by
  intro w
  induction w with
  | zero =>
    intro c s _ _ hq
    cases hq
  | succ w ih =>
    intro c s hw hc hq hr
    refine gf_aload_n 0 dX12_goesOnTest_33 rfl rfl ?_
    refine gf_bipush (25) dX12_goesOnTest_34 rfl ?_
    refine gf_callV cmX12_isOn lkX12_375 imX12_isOn seX12_isOn ⟨rfl, by decide⟩ dX12_goesOnTest_36 (d1 := d - 1) (by omega) (gt_247 hG) (e_X12_isOn E 25 h hG M N aT eN bD bP c (w + 1) oP bS s wS (by omega)) rfl rfl (Nat.le_of_ble_eq_true rfl) ?_
    refine gf_if_ne 49 dX12_goesOnTest_39 rfl (fun zc39 => ?_) (fun zc39 => ?_)
    · have q9 : wS w = 25 := of_decide_eq_true (show decide (wS w = 25) = true from bI_t zc39)
      rw [show dwS wS (nsP wS) (w + 1) c s = (w + 1, c, s) from if_neg (by show ¬ (!decide (wS w = 25)) = true; rw [decide_eq_true q9]; decide)] at hr
      subst hr
      exact gf_lw K ⟨rfl, trivial⟩
    · have q9 : ¬ wS w = 25 := of_decide_eq_false (show decide (wS w = 25) = false from bI_f zc39)
      have hq2 : anyb (fun k => decide (wS k = 25)) w = true := by
        unfold anyb at hq
        rw [decide_eq_false q9, Bool.or_false] at hq
        exact hq
      rw [show dwS wS (nsP wS) (w + 1) c s = dwS wS (nsP wS) w (c + 1) (va_up s c (wS w)) from if_pos (by show (!decide (wS w = 25)) = true; rw [decide_eq_false q9]; rfl)] at hr
      refine gf_aload_n 0 dX12_goesOnTest_42 rfl rfl ?_
      refine gf_callV cmX12_drops lkX12_348 imX12_drops seX12_drops ⟨rfl, by decide⟩ dX12_goesOnTest_43 (d1 := d - 1) (by omega) (gt_247 hG) (e_X12_drops E (by omega) h hG M N aT eN bD bP c (w + 1) oP bS s wS (by omega) (by omega) (by omega)) rfl rfl (Nat.le_of_ble_eq_true rfl) ?_
      refine gf_goto 33 dX12_goesOnTest_46 rfl ?_
      exact gf_lw (ih (c + 1) (va_up s c (wS w)) (by omega) (by omega) hq2 hr) ⟨rfl, trivial⟩
def gtB (M : mM) (L : Nat) : pS → Bool × pS := fun (aT, eN, bD, bP, cD, wT, oP, bS, cS, wS) => (if (lkV M L aT) = 93 then (if (bI (hsV ((skb M L aT), eN, bD, bP, cD, wT, oP, bS, cS, wS))) = 0 then (false, ((skb M L aT), eN, bD, bP, cD, wT, oP, bS, cS, wS)) else (true, (dnQ (s6 (s5 (dwQ ((skb M L aT + 1), eN, bD, bP, cD, wT, oP, bS, cS, wS) (nsP wS)) ((dwQ ((skb M L aT + 1), eN, bD, bP, cD, wT, oP, bS, cS, wS) (nsP wS)).2.2.2.2.2.1 - 1)) ((dwQ ((skb M L aT + 1), eN, bD, bP, cD, wT, oP, bS, cS, wS) (nsP wS)).2.2.2.2.2.2.1 - 1))))) else (false, ((skb M L aT), eN, bD, bP, cD, wT, oP, bS, cS, wS)))
theorem l_gtB (E : gE) {d : Nat} (hd : 4 ≤ d) {L : Nat} (h : hp_T) (hG : gr h) (M : mM) (N : mN) (T : tpI M L) (aT : Nat) (eN bD bP : Int32) (cD wT : Nat) (oP : Int32) (bS : Nat) (cS wS : Nat → Int32) (I0 : rI L (aT, eN, bD, bP, cD, wT, oP, bS, cS, wS)) (zb0 : bD = 0) {v : Option Value} {hz : hp_T} (K1 : ∀ q', okT L (aT, eN, bD, bP, cD, wT, oP, bS, cS, wS) q' → aT + 1 ≤ q'.1 → q'.2.2.1 = 0 → gtB M L (aT, eN, bD, bP, cD, wT, oP, bS, cS, wS) = (true, q') → gf E mX12_goesOnTest d 0 [(0, .ref (E.1 + 247))] [] (hm h (pM M q') N) v hz) (K2 : ∀ q', okT L (aT, eN, bD, bP, cD, wT, oP, bS, cS, wS) q' → skb M L q'.1 = q'.1 → q'.2.2.1 = 0 → gtB M L (aT, eN, bD, bP, cD, wT, oP, bS, cS, wS) = (false, q') → gf E mX12_goesOnTest d 76 [(0, .ref (E.1 + 247))] [] (hm h (pM M q') N) v hz) : gf E mX12_goesOnTest d 0 [(0, .ref (E.1 + 247))] [] (hm h (pM M (aT, eN, bD, bP, cD, wT, oP, bS, cS, wS)) N) v hz := by
  have hL6 := T.2.1
  have hA0 : aT ≤ L := I0.1
  have hB0 : cD + wT ≤ aT + 2 := I0.2
  have hsk := skb_le (M := M) (L := L) (a := aT)
  refine gf_aload_n 0 dX12_goesOnTest_0 rfl rfl ?_
  refine gf_getI flX12_285 rfl dX12_goesOnTest_1 (gt_247 hG) ?_
  rw [show hp_i (hm h (pM M (aT, eN, bD, bP, cD, wT, oP, bS, cS, wS)) N) 247 5 = bD from rfl]
  refine gf_if_ne 76 dX12_goesOnTest_4 rfl (fun q => absurd (zb0) q) (fun _ => ?_)
  refine gf_aload_n 0 dX12_goesOnTest_7 rfl rfl ?_
  refine gf_callV cmX12_look lkX12_297 imX12_look seX12_look ⟨rfl, by decide⟩ dX12_goesOnTest_8 (d1 := d - 1) (by omega) (gt_247 hG) (e_X12_look E h hG M N T aT eN bD bP cD wT oP bS cS wS (by omega)) rfl rfl (Nat.le_of_ble_eq_true rfl) ?_
  have hI1 : rI L ((skb M L aT), eN, bD, bP, cD, wT, oP, bS, cS, wS) := skb_I I0
  have hA1 : (skb M L aT) ≤ L := hI1.1
  have hB1 : cD + wT ≤ (skb M L aT) + 2 := hI1.2
  refine gf_bipush (93) dX12_goesOnTest_11 rfl ?_
  refine gf_icmp_ne 76 dX12_goesOnTest_13 rfl (fun zc13 => ?_) (fun zc13 => ?_)
  · exact gf_lw (K2 _ (skb_T I0) (skb_skb hA0) zb0 (show gtB M L (aT, eN, bD, bP, cD, wT, oP, bS, cS, wS) = _ from if_neg zc13)) ⟨rfl, trivial⟩
  · refine gf_aload_n 0 dX12_goesOnTest_16 rfl rfl ?_
    refine gf_callV cmX12_hasSquare lkX12_397 imX12_hasSquare seX12_hasSquare ⟨rfl, by decide⟩ dX12_goesOnTest_17 (d1 := d - 1) (by omega) (gt_247 hG) (e_X12_hasSquare E h hG M N (skb M L aT) eN bD bP cD wT oP bS cS wS (by omega)) rfl rfl (Nat.le_of_ble_eq_true rfl) ?_
    refine gf_if_eq 76 dX12_goesOnTest_20 rfl (fun zc20 => ?_) (fun zc20 => ?_)
    · exact gf_lw (K2 _ (skb_T I0) (skb_skb hA0) zb0 (show gtB M L (aT, eN, bD, bP, cD, wT, oP, bS, cS, wS) = _ from (if_pos zc13).trans (if_pos zc20))) ⟨rfl, trivial⟩
    · refine gf_aload_n 0 dX12_goesOnTest_23 rfl rfl ?_
      refine gf_dup dX12_goesOnTest_24 rfl ?_
      refine gf_getI flX12_291 rfl dX12_goesOnTest_25 (gt_247 hG) ?_
      rw [show hp_i (hm h (pM M ((skb M L aT), eN, bD, bP, cD, wT, oP, bS, cS, wS)) N) 247 2 = (nI (skb M L aT)) from rfl]
      refine gf_iconst (1) dX12_goesOnTest_28 rfl ?_
      refine gf_iadd dX12_goesOnTest_29 ?_
      rw [nI_1 (skb M L aT)]
      refine gf_putI flX12_291 rfl rfl dX12_goesOnTest_30 (gt_247 hG) ⟨rfl, rfl⟩ ?_
      rw [mI_0, pM_2]
      have hq9 : anyb (fun k => decide (wS k = 25)) wT = true := bI_t zc20
      have hlt : skb M L aT < L := lkV_lt (by decide) zc13
      have I1 : rI L ((skb M L aT + 1), eN, bD, bP, cD, wT, oP, bS, cS, wS) := ⟨hlt, by show cD + wT ≤ skb M L aT + 1 + 2; omega⟩
      refine gf_lw (l_tns E (by omega) h hG M N (skb M L aT + 1) eN bD bP oP bS wS (r := dwS wS (nsP wS) wT cD cS) ?_ wT cD cS (by omega) (by omega) hq9 rfl) ⟨rfl, trivial⟩
      change gf _ _ _ _ _ _ (hm h (pM M (dwQ ((skb M L aT + 1), eN, bD, bP, cD, wT, oP, bS, cS, wS) (nsP wS))) N) _ _
      obtain ⟨m9, hm1, hm2, hm3⟩ := hs_dw wT cD cS hq9
      have hd9 := dwS_le wS (nsP wS) wT cD cS
      have hw1 : 1 ≤ (dwQ ((skb M L aT + 1), eN, bD, bP, cD, wT, oP, bS, cS, wS) (nsP wS)).2.2.2.2.2.1 := by show 1 ≤ (dwS wS (nsP wS) wT cD cS).1; omega
      have hsum : (dwQ ((skb M L aT + 1), eN, bD, bP, cD, wT, oP, bS, cS, wS) (nsP wS)).2.2.2.2.2.1 + (dwQ ((skb M L aT + 1), eN, bD, bP, cD, wT, oP, bS, cS, wS) (nsP wS)).2.2.2.2.1 = wT + cD := hd9
      refine gf_aload_n 0 dX12_goesOnTest_49 rfl rfl ?_
      refine gf_dup dX12_goesOnTest_50 rfl ?_
      refine gf_getI flX12_335 rfl dX12_goesOnTest_51 (gt_247 hG) ?_
      rw [show hp_i (hm h (pM M (dwQ ((skb M L aT + 1), eN, bD, bP, cD, wT, oP, bS, cS, wS) (nsP wS))) N) 247 39 = (nI ((dwQ ((skb M L aT + 1), eN, bD, bP, cD, wT, oP, bS, cS, wS) (nsP wS)).2.2.2.2.2.1)) from rfl]
      refine gf_iconst (1) dX12_goesOnTest_54 rfl ?_
      refine gf_isub dX12_goesOnTest_55 ?_
      rw [show nI ((dwQ ((skb M L aT + 1), eN, bD, bP, cD, wT, oP, bS, cS, wS) (nsP wS)).2.2.2.2.2.1) - 1 = nI ((dwQ ((skb M L aT + 1), eN, bD, bP, cD, wT, oP, bS, cS, wS) (nsP wS)).2.2.2.2.2.1 - 1) from pk_sub (b := 1) hw1]
      refine gf_putI flX12_335 rfl rfl dX12_goesOnTest_56 (gt_247 hG) ⟨rfl, rfl⟩ ?_
      rw [mI_0, pM_39]
      refine gf_aload_n 0 dX12_goesOnTest_59 rfl rfl ?_
      refine gf_dup dX12_goesOnTest_60 rfl ?_
      refine gf_getI flX12_332 rfl dX12_goesOnTest_61 (gt_247 hG) ?_
      rw [show hp_i (hm h (pM M (s5 (dwQ ((skb M L aT + 1), eN, bD, bP, cD, wT, oP, bS, cS, wS) (nsP wS)) ((dwQ ((skb M L aT + 1), eN, bD, bP, cD, wT, oP, bS, cS, wS) (nsP wS)).2.2.2.2.2.1 - 1))) N) 247 40 = (dwQ ((skb M L aT + 1), eN, bD, bP, cD, wT, oP, bS, cS, wS) (nsP wS)).2.2.2.2.2.2.1 from rfl]
      refine gf_iconst (1) dX12_goesOnTest_64 rfl ?_
      refine gf_isub dX12_goesOnTest_65 ?_
      refine gf_putI flX12_332 rfl rfl dX12_goesOnTest_66 (gt_247 hG) ⟨rfl, rfl⟩ ?_
      rw [mI_0, pM_40]
      refine gf_aload_n 0 dX12_goesOnTest_69 rfl rfl ?_
      refine gf_callV cmX12_dropsNots lkX12_391 imX12_dropsNots seX12_dropsNots ⟨rfl, by decide⟩ dX12_goesOnTest_70 (d1 := d - 1) (by omega) (gt_247 hG) (e_X12_dropsNots E (by omega) h hG M N ((dwQ ((skb M L aT + 1), eN, bD, bP, cD, wT, oP, bS, cS, wS) (nsP wS)).1) ((dwQ ((skb M L aT + 1), eN, bD, bP, cD, wT, oP, bS, cS, wS) (nsP wS)).2.1) ((dwQ ((skb M L aT + 1), eN, bD, bP, cD, wT, oP, bS, cS, wS) (nsP wS)).2.2.1) ((dwQ ((skb M L aT + 1), eN, bD, bP, cD, wT, oP, bS, cS, wS) (nsP wS)).2.2.2.1) ((dwQ ((skb M L aT + 1), eN, bD, bP, cD, wT, oP, bS, cS, wS) (nsP wS)).2.2.2.2.1) ((dwQ ((skb M L aT + 1), eN, bD, bP, cD, wT, oP, bS, cS, wS) (nsP wS)).2.2.2.2.2.1 - 1) ((dwQ ((skb M L aT + 1), eN, bD, bP, cD, wT, oP, bS, cS, wS) (nsP wS)).2.2.2.2.2.2.1 - 1) ((dwQ ((skb M L aT + 1), eN, bD, bP, cD, wT, oP, bS, cS, wS) (nsP wS)).2.2.2.2.2.2.2.1) ((dwQ ((skb M L aT + 1), eN, bD, bP, cD, wT, oP, bS, cS, wS) (nsP wS)).2.2.2.2.2.2.2.2.1) ((dwQ ((skb M L aT + 1), eN, bD, bP, cD, wT, oP, bS, cS, wS) (nsP wS)).2.2.2.2.2.2.2.2.2) (by omega) (by omega)) rfl rfl (Nat.le_of_ble_eq_true rfl) ?_
      refine gf_goto 0 dX12_goesOnTest_73 rfl ?_
      have T9 : okT L (aT, eN, bD, bP, cD, wT, oP, bS, cS, wS) (s6 (s5 (dwQ ((skb M L aT + 1), eN, bD, bP, cD, wT, oP, bS, cS, wS) (nsP wS)) ((dwQ ((skb M L aT + 1), eN, bD, bP, cD, wT, oP, bS, cS, wS) (nsP wS)).2.2.2.2.2.1 - 1)) ((dwQ ((skb M L aT + 1), eN, bD, bP, cD, wT, oP, bS, cS, wS) (nsP wS)).2.2.2.2.2.2.1 - 1)) := ⟨⟨hlt, by show (dwQ ((skb M L aT + 1), eN, bD, bP, cD, wT, oP, bS, cS, wS) (nsP wS)).2.2.2.2.1 + (((dwQ ((skb M L aT + 1), eN, bD, bP, cD, wT, oP, bS, cS, wS) (nsP wS)).2.2.2.2.2.1 - 1)) ≤ skb M L aT + 1 + 2; omega⟩, by show aT ≤ skb M L aT + 1; omega, rfl, by show (dwQ ((skb M L aT + 1), eN, bD, bP, cD, wT, oP, bS, cS, wS) (nsP wS)).2.2.2.2.1 + (((dwQ ((skb M L aT + 1), eN, bD, bP, cD, wT, oP, bS, cS, wS) (nsP wS)).2.2.2.2.2.1 - 1)) + aT ≤ cD + wT + (skb M L aT + 1); omega⟩
      have e9 : (dnQ (s6 (s5 (dwQ ((skb M L aT + 1), eN, bD, bP, cD, wT, oP, bS, cS, wS) (nsP wS)) ((dwQ ((skb M L aT + 1), eN, bD, bP, cD, wT, oP, bS, cS, wS) (nsP wS)).2.2.2.2.2.1 - 1)) ((dwQ ((skb M L aT + 1), eN, bD, bP, cD, wT, oP, bS, cS, wS) (nsP wS)).2.2.2.2.2.2.1 - 1))).2.2.1 = 0 ∧ (dnQ (s6 (s5 (dwQ ((skb M L aT + 1), eN, bD, bP, cD, wT, oP, bS, cS, wS) (nsP wS)) ((dwQ ((skb M L aT + 1), eN, bD, bP, cD, wT, oP, bS, cS, wS) (nsP wS)).2.2.2.2.2.1 - 1)) ((dwQ ((skb M L aT + 1), eN, bD, bP, cD, wT, oP, bS, cS, wS) (nsP wS)).2.2.2.2.2.2.1 - 1))).1 = skb M L aT + 1 := ⟨(dnQ_b _).1.trans zb0, (dnQ_b _).2⟩
      exact gf_lw (K1 _ (okT_t T9 (dnQ_T T9.1)) (by rw [e9.2]; omega) e9.1 (show gtB M L (aT, eN, bD, bP, cD, wT, oP, bS, cS, wS) = _ from (if_pos zc13).trans (if_neg zc20))) ⟨rfl, trivial⟩
def gtF (M : mM) (L : Nat) : Nat → pS → pS
  | 0, q => q
  | k + 1, q => if (gtB M L q).1 = true then gtF M L k (gtB M L q).2 else (gtB M L q).2
theorem l_gt (E : gE) {d : Nat} (hd : 4 ≤ d) {L : Nat} (h : hp_T) (hG : gr h) (M : mM) (N : mN) (T : tpI M L) {q0 : pS} {v : Option Value} {hz : hp_T} {r : pS} (K : okT L q0 r → skb M L r.1 = r.1 → r.2.2.1 = 0 → gf E mX12_goesOnTest d 76 [(0, .ref (E.1 + 247))] [] (hm h (pM M r) N) v hz) : ∀ (kz : Nat) (q : pS), okT L q0 q → q.2.2.1 = 0 → L - q.1 < kz → gtF M L kz q = r → gf E mX12_goesOnTest d 0 [(0, .ref (E.1 + 247))] [] (hm h (pM M q) N) v hz := by
  intro kz
  induction kz with
  | zero => intro q _ _ h; exact absurd h (Nat.not_lt_zero _)
  | succ kz ih =>
    intro q Tq zb0 hm9 hr
    obtain ⟨aT, eN, bD, bP, cD, wT, oP, bS, cS, wS⟩ := q
    have hm9 : L - aT < kz + 1 := hm9
    refine l_gtB E hd h hG M N T aT eN bD bP cD wT oP bS cS wS Tq.1 zb0 (fun q' T' hp h0 he => ?_) (fun q' T' hs h0 he => ?_)
    · rw [show gtF M L (kz + 1) (aT, eN, bD, bP, cD, wT, oP, bS, cS, wS) = gtF M L kz q' from by show (if (gtB M L (aT, eN, bD, bP, cD, wT, oP, bS, cS, wS)).1 = true then gtF M L kz (gtB M L (aT, eN, bD, bP, cD, wT, oP, bS, cS, wS)).2 else (gtB M L (aT, eN, bD, bP, cD, wT, oP, bS, cS, wS)).2) = _; rw [he]; exact if_pos rfl] at hr
      exact ih q' (okT_t Tq T') h0 (by have := T'.1.1; omega) hr
    · rw [show gtF M L (kz + 1) (aT, eN, bD, bP, cD, wT, oP, bS, cS, wS) = q' from by show (if (gtB M L (aT, eN, bD, bP, cD, wT, oP, bS, cS, wS)).1 = true then gtF M L kz (gtB M L (aT, eN, bD, bP, cD, wT, oP, bS, cS, wS)).2 else (gtB M L (aT, eN, bD, bP, cD, wT, oP, bS, cS, wS)).2) = _; rw [he]; exact if_neg (fun z => Bool.noConfusion z)] at hr
      subst hr
      exact K (okT_t Tq T') hs h0
theorem l_tan (E : gE) {d : Nat} (hd : 2 ≤ d) (h : hp_T) (hG : gr h) (M : mM) (N : mN) (aT : Nat) (eN bD bP oP : Int32) (bS : Nat) (wS : Nat → Int32)  {v : Option Value} {hz : hp_T} {r : Nat × Nat × (Nat → Int32)} (K : gf E mX12_goesOnTest d 103 [(0, .ref (E.1 + 247))] [] (hm h (pM M (aT, eN, bD, bP, r.2.1, r.1, oP, bS, r.2.2, wS)) N) v hz) : ∀ (w c : Nat) (s : Nat → Int32), w ≤ 700 → w + c ≤ 100000 → (dwS wS (fun i => decide (wS i = 14)) w c s) = r → gf E mX12_goesOnTest d 87 [(0, .ref (E.1 + 247))] [] (hm h (pM M (aT, eN, bD, bP, c, w, oP, bS, s, wS)) N) v hz := by
  intro w
  induction w with
  | zero =>
    intro c s _ _ hr
    subst hr
    refine gf_aload_n 0 dX12_goesOnTest_87 rfl rfl ?_
    refine gf_bipush (14) dX12_goesOnTest_88 rfl ?_
    refine gf_callV cmX12_isOn lkX12_375 imX12_isOn seX12_isOn ⟨rfl, by decide⟩ dX12_goesOnTest_90 (d1 := d - 1) (by omega) (gt_247 hG) (e_X12_isOn E 14 h hG M N aT eN bD bP c 0 oP bS s wS (by omega)) rfl rfl (Nat.le_of_ble_eq_true rfl) ?_
    refine gf_if_eq 103 dX12_goesOnTest_93 rfl (fun _ => ?_) (fun q => absurd (rfl) q)
    exact gf_lw K ⟨rfl, trivial⟩
  | succ w ih =>
    intro c s hw hc hr
    refine gf_aload_n 0 dX12_goesOnTest_87 rfl rfl ?_
    refine gf_bipush (14) dX12_goesOnTest_88 rfl ?_
    refine gf_callV cmX12_isOn lkX12_375 imX12_isOn seX12_isOn ⟨rfl, by decide⟩ dX12_goesOnTest_90 (d1 := d - 1) (by omega) (gt_247 hG) (e_X12_isOn E 14 h hG M N aT eN bD bP c (w + 1) oP bS s wS (by omega)) rfl rfl (Nat.le_of_ble_eq_true rfl) ?_
    refine gf_if_eq 103 dX12_goesOnTest_93 rfl (fun zc93 => ?_) (fun zc93 => ?_)
    · rw [show dwS wS (fun i => decide (wS i = 14)) (w + 1) c s = (w + 1, c, s) from if_neg (by show ¬ (decide (wS w = 14)) = true; rw [(show decide (wS w = 14) = false from bI_f zc93)]; exact fun q => Bool.noConfusion (show false = true from q))] at hr
      subst hr
      exact gf_lw K ⟨rfl, trivial⟩
    · refine gf_aload_n 0 dX12_goesOnTest_96 rfl rfl ?_
      refine gf_callV cmX12_drops lkX12_348 imX12_drops seX12_drops ⟨rfl, by decide⟩ dX12_goesOnTest_97 (d1 := d - 1) (by omega) (gt_247 hG) (e_X12_drops E (by omega) h hG M N aT eN bD bP c (w + 1) oP bS s wS (by omega) (by omega) (by omega)) rfl rfl (Nat.le_of_ble_eq_true rfl) ?_
      refine gf_goto 87 dX12_goesOnTest_100 rfl ?_
      rw [show dwS wS (fun i => decide (wS i = 14)) (w + 1) c s = dwS wS (fun i => decide (wS i = 14)) w (c + 1) (va_up s c (wS w)) from if_pos (by show (decide (wS w = 14)) = true; rw [(show decide (wS w = 14) = true from bI_t zc93)])] at hr
      exact gf_lw (ih (c + 1) (va_up s c (wS w)) (by omega) (by omega) hr) ⟨rfl, trivial⟩
theorem l_tor (E : gE) {d : Nat} (hd : 2 ≤ d) (h : hp_T) (hG : gr h) (M : mM) (N : mN) (aT : Nat) (eN bD bP oP : Int32) (bS : Nat) (wS : Nat → Int32)  {v : Option Value} {hz : hp_T} {r : Nat × Nat × (Nat → Int32)} (K : gf E mX12_goesOnTest d 162 [(0, .ref (E.1 + 247))] [] (hm h (pM M (aT, eN, bD, bP, r.2.1, r.1, oP, bS, r.2.2, wS)) N) v hz) : ∀ (w c : Nat) (s : Nat → Int32), w ≤ 700 → w + c ≤ 100000 → (dwS wS (fun i => decide (wS i = 14) || decide (wS i = 15)) w c s) = r → gf E mX12_goesOnTest d 137 [(0, .ref (E.1 + 247))] [] (hm h (pM M (aT, eN, bD, bP, c, w, oP, bS, s, wS)) N) v hz := by
  intro w
  induction w with
  | zero =>
    intro c s _ _ hr
    subst hr
    refine gf_aload_n 0 dX12_goesOnTest_137 rfl rfl ?_
    refine gf_bipush (14) dX12_goesOnTest_138 rfl ?_
    refine gf_callV cmX12_isOn lkX12_375 imX12_isOn seX12_isOn ⟨rfl, by decide⟩ dX12_goesOnTest_140 (d1 := d - 1) (by omega) (gt_247 hG) (e_X12_isOn E 14 h hG M N aT eN bD bP c 0 oP bS s wS (by omega)) rfl rfl (Nat.le_of_ble_eq_true rfl) ?_
    refine gf_if_ne 155 dX12_goesOnTest_143 rfl (fun q => absurd (rfl) q) (fun _ => ?_)
    refine gf_aload_n 0 dX12_goesOnTest_146 rfl rfl ?_
    refine gf_bipush (15) dX12_goesOnTest_147 rfl ?_
    refine gf_callV cmX12_isOn lkX12_375 imX12_isOn seX12_isOn ⟨rfl, by decide⟩ dX12_goesOnTest_149 (d1 := d - 1) (by omega) (gt_247 hG) (e_X12_isOn E 15 h hG M N aT eN bD bP c 0 oP bS s wS (by omega)) rfl rfl (Nat.le_of_ble_eq_true rfl) ?_
    refine gf_if_eq 162 dX12_goesOnTest_152 rfl (fun _ => ?_) (fun q => absurd (rfl) q)
    exact gf_lw K ⟨rfl, trivial⟩
  | succ w ih =>
    intro c s hw hc hr
    refine gf_aload_n 0 dX12_goesOnTest_137 rfl rfl ?_
    refine gf_bipush (14) dX12_goesOnTest_138 rfl ?_
    refine gf_callV cmX12_isOn lkX12_375 imX12_isOn seX12_isOn ⟨rfl, by decide⟩ dX12_goesOnTest_140 (d1 := d - 1) (by omega) (gt_247 hG) (e_X12_isOn E 14 h hG M N aT eN bD bP c (w + 1) oP bS s wS (by omega)) rfl rfl (Nat.le_of_ble_eq_true rfl) ?_
    refine gf_if_ne 155 dX12_goesOnTest_143 rfl (fun zc143 => ?_) (fun zc143 => ?_)
    · refine gf_aload_n 0 dX12_goesOnTest_155 rfl rfl ?_
      refine gf_callV cmX12_drops lkX12_348 imX12_drops seX12_drops ⟨rfl, by decide⟩ dX12_goesOnTest_156 (d1 := d - 1) (by omega) (gt_247 hG) (e_X12_drops E (by omega) h hG M N aT eN bD bP c (w + 1) oP bS s wS (by omega) (by omega) (by omega)) rfl rfl (Nat.le_of_ble_eq_true rfl) ?_
      refine gf_goto 137 dX12_goesOnTest_159 rfl ?_
      rw [show dwS wS (fun i => decide (wS i = 14) || decide (wS i = 15)) (w + 1) c s = dwS wS (fun i => decide (wS i = 14) || decide (wS i = 15)) w (c + 1) (va_up s c (wS w)) from if_pos (by show (decide (wS w = 14) || decide (wS w = 15)) = true; rw [(show decide (wS w = 14) = true from bI_t zc143)]; rfl)] at hr
      exact gf_lw (ih (c + 1) (va_up s c (wS w)) (by omega) (by omega) hr) ⟨rfl, trivial⟩
    · refine gf_aload_n 0 dX12_goesOnTest_146 rfl rfl ?_
      refine gf_bipush (15) dX12_goesOnTest_147 rfl ?_
      refine gf_callV cmX12_isOn lkX12_375 imX12_isOn seX12_isOn ⟨rfl, by decide⟩ dX12_goesOnTest_149 (d1 := d - 1) (by omega) (gt_247 hG) (e_X12_isOn E 15 h hG M N aT eN bD bP c (w + 1) oP bS s wS (by omega)) rfl rfl (Nat.le_of_ble_eq_true rfl) ?_
      refine gf_if_eq 162 dX12_goesOnTest_152 rfl (fun zc152 => ?_) (fun zc152 => ?_)
      · rw [show dwS wS (fun i => decide (wS i = 14) || decide (wS i = 15)) (w + 1) c s = (w + 1, c, s) from if_neg (by show ¬ (decide (wS w = 14) || decide (wS w = 15)) = true; rw [(show decide (wS w = 14) = false from bI_f zc143), (show decide (wS w = 15) = false from bI_f zc152)]; exact fun q => Bool.noConfusion (show false = true from q))] at hr
        subst hr
        exact gf_lw K ⟨rfl, trivial⟩
      · refine gf_aload_n 0 dX12_goesOnTest_155 rfl rfl ?_
        refine gf_callV cmX12_drops lkX12_348 imX12_drops seX12_drops ⟨rfl, by decide⟩ dX12_goesOnTest_156 (d1 := d - 1) (by omega) (gt_247 hG) (e_X12_drops E (by omega) h hG M N aT eN bD bP c (w + 1) oP bS s wS (by omega) (by omega) (by omega)) rfl rfl (Nat.le_of_ble_eq_true rfl) ?_
        refine gf_goto 137 dX12_goesOnTest_159 rfl ?_
        rw [show dwS wS (fun i => decide (wS i = 14) || decide (wS i = 15)) (w + 1) c s = dwS wS (fun i => decide (wS i = 14) || decide (wS i = 15)) w (c + 1) (va_up s c (wS w)) from if_pos (by show (decide (wS w = 14) || decide (wS w = 15)) = true; rw [(show decide (wS w = 14) = false from bI_f zc143), (show decide (wS w = 15) = true from bI_t zc152)]; rfl)] at hr
        exact gf_lw (ih (c + 1) (va_up s c (wS w)) (by omega) (by omega) hr) ⟨rfl, trivial⟩
def gtR (M : mM) (L : Nat) : pS → Bool × pS := fun (aT, eN, bD, bP, cD, wT, oP, bS, cS, wS) => (if (bI (hrQ M L (aT, eN, bD, bP, cD, wT, oP, bS, cS, wS) 3 (M 12))) = 0 then (if (bI (hrQ M L (aT, eN, bD, bP, cD, wT, oP, bS, cS, wS) 2 (M 11))) = 0 then (if (bI (hsV (aT, eN, bD, bP, cD, wT, oP, bS, cS, wS))) = 0 then (false, (aT, eN, bD, bP, cD, wT, oP, bS, cS, wS)) else (false, (flS9 (aT, eN, bD, bP, cD, wT, oP, bS, cS, wS) 1 (nI aT)))) else (true, (s9 (s5 (dwQ ((skb M L aT + 2), (nI (skb M L aT + 2)), bD, bP, cD, wT, oP, bS, cS, wS) (fun i => decide (wS i = 14) || decide (wS i = 15))) (((dwQ ((skb M L aT + 2), (nI (skb M L aT + 2)), bD, bP, cD, wT, oP, bS, cS, wS) (fun i => decide (wS i = 14) || decide (wS i = 15))).2.2.2.2.2.1) + 1)) (va_up ((dwQ ((skb M L aT + 2), (nI (skb M L aT + 2)), bD, bP, cD, wT, oP, bS, cS, wS) (fun i => decide (wS i = 14) || decide (wS i = 15))).2.2.2.2.2.2.2.2.2) ((dwQ ((skb M L aT + 2), (nI (skb M L aT + 2)), bD, bP, cD, wT, oP, bS, cS, wS) (fun i => decide (wS i = 14) || decide (wS i = 15))).2.2.2.2.2.1) 15)))) else (true, (s9 (s5 (dwQ ((skb M L aT + 3), (nI (skb M L aT + 3)), bD, bP, cD, wT, oP, bS, cS, wS) (fun i => decide (wS i = 14))) (((dwQ ((skb M L aT + 3), (nI (skb M L aT + 3)), bD, bP, cD, wT, oP, bS, cS, wS) (fun i => decide (wS i = 14))).2.2.2.2.2.1) + 1)) (va_up ((dwQ ((skb M L aT + 3), (nI (skb M L aT + 3)), bD, bP, cD, wT, oP, bS, cS, wS) (fun i => decide (wS i = 14))).2.2.2.2.2.2.2.2.2) ((dwQ ((skb M L aT + 3), (nI (skb M L aT + 3)), bD, bP, cD, wT, oP, bS, cS, wS) (fun i => decide (wS i = 14))).2.2.2.2.2.1) 14))))
theorem l_gtR (E : gE) {d : Nat} (hd : 4 ≤ d) {L : Nat} (h : hp_T) (hG : gr h) (M : mM) (N : mN) (T : tpI M L) (aT : Nat) (eN bD bP : Int32) (cD wT : Nat) (oP : Int32) (bS : Nat) (cS wS : Nat → Int32) (I0 : rI L (aT, eN, bD, bP, cD, wT, oP, bS, cS, wS)) (zb0 : bD = 0) (hs : skb M L aT = aT) : gf E mX12_goesOnTest d 76 [(0, .ref (E.1 + 247))] [] (hm h (pM M (aT, eN, bD, bP, cD, wT, oP, bS, cS, wS)) N) (some (.int (bI (gtR M L (aT, eN, bD, bP, cD, wT, oP, bS, cS, wS)).1))) (hm h (pM M (gtR M L (aT, eN, bD, bP, cD, wT, oP, bS, cS, wS)).2) N) := by
  have hL6 := T.2.1
  have hA0 : aT ≤ L := I0.1
  have hB0 : cD + wT ≤ aT + 2 := I0.2
  refine gf_aload_n 0 dX12_goesOnTest_76 rfl rfl ?_
  refine gf_aload_n 0 dX12_goesOnTest_77 rfl rfl ?_
  refine gf_getR flX12_48 rfl dX12_goesOnTest_78 (gt_247 hG) (gp_247_19 hG) ?_
  refine gf_callV cmX12_takes lkX12_312 imX12_takes seX12_takes ⟨rfl, by decide⟩ dX12_goesOnTest_81 (d1 := d - 1) (by omega) (gt_247 hG) (e_X12_takes E (by omega) h hG M N T aT eN bD bP cD wT oP bS cS wS (A := 259) (l := 3) (f := M 12) (gt_259 hG) (gl_259 hG) (fun q j => rfl) (by omega) (by omega)) rfl rfl (Nat.le_of_ble_eq_true rfl) ?_
  refine gf_if_eq 126 dX12_goesOnTest_84 rfl (fun zc84 => ?_) (fun zc84 => ?_)
  · rw [show (tkS9 M L (aT, eN, bD, bP, cD, wT, oP, bS, cS, wS) 3 (M 12)) = (aT, eN, bD, bP, cD, wT, oP, bS, cS, wS) from tkS_n hs (by rw [bI_f zc84]; decide)]
    refine gf_aload_n 0 dX12_goesOnTest_126 rfl rfl ?_
    refine gf_aload_n 0 dX12_goesOnTest_127 rfl rfl ?_
    refine gf_getR flX12_45 rfl dX12_goesOnTest_128 (gt_247 hG) (gp_247_18 hG) ?_
    refine gf_callV cmX12_takes lkX12_312 imX12_takes seX12_takes ⟨rfl, by decide⟩ dX12_goesOnTest_131 (d1 := d - 1) (by omega) (gt_247 hG) (e_X12_takes E (by omega) h hG M N T aT eN bD bP cD wT oP bS cS wS (A := 258) (l := 2) (f := M 11) (gt_258 hG) (gl_258 hG) (fun q j => rfl) (by omega) (by omega)) rfl rfl (Nat.le_of_ble_eq_true rfl) ?_
    refine gf_if_eq 185 dX12_goesOnTest_134 rfl (fun zc134 => ?_) (fun zc134 => ?_)
    · rw [show (tkS9 M L (aT, eN, bD, bP, cD, wT, oP, bS, cS, wS) 2 (M 11)) = (aT, eN, bD, bP, cD, wT, oP, bS, cS, wS) from tkS_n hs (by rw [bI_f zc134]; decide)]
      refine gf_aload_n 0 dX12_goesOnTest_185 rfl rfl ?_
      refine gf_getI flX12_285 rfl dX12_goesOnTest_186 (gt_247 hG) ?_
      rw [show hp_i (hm h (pM M (aT, eN, bD, bP, cD, wT, oP, bS, cS, wS)) N) 247 5 = bD from rfl]
      refine gf_if_ne 208 dX12_goesOnTest_189 rfl (fun q => absurd (zb0) q) (fun _ => ?_)
      refine gf_aload_n 0 dX12_goesOnTest_192 rfl rfl ?_
      refine gf_callV cmX12_hasSquare lkX12_397 imX12_hasSquare seX12_hasSquare ⟨rfl, by decide⟩ dX12_goesOnTest_193 (d1 := d - 1) (by omega) (gt_247 hG) (e_X12_hasSquare E h hG M N aT eN bD bP cD wT oP bS cS wS (by omega)) rfl rfl (Nat.le_of_ble_eq_true rfl) ?_
      refine gf_if_eq 208 dX12_goesOnTest_196 rfl (fun zc196 => ?_) (fun zc196 => ?_)
      · refine gf_iconst (0) dX12_goesOnTest_208 rfl ?_
        exact gf_bret dX12_goesOnTest_209 rfl (by rw [show gtR M L (aT, eN, bD, bP, cD, wT, oP, bS, cS, wS) = (false, (aT, eN, bD, bP, cD, wT, oP, bS, cS, wS)) from (if_pos zc84).trans ((if_pos zc134).trans (if_pos zc196))]; rfl) (by rw [show gtR M L (aT, eN, bD, bP, cD, wT, oP, bS, cS, wS) = (false, (aT, eN, bD, bP, cD, wT, oP, bS, cS, wS)) from (if_pos zc84).trans ((if_pos zc134).trans (if_pos zc196))]; first | done | rfl)
      · refine gf_aload_n 0 dX12_goesOnTest_199 rfl rfl ?_
        refine gf_iconst (1) dX12_goesOnTest_200 rfl ?_
        refine gf_aload_n 0 dX12_goesOnTest_201 rfl rfl ?_
        refine gf_getI flX12_291 rfl dX12_goesOnTest_202 (gt_247 hG) ?_
        rw [show hp_i (hm h (pM M (aT, eN, bD, bP, cD, wT, oP, bS, cS, wS)) N) 247 2 = (nI aT) from rfl]
        refine gf_callV cmX12_fail lkX12_315 imX12_fail seX12_fail ⟨rfl, by decide⟩ dX12_goesOnTest_205 (d1 := d - 1) (by omega) (gt_247 hG) (e_X12_fail E 1 (nI aT) h hG M N aT eN bD bP cD wT oP bS cS wS) rfl rfl (Nat.le_of_ble_eq_true rfl) ?_
        refine gf_iconst (0) dX12_goesOnTest_208 rfl ?_
        exact gf_bret dX12_goesOnTest_209 rfl (by rw [show gtR M L (aT, eN, bD, bP, cD, wT, oP, bS, cS, wS) = (false, (flS9 (aT, eN, bD, bP, cD, wT, oP, bS, cS, wS) 1 (nI aT))) from (if_pos zc84).trans ((if_pos zc134).trans (if_neg zc196))]; rfl) (by rw [show gtR M L (aT, eN, bD, bP, cD, wT, oP, bS, cS, wS) = (false, (flS9 (aT, eN, bD, bP, cD, wT, oP, bS, cS, wS) 1 (nI aT))) from (if_pos zc84).trans ((if_pos zc134).trans (if_neg zc196))]; first | done | rfl)
    · have hP := tkS_P (bI_t zc134)
      rw [show (tkS9 M L (aT, eN, bD, bP, cD, wT, oP, bS, cS, wS) 2 (M 11)) = ((skb M L aT + 2), (nI (skb M L aT + 2)), bD, bP, cD, wT, oP, bS, cS, wS) from hP.1]
      have hAx : skb M L aT + 2 ≤ L := by have q := (tkS_I (M := M) (l := 2) (f := M 11) I0).1; rw [hP.1] at q; exact q
      refine gf_lw (l_tor E (by omega) h hG M N (skb M L aT + 2) (nI (skb M L aT + 2)) bD bP oP bS wS (r := dwS wS (fun i => decide (wS i = 14) || decide (wS i = 15)) wT cD cS) ?_ wT cD cS (by omega) (by omega) rfl) ⟨rfl, trivial⟩
      change gf _ _ _ _ _ _ (hm h (pM M (dwQ ((skb M L aT + 2), (nI (skb M L aT + 2)), bD, bP, cD, wT, oP, bS, cS, wS) (fun i => decide (wS i = 14) || decide (wS i = 15)))) N) _ _
      have hwx : (dwQ ((skb M L aT + 2), (nI (skb M L aT + 2)), bD, bP, cD, wT, oP, bS, cS, wS) (fun i => decide (wS i = 14) || decide (wS i = 15))).2.2.2.2.2.1 + (dwQ ((skb M L aT + 2), (nI (skb M L aT + 2)), bD, bP, cD, wT, oP, bS, cS, wS) (fun i => decide (wS i = 14) || decide (wS i = 15))).2.2.2.2.1 = wT + cD := dwS_le wS _ wT cD cS
      refine gf_aload_n 0 dX12_goesOnTest_162 rfl rfl ?_
      refine gf_getR flX12_103 rfl dX12_goesOnTest_163 (gt_247 hG) (gp_247_38 hG) ?_
      refine gf_aload_n 0 dX12_goesOnTest_166 rfl rfl ?_
      refine gf_getI flX12_335 rfl dX12_goesOnTest_167 (gt_247 hG) ?_
      rw [show hp_i (hm h (pM M (dwQ ((skb M L aT + 2), (nI (skb M L aT + 2)), bD, bP, cD, wT, oP, bS, cS, wS) (fun i => decide (wS i = 14) || decide (wS i = 15)))) N) 247 39 = (nI ((dwQ ((skb M L aT + 2), (nI (skb M L aT + 2)), bD, bP, cD, wT, oP, bS, cS, wS) (fun i => decide (wS i = 14) || decide (wS i = 15))).2.2.2.2.2.1)) from rfl]
      refine gf_bipush (15) dX12_goesOnTest_170 rfl ?_
      refine gf_iast 700 dX12_goesOnTest_172 (gt_277 hG) (gl_277 hG) rfl (by omega) (by decide) ?_
      rw [mI_30, pM_r30]
      refine gf_aload_n 0 dX12_goesOnTest_173 rfl rfl ?_
      refine gf_dup dX12_goesOnTest_174 rfl ?_
      refine gf_getI flX12_335 rfl dX12_goesOnTest_175 (gt_247 hG) ?_
      rw [show hp_i (hm h (pM M (s9 (dwQ ((skb M L aT + 2), (nI (skb M L aT + 2)), bD, bP, cD, wT, oP, bS, cS, wS) (fun i => decide (wS i = 14) || decide (wS i = 15))) (va_up ((dwQ ((skb M L aT + 2), (nI (skb M L aT + 2)), bD, bP, cD, wT, oP, bS, cS, wS) (fun i => decide (wS i = 14) || decide (wS i = 15))).2.2.2.2.2.2.2.2.2) ((dwQ ((skb M L aT + 2), (nI (skb M L aT + 2)), bD, bP, cD, wT, oP, bS, cS, wS) (fun i => decide (wS i = 14) || decide (wS i = 15))).2.2.2.2.2.1) 15))) N) 247 39 = (nI ((dwQ ((skb M L aT + 2), (nI (skb M L aT + 2)), bD, bP, cD, wT, oP, bS, cS, wS) (fun i => decide (wS i = 14) || decide (wS i = 15))).2.2.2.2.2.1)) from rfl]
      refine gf_iconst (1) dX12_goesOnTest_178 rfl ?_
      refine gf_iadd dX12_goesOnTest_179 ?_
      rw [nI_1 ((dwQ ((skb M L aT + 2), (nI (skb M L aT + 2)), bD, bP, cD, wT, oP, bS, cS, wS) (fun i => decide (wS i = 14) || decide (wS i = 15))).2.2.2.2.2.1)]
      refine gf_putI flX12_335 rfl rfl dX12_goesOnTest_180 (gt_247 hG) ⟨rfl, rfl⟩ ?_
      rw [mI_0, pM_39]
      refine gf_iconst (1) dX12_goesOnTest_183 rfl ?_
      exact gf_bret dX12_goesOnTest_184 rfl (by rw [show gtR M L (aT, eN, bD, bP, cD, wT, oP, bS, cS, wS) = (true, (s9 (s5 (dwQ ((skb M L aT + 2), (nI (skb M L aT + 2)), bD, bP, cD, wT, oP, bS, cS, wS) (fun i => decide (wS i = 14) || decide (wS i = 15))) (((dwQ ((skb M L aT + 2), (nI (skb M L aT + 2)), bD, bP, cD, wT, oP, bS, cS, wS) (fun i => decide (wS i = 14) || decide (wS i = 15))).2.2.2.2.2.1) + 1)) (va_up ((dwQ ((skb M L aT + 2), (nI (skb M L aT + 2)), bD, bP, cD, wT, oP, bS, cS, wS) (fun i => decide (wS i = 14) || decide (wS i = 15))).2.2.2.2.2.2.2.2.2) ((dwQ ((skb M L aT + 2), (nI (skb M L aT + 2)), bD, bP, cD, wT, oP, bS, cS, wS) (fun i => decide (wS i = 14) || decide (wS i = 15))).2.2.2.2.2.1) 15))) from (if_pos zc84).trans (if_neg zc134)]; rfl) (by rw [show gtR M L (aT, eN, bD, bP, cD, wT, oP, bS, cS, wS) = (true, (s9 (s5 (dwQ ((skb M L aT + 2), (nI (skb M L aT + 2)), bD, bP, cD, wT, oP, bS, cS, wS) (fun i => decide (wS i = 14) || decide (wS i = 15))) (((dwQ ((skb M L aT + 2), (nI (skb M L aT + 2)), bD, bP, cD, wT, oP, bS, cS, wS) (fun i => decide (wS i = 14) || decide (wS i = 15))).2.2.2.2.2.1) + 1)) (va_up ((dwQ ((skb M L aT + 2), (nI (skb M L aT + 2)), bD, bP, cD, wT, oP, bS, cS, wS) (fun i => decide (wS i = 14) || decide (wS i = 15))).2.2.2.2.2.2.2.2.2) ((dwQ ((skb M L aT + 2), (nI (skb M L aT + 2)), bD, bP, cD, wT, oP, bS, cS, wS) (fun i => decide (wS i = 14) || decide (wS i = 15))).2.2.2.2.2.1) 15))) from (if_pos zc84).trans (if_neg zc134)]; first | done | rfl)
  · have hP := tkS_P (bI_t zc84)
    rw [show (tkS9 M L (aT, eN, bD, bP, cD, wT, oP, bS, cS, wS) 3 (M 12)) = ((skb M L aT + 3), (nI (skb M L aT + 3)), bD, bP, cD, wT, oP, bS, cS, wS) from hP.1]
    have hAx : skb M L aT + 3 ≤ L := by have q := (tkS_I (M := M) (l := 3) (f := M 12) I0).1; rw [hP.1] at q; exact q
    refine gf_lw (l_tan E (by omega) h hG M N (skb M L aT + 3) (nI (skb M L aT + 3)) bD bP oP bS wS (r := dwS wS (fun i => decide (wS i = 14)) wT cD cS) ?_ wT cD cS (by omega) (by omega) rfl) ⟨rfl, trivial⟩
    change gf _ _ _ _ _ _ (hm h (pM M (dwQ ((skb M L aT + 3), (nI (skb M L aT + 3)), bD, bP, cD, wT, oP, bS, cS, wS) (fun i => decide (wS i = 14)))) N) _ _
    have hwx : (dwQ ((skb M L aT + 3), (nI (skb M L aT + 3)), bD, bP, cD, wT, oP, bS, cS, wS) (fun i => decide (wS i = 14))).2.2.2.2.2.1 + (dwQ ((skb M L aT + 3), (nI (skb M L aT + 3)), bD, bP, cD, wT, oP, bS, cS, wS) (fun i => decide (wS i = 14))).2.2.2.2.1 = wT + cD := dwS_le wS _ wT cD cS
    refine gf_aload_n 0 dX12_goesOnTest_103 rfl rfl ?_
    refine gf_getR flX12_103 rfl dX12_goesOnTest_104 (gt_247 hG) (gp_247_38 hG) ?_
    refine gf_aload_n 0 dX12_goesOnTest_107 rfl rfl ?_
    refine gf_getI flX12_335 rfl dX12_goesOnTest_108 (gt_247 hG) ?_
    rw [show hp_i (hm h (pM M (dwQ ((skb M L aT + 3), (nI (skb M L aT + 3)), bD, bP, cD, wT, oP, bS, cS, wS) (fun i => decide (wS i = 14)))) N) 247 39 = (nI ((dwQ ((skb M L aT + 3), (nI (skb M L aT + 3)), bD, bP, cD, wT, oP, bS, cS, wS) (fun i => decide (wS i = 14))).2.2.2.2.2.1)) from rfl]
    refine gf_bipush (14) dX12_goesOnTest_111 rfl ?_
    refine gf_iast 700 dX12_goesOnTest_113 (gt_277 hG) (gl_277 hG) rfl (by omega) (by decide) ?_
    rw [mI_30, pM_r30]
    refine gf_aload_n 0 dX12_goesOnTest_114 rfl rfl ?_
    refine gf_dup dX12_goesOnTest_115 rfl ?_
    refine gf_getI flX12_335 rfl dX12_goesOnTest_116 (gt_247 hG) ?_
    rw [show hp_i (hm h (pM M (s9 (dwQ ((skb M L aT + 3), (nI (skb M L aT + 3)), bD, bP, cD, wT, oP, bS, cS, wS) (fun i => decide (wS i = 14))) (va_up ((dwQ ((skb M L aT + 3), (nI (skb M L aT + 3)), bD, bP, cD, wT, oP, bS, cS, wS) (fun i => decide (wS i = 14))).2.2.2.2.2.2.2.2.2) ((dwQ ((skb M L aT + 3), (nI (skb M L aT + 3)), bD, bP, cD, wT, oP, bS, cS, wS) (fun i => decide (wS i = 14))).2.2.2.2.2.1) 14))) N) 247 39 = (nI ((dwQ ((skb M L aT + 3), (nI (skb M L aT + 3)), bD, bP, cD, wT, oP, bS, cS, wS) (fun i => decide (wS i = 14))).2.2.2.2.2.1)) from rfl]
    refine gf_iconst (1) dX12_goesOnTest_119 rfl ?_
    refine gf_iadd dX12_goesOnTest_120 ?_
    rw [nI_1 ((dwQ ((skb M L aT + 3), (nI (skb M L aT + 3)), bD, bP, cD, wT, oP, bS, cS, wS) (fun i => decide (wS i = 14))).2.2.2.2.2.1)]
    refine gf_putI flX12_335 rfl rfl dX12_goesOnTest_121 (gt_247 hG) ⟨rfl, rfl⟩ ?_
    rw [mI_0, pM_39]
    refine gf_iconst (1) dX12_goesOnTest_124 rfl ?_
    exact gf_bret dX12_goesOnTest_125 rfl (by rw [show gtR M L (aT, eN, bD, bP, cD, wT, oP, bS, cS, wS) = (true, (s9 (s5 (dwQ ((skb M L aT + 3), (nI (skb M L aT + 3)), bD, bP, cD, wT, oP, bS, cS, wS) (fun i => decide (wS i = 14))) (((dwQ ((skb M L aT + 3), (nI (skb M L aT + 3)), bD, bP, cD, wT, oP, bS, cS, wS) (fun i => decide (wS i = 14))).2.2.2.2.2.1) + 1)) (va_up ((dwQ ((skb M L aT + 3), (nI (skb M L aT + 3)), bD, bP, cD, wT, oP, bS, cS, wS) (fun i => decide (wS i = 14))).2.2.2.2.2.2.2.2.2) ((dwQ ((skb M L aT + 3), (nI (skb M L aT + 3)), bD, bP, cD, wT, oP, bS, cS, wS) (fun i => decide (wS i = 14))).2.2.2.2.2.1) 14))) from if_neg zc84]; rfl) (by rw [show gtR M L (aT, eN, bD, bP, cD, wT, oP, bS, cS, wS) = (true, (s9 (s5 (dwQ ((skb M L aT + 3), (nI (skb M L aT + 3)), bD, bP, cD, wT, oP, bS, cS, wS) (fun i => decide (wS i = 14))) (((dwQ ((skb M L aT + 3), (nI (skb M L aT + 3)), bD, bP, cD, wT, oP, bS, cS, wS) (fun i => decide (wS i = 14))).2.2.2.2.2.1) + 1)) (va_up ((dwQ ((skb M L aT + 3), (nI (skb M L aT + 3)), bD, bP, cD, wT, oP, bS, cS, wS) (fun i => decide (wS i = 14))).2.2.2.2.2.2.2.2.2) ((dwQ ((skb M L aT + 3), (nI (skb M L aT + 3)), bD, bP, cD, wT, oP, bS, cS, wS) (fun i => decide (wS i = 14))).2.2.2.2.2.1) 14))) from if_neg zc84]; first | done | rfl)
def gotQ (M : mM) (L : Nat) (q : pS) : Bool × pS := gtR M L (gtF M L 700 q)
theorem e_X12_goesOnTest (E : gE) {d : Nat} (hd : 4 ≤ d) {L : Nat} (h : hp_T) (hG : gr h) (M : mM) (N : mN) (T : tpI M L) (q : pS) (I0 : rI L q) (zb0 : q.2.2.1 = 0) : ev E mX12_goesOnTest d [.ref (E.1 + 247)] (hm h (pM M q) N) (some (.int (bI (gotQ M L q).1))) (hm h (pM M (gotQ M L q).2) N) := by
  refine ev_of rfl (fun q => absurd q (by decide)) (Nat.le_of_ble_eq_true rfl) ?_
  have hL6 := T.2.1
  refine l_gt E hd h hG M N T (q0 := q) (r := gtF M L 700 q) (fun Tr hs h0 => ?_) 700 q (okT_r I0) zb0 (by omega) rfl
  exact l_gtR E hd h hG M N T _ _ _ _ _ _ _ _ _ _ Tr.1 h0 hs
