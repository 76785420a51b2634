/-! ===== the reference's reader: openings, a part ===== -/
theorem hrS_sk {M : mM} {L a : Nat} {r : Int32 × Int32 × Int32 × Nat × Nat × Int32 × Nat × (Nat → Int32) × (Nat → Int32)} (ha : a ≤ L) : hrS M L (skb M L a, r) = (skb M L a, r) := by
  unfold hrS
  split
  · show (skb M L (skb M L a), r) = _
    rw [skb_skb ha]
  · rfl
theorem agS_ge {M : mM} {L : Nat} {q : pS} {c : Int32} : q.1 ≤ (agS M L q c).1 := by
  have h0 := skb_le (M := M) (L := L) (a := q.1)
  have h1 : q.1 ≤ (tgS M L q c).1 := by
    unfold tgS
    split
    · split
      · show q.1 ≤ skb M L q.1 + 1; omega
      · exact h0.1
    · exact Nat.le_refl _
  unfold agS
  split
  · split
    · exact h1
    · rw [(flS_c _ _ _).1]; exact h1
  · exact Nat.le_refl _
theorem opS_I2 {L : Nat} {q : pS} {v p : Int32} (h1 : q.1 ≤ L) (h2 : q.2.2.2.2.1 + q.2.2.2.2.2.1 + 1 ≤ q.1 + 2) : rI L (opS q v p) := by
  have h := opS_r (q := q) (v := v) (p := p)
  exact ⟨by rw [h.1]; exact h1, by rw [h.1, h.2.1]; omega⟩
/-- one round of the openings: whether more, the state -/
def opB (M : mM) (L : Nat) : pS → Bool × pS := fun (aT, eN, bD, bP, cD, wT, oP, bS, cS, wS) => (if (lkV M L aT) = 40 then (true, (s0 (opS ((skb M L aT), eN, bD, bP, cD, wT, oP, bS, cS, wS) 20 (nI (skb M L aT))) (((opS ((skb M L aT), eN, bD, bP, cD, wT, oP, bS, cS, wS) 20 (nI (skb M L aT))).1) + 1))) else (if (bI (hrQ M L ((skb M L aT), eN, bD, bP, cD, wT, oP, bS, cS, wS) 3 (M 23))) = 0 then (if (bI (hrQ M L ((skb M L aT), eN, bD, bP, cD, wT, oP, bS, cS, wS) 3 (M 24))) = 0 then (false, ((skb M L aT), eN, bD, bP, cD, wT, oP, bS, cS, wS)) else (if (lkV M L ((tkS9 M L ((skb M L aT), eN, bD, bP, cD, wT, oP, bS, cS, wS) 3 (M 24)).1)) = 40 then (true, (agS M L (opS (s0 (tkS9 M L ((skb M L aT), eN, bD, bP, cD, wT, oP, bS, cS, wS) 3 (M 24)) (skb M L ((tkS9 M L ((skb M L aT), eN, bD, bP, cD, wT, oP, bS, cS, wS) 3 (M 24)).1))) 22 (nI (skb M L ((tkS9 M L ((skb M L aT), eN, bD, bP, cD, wT, oP, bS, cS, wS) 3 (M 24)).1)))) 40)) else (true, (agS M L (s0 (tkS9 M L ((skb M L aT), eN, bD, bP, cD, wT, oP, bS, cS, wS) 3 (M 24)) (skb M L ((tkS9 M L ((skb M L aT), eN, bD, bP, cD, wT, oP, bS, cS, wS) 3 (M 24)).1))) 40)))) else (if (lkV M L ((tkS9 M L ((skb M L aT), eN, bD, bP, cD, wT, oP, bS, cS, wS) 3 (M 23)).1)) = 40 then (true, (agS M L (opS (s0 (tkS9 M L ((skb M L aT), eN, bD, bP, cD, wT, oP, bS, cS, wS) 3 (M 23)) (skb M L ((tkS9 M L ((skb M L aT), eN, bD, bP, cD, wT, oP, bS, cS, wS) 3 (M 23)).1))) 21 (nI (skb M L ((tkS9 M L ((skb M L aT), eN, bD, bP, cD, wT, oP, bS, cS, wS) 3 (M 23)).1)))) 40)) else (true, (agS M L (s0 (tkS9 M L ((skb M L aT), eN, bD, bP, cD, wT, oP, bS, cS, wS) 3 (M 23)) (skb M L ((tkS9 M L ((skb M L aT), eN, bD, bP, cD, wT, oP, bS, cS, wS) 3 (M 23)).1))) 40)))))
theorem l_opB (E : gE) {d : Nat} (hd : 4 ≤ d) {L : Nat} (h : hp_T) (hG : gr h) (M : mM) (N : mN) (T : tpI M L) (aT : Nat) (eN bD bP : Int32) (cD wT : Nat) (oP : Int32) (bS : Nat) (cS wS : Nat → Int32) (I0 : rI L (aT, eN, bD, bP, cD, wT, oP, bS, cS, wS)) (zb0 : bD = 0) {v : Option Value} {hz : hp_T} (K1 : ∀ q', rI L q' → (q'.2.2.1 = 0 → aT + 1 ≤ q'.1) → opB M L (aT, eN, bD, bP, cD, wT, oP, bS, cS, wS) = (true, q') → gf E mX12_onePart d 2 [(0, .ref (E.1 + 247)), (1, .int 1)] [] (hm h (pM M q') N) v hz) (K2 : ∀ q', rI L q' → opB M L (aT, eN, bD, bP, cD, wT, oP, bS, cS, wS) = (false, q') → gf E mX12_onePart d 146 [(0, .ref (E.1 + 247))] [] (hm h (pM M q') N) v hz) : gf E mX12_onePart d 2 [(0, .ref (E.1 + 247)), (1, .int 1)] [] (hm h (pM M (aT, eN, bD, bP, cD, wT, oP, bS, cS, wS)) N) v hz := by
  have hL6 := T.2.1
  have hA0 : aT ≤ L := I0.1
  have hB0 : cD + wT ≤ aT + 2 := I0.2
  have hsk := skb_le (M := M) (L := L) (a := aT)
  refine gf_iload_n 1 dX12_onePart_2 rfl rfl ?_
  refine gf_if_eq 146 dX12_onePart_3 rfl (fun q => absurd q (by decide)) (fun _ => ?_)
  refine gf_aload_n 0 dX12_onePart_6 rfl rfl ?_
  refine gf_getI flX12_285 rfl dX12_onePart_7 (gt_247 hG) ?_
  rw [show hp_i (hm h (pM M (aT, eN, bD, bP, cD, wT, oP, bS, cS, wS)) N) 247 5 = bD from rfl]
  refine gf_if_ne 146 dX12_onePart_10 rfl (fun q => absurd (zb0) q) (fun _ => ?_)
  refine gf_aload_n 0 dX12_onePart_13 rfl rfl ?_
  refine gf_callV cmX12_look lkX12_297 imX12_look seX12_look ⟨rfl, by decide⟩ dX12_onePart_14 (d1 := d - 1) (by omega) (gt_247 hG) (e_X12_look E h hG M N T aT eN bD bP cD wT oP bS cS wS (by omega)) rfl rfl (Nat.le_of_ble_eq_true rfl) ?_
  have hI1 : rI L ((skb M L aT), eN, bD, bP, cD, wT, oP, bS, cS, wS) := skb_I I0
  have hA1 : (skb M L aT) ≤ L := hI1.1
  have hB1 : cD + wT ≤ (skb M L aT) + 2 := hI1.2
  have hk2 := (skb_le (M := M) (L := L) (a := aT)).1
  refine gf_istore_n 2 dX12_onePart_17 rfl (Nat.le_of_ble_eq_true rfl) ?_
  refine gf_iload_n 2 dX12_onePart_18 rfl rfl ?_
  refine gf_bipush (40) dX12_onePart_19 rfl ?_
  refine gf_icmp_ne 47 dX12_onePart_21 rfl (fun zc21 => ?_) (fun zc21 => ?_)
  · refine gf_aload_n 0 dX12_onePart_47 rfl rfl ?_
    refine gf_aload_n 0 dX12_onePart_48 rfl rfl ?_
    refine gf_getR flX12_81 rfl dX12_onePart_49 (gt_247 hG) (gp_247_30 hG) ?_
    refine gf_callV cmX12_isHere lkX12_308 imX12_isHere seX12_isHere ⟨rfl, by decide⟩ dX12_onePart_52 (d1 := d - 1) (by omega) (gt_247 hG) (e_X12_isHere E (by omega) h hG M N T (skb M L aT) eN bD bP cD wT oP bS cS wS (A := 270) (l := 3) (f := M 23) (gt_270 hG) (gl_270 hG) (fun q j => rfl) (by omega) (by omega)) rfl rfl (Nat.le_of_ble_eq_true rfl) ?_
    rw [show hrS M L ((skb M L aT), eN, bD, bP, cD, wT, oP, bS, cS, wS) = ((skb M L aT), eN, bD, bP, cD, wT, oP, bS, cS, wS) from hrS_sk (by omega)]
    refine gf_if_ne 69 dX12_onePart_55 rfl (fun zc55 => ?_) (fun zc55 => ?_)
    · refine gf_aload_n 0 dX12_onePart_69 rfl rfl ?_
      refine gf_aload_n 0 dX12_onePart_70 rfl rfl ?_
      refine gf_getR flX12_81 rfl dX12_onePart_71 (gt_247 hG) (gp_247_30 hG) ?_
      refine gf_callV cmX12_takes lkX12_312 imX12_takes seX12_takes ⟨rfl, by decide⟩ dX12_onePart_74 (d1 := d - 1) (by omega) (gt_247 hG) (e_X12_takes E (by omega) h hG M N T (skb M L aT) eN bD bP cD wT oP bS cS wS (A := 270) (l := 3) (f := M 23) (gt_270 hG) (gl_270 hG) (fun q j => rfl) (by omega) (by omega)) rfl rfl (Nat.le_of_ble_eq_true rfl) ?_
      have hI3 : rI L (tkS9 M L ((skb M L aT), eN, bD, bP, cD, wT, oP, bS, cS, wS) 3 (M 23)) := tkS_I hI1
      have hA3 : (tkS9 M L ((skb M L aT), eN, bD, bP, cD, wT, oP, bS, cS, wS) 3 (M 23)).1 ≤ L := hI3.1
      have hB3 : (tkS9 M L ((skb M L aT), eN, bD, bP, cD, wT, oP, bS, cS, wS) 3 (M 23)).2.2.2.2.1 + (tkS9 M L ((skb M L aT), eN, bD, bP, cD, wT, oP, bS, cS, wS) 3 (M 23)).2.2.2.2.2.1 ≤ (tkS9 M L ((skb M L aT), eN, bD, bP, cD, wT, oP, bS, cS, wS) 3 (M 23)).1 + 2 := hI3.2
      have hT3 : aT + 3 ≤ (tkS9 M L ((skb M L aT), eN, bD, bP, cD, wT, oP, bS, cS, wS) 3 (M 23)).1 := by rw [(tkS_P (bI_t zc55)).1]; show aT + 3 ≤ skb M L (skb M L aT) + 3; have := skb_le (M := M) (L := L) (a := skb M L aT); omega
      have hT4 : (tkS9 M L ((skb M L aT), eN, bD, bP, cD, wT, oP, bS, cS, wS) 3 (M 23)).2.2.2.2 = ((skb M L aT), eN, bD, bP, cD, wT, oP, bS, cS, wS).2.2.2.2 := by rw [(tkS_P (bI_t zc55)).1]
      have hT5 : (tkS9 M L ((skb M L aT), eN, bD, bP, cD, wT, oP, bS, cS, wS) 3 (M 23)).2.2.2.2.1 = cD := congrArg (fun z => z.1) hT4
      have hT6 : (tkS9 M L ((skb M L aT), eN, bD, bP, cD, wT, oP, bS, cS, wS) 3 (M 23)).2.2.2.2.2.1 = wT := congrArg (fun z => z.2.1) hT4
      refine gf_istore_n 3 dX12_onePart_77 rfl (Nat.le_of_ble_eq_true rfl) ?_
      refine gf_iload_n 3 dX12_onePart_78 rfl rfl ?_
      refine gf_if_ne 90 dX12_onePart_79 rfl (fun _ => ?_) (fun q => absurd q (zc55))
      refine gf_aload_n 0 dX12_onePart_90 rfl rfl ?_
      refine gf_callV cmX12_look lkX12_297 imX12_look seX12_look ⟨rfl, by decide⟩ dX12_onePart_91 (d1 := d - 1) (by omega) (gt_247 hG) (e_X12_look E h hG M N T ((tkS9 M L ((skb M L aT), eN, bD, bP, cD, wT, oP, bS, cS, wS) 3 (M 23)).1) ((tkS9 M L ((skb M L aT), eN, bD, bP, cD, wT, oP, bS, cS, wS) 3 (M 23)).2.1) ((tkS9 M L ((skb M L aT), eN, bD, bP, cD, wT, oP, bS, cS, wS) 3 (M 23)).2.2.1) ((tkS9 M L ((skb M L aT), eN, bD, bP, cD, wT, oP, bS, cS, wS) 3 (M 23)).2.2.2.1) ((tkS9 M L ((skb M L aT), eN, bD, bP, cD, wT, oP, bS, cS, wS) 3 (M 23)).2.2.2.2.1) ((tkS9 M L ((skb M L aT), eN, bD, bP, cD, wT, oP, bS, cS, wS) 3 (M 23)).2.2.2.2.2.1) ((tkS9 M L ((skb M L aT), eN, bD, bP, cD, wT, oP, bS, cS, wS) 3 (M 23)).2.2.2.2.2.2.1) ((tkS9 M L ((skb M L aT), eN, bD, bP, cD, wT, oP, bS, cS, wS) 3 (M 23)).2.2.2.2.2.2.2.1) ((tkS9 M L ((skb M L aT), eN, bD, bP, cD, wT, oP, bS, cS, wS) 3 (M 23)).2.2.2.2.2.2.2.2.1) ((tkS9 M L ((skb M L aT), eN, bD, bP, cD, wT, oP, bS, cS, wS) 3 (M 23)).2.2.2.2.2.2.2.2.2) (by omega)) rfl rfl (Nat.le_of_ble_eq_true rfl) ?_
      have hI4 : rI L (s0 (tkS9 M L ((skb M L aT), eN, bD, bP, cD, wT, oP, bS, cS, wS) 3 (M 23)) (skb M L ((tkS9 M L ((skb M L aT), eN, bD, bP, cD, wT, oP, bS, cS, wS) 3 (M 23)).1))) := skb_I hI3
      have hA4 : (skb M L ((tkS9 M L ((skb M L aT), eN, bD, bP, cD, wT, oP, bS, cS, wS) 3 (M 23)).1)) ≤ L := hI4.1
      have hB4 : (tkS9 M L ((skb M L aT), eN, bD, bP, cD, wT, oP, bS, cS, wS) 3 (M 23)).2.2.2.2.1 + (tkS9 M L ((skb M L aT), eN, bD, bP, cD, wT, oP, bS, cS, wS) 3 (M 23)).2.2.2.2.2.1 ≤ (skb M L ((tkS9 M L ((skb M L aT), eN, bD, bP, cD, wT, oP, bS, cS, wS) 3 (M 23)).1)) + 2 := hI4.2
      have hk5 := (skb_le (M := M) (L := L) (a := (tkS9 M L ((skb M L aT), eN, bD, bP, cD, wT, oP, bS, cS, wS) 3 (M 23)).1)).1
      refine gf_bipush (40) dX12_onePart_94 rfl ?_
      refine gf_icmp_ne 106 dX12_onePart_96 rfl (fun zc96 => ?_) (fun zc96 => ?_)
      · refine gf_iconst (-1) dX12_onePart_106 rfl ?_
        refine gf_istore dX12_onePart_107 (Nat.le_of_ble_eq_true rfl) ?_
        refine gf_iload dX12_onePart_109 rfl ?_
        refine gf_iconst (-1) dX12_onePart_111 rfl ?_
        refine gf_icmp_eq 132 dX12_onePart_112 rfl (fun _ => ?_) (fun q => absurd (rfl) q)
        refine gf_aload_n 0 dX12_onePart_132 rfl rfl ?_
        refine gf_bipush (40) dX12_onePart_133 rfl ?_
        refine gf_callV cmX12_asksSign lkX12_358 imX12_asksSign seX12_asksSign ⟨rfl, by decide⟩ dX12_onePart_135 (d1 := d - 1) (by omega) (gt_247 hG) (e_X12_asksSign E (by omega) h hG M N T (skb M L ((tkS9 M L ((skb M L aT), eN, bD, bP, cD, wT, oP, bS, cS, wS) 3 (M 23)).1)) ((tkS9 M L ((skb M L aT), eN, bD, bP, cD, wT, oP, bS, cS, wS) 3 (M 23)).2.1) ((tkS9 M L ((skb M L aT), eN, bD, bP, cD, wT, oP, bS, cS, wS) 3 (M 23)).2.2.1) ((tkS9 M L ((skb M L aT), eN, bD, bP, cD, wT, oP, bS, cS, wS) 3 (M 23)).2.2.2.1) ((tkS9 M L ((skb M L aT), eN, bD, bP, cD, wT, oP, bS, cS, wS) 3 (M 23)).2.2.2.2.1) ((tkS9 M L ((skb M L aT), eN, bD, bP, cD, wT, oP, bS, cS, wS) 3 (M 23)).2.2.2.2.2.1) ((tkS9 M L ((skb M L aT), eN, bD, bP, cD, wT, oP, bS, cS, wS) 3 (M 23)).2.2.2.2.2.2.1) ((tkS9 M L ((skb M L aT), eN, bD, bP, cD, wT, oP, bS, cS, wS) 3 (M 23)).2.2.2.2.2.2.2.1) ((tkS9 M L ((skb M L aT), eN, bD, bP, cD, wT, oP, bS, cS, wS) 3 (M 23)).2.2.2.2.2.2.2.2.1) ((tkS9 M L ((skb M L aT), eN, bD, bP, cD, wT, oP, bS, cS, wS) 3 (M 23)).2.2.2.2.2.2.2.2.2) 40 (by omega)) rfl rfl (Nat.le_of_ble_eq_true rfl) ?_
        have hI6 : rI L (agS M L (s0 (tkS9 M L ((skb M L aT), eN, bD, bP, cD, wT, oP, bS, cS, wS) 3 (M 23)) (skb M L ((tkS9 M L ((skb M L aT), eN, bD, bP, cD, wT, oP, bS, cS, wS) 3 (M 23)).1))) 40) := agS_I (by decide) hI4
        have hA6 : (agS M L (s0 (tkS9 M L ((skb M L aT), eN, bD, bP, cD, wT, oP, bS, cS, wS) 3 (M 23)) (skb M L ((tkS9 M L ((skb M L aT), eN, bD, bP, cD, wT, oP, bS, cS, wS) 3 (M 23)).1))) 40).1 ≤ L := hI6.1
        have hB6 : (agS M L (s0 (tkS9 M L ((skb M L aT), eN, bD, bP, cD, wT, oP, bS, cS, wS) 3 (M 23)) (skb M L ((tkS9 M L ((skb M L aT), eN, bD, bP, cD, wT, oP, bS, cS, wS) 3 (M 23)).1))) 40).2.2.2.2.1 + (agS M L (s0 (tkS9 M L ((skb M L aT), eN, bD, bP, cD, wT, oP, bS, cS, wS) 3 (M 23)) (skb M L ((tkS9 M L ((skb M L aT), eN, bD, bP, cD, wT, oP, bS, cS, wS) 3 (M 23)).1))) 40).2.2.2.2.2.1 ≤ (agS M L (s0 (tkS9 M L ((skb M L aT), eN, bD, bP, cD, wT, oP, bS, cS, wS) 3 (M 23)) (skb M L ((tkS9 M L ((skb M L aT), eN, bD, bP, cD, wT, oP, bS, cS, wS) 3 (M 23)).1))) 40).1 + 2 := hI6.2
        refine gf_goto 143 dX12_onePart_138 rfl ?_
        refine gf_goto 2 dX12_onePart_143 rfl ?_
        exact gf_lw (K1 _ hI6 (fun _ => Nat.le_trans (by omega) agS_ge) (show opB M L (aT, eN, bD, bP, cD, wT, oP, bS, cS, wS) = _ from (if_neg zc21).trans ((if_neg zc55).trans (if_neg zc96)))) ⟨rfl, rfl, trivial⟩
      · refine gf_aload_n 0 dX12_onePart_99 rfl rfl ?_
        refine gf_getI flX12_291 rfl dX12_onePart_100 (gt_247 hG) ?_
        rw [show hp_i (hm h (pM M (s0 (tkS9 M L ((skb M L aT), eN, bD, bP, cD, wT, oP, bS, cS, wS) 3 (M 23)) (skb M L ((tkS9 M L ((skb M L aT), eN, bD, bP, cD, wT, oP, bS, cS, wS) 3 (M 23)).1)))) N) 247 2 = (nI (skb M L ((tkS9 M L ((skb M L aT), eN, bD, bP, cD, wT, oP, bS, cS, wS) 3 (M 23)).1))) from rfl]
        refine gf_goto 107 dX12_onePart_103 rfl ?_
        refine gf_istore dX12_onePart_107 (Nat.le_of_ble_eq_true rfl) ?_
        refine gf_iload dX12_onePart_109 rfl ?_
        refine gf_iconst (-1) dX12_onePart_111 rfl ?_
        refine gf_icmp_eq 132 dX12_onePart_112 rfl (fun q => absurd q (nI_nm1 (by omega))) (fun _ => ?_)
        refine gf_aload_n 0 dX12_onePart_115 rfl rfl ?_
        refine gf_iload_n 3 dX12_onePart_116 rfl rfl ?_
        refine gf_if_eq 125 dX12_onePart_117 rfl (fun q => absurd q (zc55)) (fun _ => ?_)
        refine gf_bipush (21) dX12_onePart_120 rfl ?_
        refine gf_goto 127 dX12_onePart_122 rfl ?_
        refine gf_iload dX12_onePart_127 rfl ?_
        refine gf_callV cmX12_opens lkX12_351 imX12_opens seX12_opens ⟨rfl, by decide⟩ dX12_onePart_129 (d1 := d - 1) (by omega) (gt_247 hG) (e_X12_opens E (by omega) 21 (nI (skb M L ((tkS9 M L ((skb M L aT), eN, bD, bP, cD, wT, oP, bS, cS, wS) 3 (M 23)).1))) h hG M N (skb M L ((tkS9 M L ((skb M L aT), eN, bD, bP, cD, wT, oP, bS, cS, wS) 3 (M 23)).1)) ((tkS9 M L ((skb M L aT), eN, bD, bP, cD, wT, oP, bS, cS, wS) 3 (M 23)).2.1) ((tkS9 M L ((skb M L aT), eN, bD, bP, cD, wT, oP, bS, cS, wS) 3 (M 23)).2.2.1) ((tkS9 M L ((skb M L aT), eN, bD, bP, cD, wT, oP, bS, cS, wS) 3 (M 23)).2.2.2.1) ((tkS9 M L ((skb M L aT), eN, bD, bP, cD, wT, oP, bS, cS, wS) 3 (M 23)).2.2.2.2.1) ((tkS9 M L ((skb M L aT), eN, bD, bP, cD, wT, oP, bS, cS, wS) 3 (M 23)).2.2.2.2.2.1) ((tkS9 M L ((skb M L aT), eN, bD, bP, cD, wT, oP, bS, cS, wS) 3 (M 23)).2.2.2.2.2.2.1) ((tkS9 M L ((skb M L aT), eN, bD, bP, cD, wT, oP, bS, cS, wS) 3 (M 23)).2.2.2.2.2.2.2.1) ((tkS9 M L ((skb M L aT), eN, bD, bP, cD, wT, oP, bS, cS, wS) 3 (M 23)).2.2.2.2.2.2.2.2.1) ((tkS9 M L ((skb M L aT), eN, bD, bP, cD, wT, oP, bS, cS, wS) 3 (M 23)).2.2.2.2.2.2.2.2.2) (by omega)) rfl rfl (Nat.le_of_ble_eq_true rfl) ?_
        have hO := opS_r (q := (s0 (tkS9 M L ((skb M L aT), eN, bD, bP, cD, wT, oP, bS, cS, wS) 3 (M 23)) (skb M L ((tkS9 M L ((skb M L aT), eN, bD, bP, cD, wT, oP, bS, cS, wS) 3 (M 23)).1)))) (v := 21) (p := (nI (skb M L ((tkS9 M L ((skb M L aT), eN, bD, bP, cD, wT, oP, bS, cS, wS) 3 (M 23)).1))))
        have hO1 : (opS (s0 (tkS9 M L ((skb M L aT), eN, bD, bP, cD, wT, oP, bS, cS, wS) 3 (M 23)) (skb M L ((tkS9 M L ((skb M L aT), eN, bD, bP, cD, wT, oP, bS, cS, wS) 3 (M 23)).1))) 21 (nI (skb M L ((tkS9 M L ((skb M L aT), eN, bD, bP, cD, wT, oP, bS, cS, wS) 3 (M 23)).1)))).1 = (skb M L ((tkS9 M L ((skb M L aT), eN, bD, bP, cD, wT, oP, bS, cS, wS) 3 (M 23)).1)) := hO.1
        have hI7 : rI L (opS (s0 (tkS9 M L ((skb M L aT), eN, bD, bP, cD, wT, oP, bS, cS, wS) 3 (M 23)) (skb M L ((tkS9 M L ((skb M L aT), eN, bD, bP, cD, wT, oP, bS, cS, wS) 3 (M 23)).1))) 21 (nI (skb M L ((tkS9 M L ((skb M L aT), eN, bD, bP, cD, wT, oP, bS, cS, wS) 3 (M 23)).1)))) := opS_I2 (by omega) (show (tkS9 M L ((skb M L aT), eN, bD, bP, cD, wT, oP, bS, cS, wS) 3 (M 23)).2.2.2.2.1 + (tkS9 M L ((skb M L aT), eN, bD, bP, cD, wT, oP, bS, cS, wS) 3 (M 23)).2.2.2.2.2.1 + 1 ≤ (skb M L ((tkS9 M L ((skb M L aT), eN, bD, bP, cD, wT, oP, bS, cS, wS) 3 (M 23)).1)) + 2 by omega)
        have hA7 : (opS (s0 (tkS9 M L ((skb M L aT), eN, bD, bP, cD, wT, oP, bS, cS, wS) 3 (M 23)) (skb M L ((tkS9 M L ((skb M L aT), eN, bD, bP, cD, wT, oP, bS, cS, wS) 3 (M 23)).1))) 21 (nI (skb M L ((tkS9 M L ((skb M L aT), eN, bD, bP, cD, wT, oP, bS, cS, wS) 3 (M 23)).1)))).1 ≤ L := hI7.1
        have hB7 : (opS (s0 (tkS9 M L ((skb M L aT), eN, bD, bP, cD, wT, oP, bS, cS, wS) 3 (M 23)) (skb M L ((tkS9 M L ((skb M L aT), eN, bD, bP, cD, wT, oP, bS, cS, wS) 3 (M 23)).1))) 21 (nI (skb M L ((tkS9 M L ((skb M L aT), eN, bD, bP, cD, wT, oP, bS, cS, wS) 3 (M 23)).1)))).2.2.2.2.1 + (opS (s0 (tkS9 M L ((skb M L aT), eN, bD, bP, cD, wT, oP, bS, cS, wS) 3 (M 23)) (skb M L ((tkS9 M L ((skb M L aT), eN, bD, bP, cD, wT, oP, bS, cS, wS) 3 (M 23)).1))) 21 (nI (skb M L ((tkS9 M L ((skb M L aT), eN, bD, bP, cD, wT, oP, bS, cS, wS) 3 (M 23)).1)))).2.2.2.2.2.1 ≤ (opS (s0 (tkS9 M L ((skb M L aT), eN, bD, bP, cD, wT, oP, bS, cS, wS) 3 (M 23)) (skb M L ((tkS9 M L ((skb M L aT), eN, bD, bP, cD, wT, oP, bS, cS, wS) 3 (M 23)).1))) 21 (nI (skb M L ((tkS9 M L ((skb M L aT), eN, bD, bP, cD, wT, oP, bS, cS, wS) 3 (M 23)).1)))).1 + 2 := hI7.2
        refine gf_aload_n 0 dX12_onePart_132 rfl rfl ?_
        refine gf_bipush (40) dX12_onePart_133 rfl ?_
        refine gf_callV cmX12_asksSign lkX12_358 imX12_asksSign seX12_asksSign ⟨rfl, by decide⟩ dX12_onePart_135 (d1 := d - 1) (by omega) (gt_247 hG) (e_X12_asksSign E (by omega) h hG M N T ((opS (s0 (tkS9 M L ((skb M L aT), eN, bD, bP, cD, wT, oP, bS, cS, wS) 3 (M 23)) (skb M L ((tkS9 M L ((skb M L aT), eN, bD, bP, cD, wT, oP, bS, cS, wS) 3 (M 23)).1))) 21 (nI (skb M L ((tkS9 M L ((skb M L aT), eN, bD, bP, cD, wT, oP, bS, cS, wS) 3 (M 23)).1)))).1) ((opS (s0 (tkS9 M L ((skb M L aT), eN, bD, bP, cD, wT, oP, bS, cS, wS) 3 (M 23)) (skb M L ((tkS9 M L ((skb M L aT), eN, bD, bP, cD, wT, oP, bS, cS, wS) 3 (M 23)).1))) 21 (nI (skb M L ((tkS9 M L ((skb M L aT), eN, bD, bP, cD, wT, oP, bS, cS, wS) 3 (M 23)).1)))).2.1) ((opS (s0 (tkS9 M L ((skb M L aT), eN, bD, bP, cD, wT, oP, bS, cS, wS) 3 (M 23)) (skb M L ((tkS9 M L ((skb M L aT), eN, bD, bP, cD, wT, oP, bS, cS, wS) 3 (M 23)).1))) 21 (nI (skb M L ((tkS9 M L ((skb M L aT), eN, bD, bP, cD, wT, oP, bS, cS, wS) 3 (M 23)).1)))).2.2.1) ((opS (s0 (tkS9 M L ((skb M L aT), eN, bD, bP, cD, wT, oP, bS, cS, wS) 3 (M 23)) (skb M L ((tkS9 M L ((skb M L aT), eN, bD, bP, cD, wT, oP, bS, cS, wS) 3 (M 23)).1))) 21 (nI (skb M L ((tkS9 M L ((skb M L aT), eN, bD, bP, cD, wT, oP, bS, cS, wS) 3 (M 23)).1)))).2.2.2.1) ((opS (s0 (tkS9 M L ((skb M L aT), eN, bD, bP, cD, wT, oP, bS, cS, wS) 3 (M 23)) (skb M L ((tkS9 M L ((skb M L aT), eN, bD, bP, cD, wT, oP, bS, cS, wS) 3 (M 23)).1))) 21 (nI (skb M L ((tkS9 M L ((skb M L aT), eN, bD, bP, cD, wT, oP, bS, cS, wS) 3 (M 23)).1)))).2.2.2.2.1) ((opS (s0 (tkS9 M L ((skb M L aT), eN, bD, bP, cD, wT, oP, bS, cS, wS) 3 (M 23)) (skb M L ((tkS9 M L ((skb M L aT), eN, bD, bP, cD, wT, oP, bS, cS, wS) 3 (M 23)).1))) 21 (nI (skb M L ((tkS9 M L ((skb M L aT), eN, bD, bP, cD, wT, oP, bS, cS, wS) 3 (M 23)).1)))).2.2.2.2.2.1) ((opS (s0 (tkS9 M L ((skb M L aT), eN, bD, bP, cD, wT, oP, bS, cS, wS) 3 (M 23)) (skb M L ((tkS9 M L ((skb M L aT), eN, bD, bP, cD, wT, oP, bS, cS, wS) 3 (M 23)).1))) 21 (nI (skb M L ((tkS9 M L ((skb M L aT), eN, bD, bP, cD, wT, oP, bS, cS, wS) 3 (M 23)).1)))).2.2.2.2.2.2.1) ((opS (s0 (tkS9 M L ((skb M L aT), eN, bD, bP, cD, wT, oP, bS, cS, wS) 3 (M 23)) (skb M L ((tkS9 M L ((skb M L aT), eN, bD, bP, cD, wT, oP, bS, cS, wS) 3 (M 23)).1))) 21 (nI (skb M L ((tkS9 M L ((skb M L aT), eN, bD, bP, cD, wT, oP, bS, cS, wS) 3 (M 23)).1)))).2.2.2.2.2.2.2.1) ((opS (s0 (tkS9 M L ((skb M L aT), eN, bD, bP, cD, wT, oP, bS, cS, wS) 3 (M 23)) (skb M L ((tkS9 M L ((skb M L aT), eN, bD, bP, cD, wT, oP, bS, cS, wS) 3 (M 23)).1))) 21 (nI (skb M L ((tkS9 M L ((skb M L aT), eN, bD, bP, cD, wT, oP, bS, cS, wS) 3 (M 23)).1)))).2.2.2.2.2.2.2.2.1) ((opS (s0 (tkS9 M L ((skb M L aT), eN, bD, bP, cD, wT, oP, bS, cS, wS) 3 (M 23)) (skb M L ((tkS9 M L ((skb M L aT), eN, bD, bP, cD, wT, oP, bS, cS, wS) 3 (M 23)).1))) 21 (nI (skb M L ((tkS9 M L ((skb M L aT), eN, bD, bP, cD, wT, oP, bS, cS, wS) 3 (M 23)).1)))).2.2.2.2.2.2.2.2.2) 40 (by omega)) rfl rfl (Nat.le_of_ble_eq_true rfl) ?_
        have hI8 : rI L (agS M L (opS (s0 (tkS9 M L ((skb M L aT), eN, bD, bP, cD, wT, oP, bS, cS, wS) 3 (M 23)) (skb M L ((tkS9 M L ((skb M L aT), eN, bD, bP, cD, wT, oP, bS, cS, wS) 3 (M 23)).1))) 21 (nI (skb M L ((tkS9 M L ((skb M L aT), eN, bD, bP, cD, wT, oP, bS, cS, wS) 3 (M 23)).1)))) 40) := agS_I (by decide) hI7
        have hA8 : (agS M L (opS (s0 (tkS9 M L ((skb M L aT), eN, bD, bP, cD, wT, oP, bS, cS, wS) 3 (M 23)) (skb M L ((tkS9 M L ((skb M L aT), eN, bD, bP, cD, wT, oP, bS, cS, wS) 3 (M 23)).1))) 21 (nI (skb M L ((tkS9 M L ((skb M L aT), eN, bD, bP, cD, wT, oP, bS, cS, wS) 3 (M 23)).1)))) 40).1 ≤ L := hI8.1
        have hB8 : (agS M L (opS (s0 (tkS9 M L ((skb M L aT), eN, bD, bP, cD, wT, oP, bS, cS, wS) 3 (M 23)) (skb M L ((tkS9 M L ((skb M L aT), eN, bD, bP, cD, wT, oP, bS, cS, wS) 3 (M 23)).1))) 21 (nI (skb M L ((tkS9 M L ((skb M L aT), eN, bD, bP, cD, wT, oP, bS, cS, wS) 3 (M 23)).1)))) 40).2.2.2.2.1 + (agS M L (opS (s0 (tkS9 M L ((skb M L aT), eN, bD, bP, cD, wT, oP, bS, cS, wS) 3 (M 23)) (skb M L ((tkS9 M L ((skb M L aT), eN, bD, bP, cD, wT, oP, bS, cS, wS) 3 (M 23)).1))) 21 (nI (skb M L ((tkS9 M L ((skb M L aT), eN, bD, bP, cD, wT, oP, bS, cS, wS) 3 (M 23)).1)))) 40).2.2.2.2.2.1 ≤ (agS M L (opS (s0 (tkS9 M L ((skb M L aT), eN, bD, bP, cD, wT, oP, bS, cS, wS) 3 (M 23)) (skb M L ((tkS9 M L ((skb M L aT), eN, bD, bP, cD, wT, oP, bS, cS, wS) 3 (M 23)).1))) 21 (nI (skb M L ((tkS9 M L ((skb M L aT), eN, bD, bP, cD, wT, oP, bS, cS, wS) 3 (M 23)).1)))) 40).1 + 2 := hI8.2
        refine gf_goto 143 dX12_onePart_138 rfl ?_
        refine gf_goto 2 dX12_onePart_143 rfl ?_
        exact gf_lw (K1 _ hI8 (fun _ => Nat.le_trans (by omega) agS_ge) (show opB M L (aT, eN, bD, bP, cD, wT, oP, bS, cS, wS) = _ from (if_neg zc21).trans ((if_neg zc55).trans (if_pos zc96)))) ⟨rfl, rfl, trivial⟩
    · refine gf_aload_n 0 dX12_onePart_58 rfl rfl ?_
      refine gf_aload_n 0 dX12_onePart_59 rfl rfl ?_
      refine gf_getR flX12_84 rfl dX12_onePart_60 (gt_247 hG) (gp_247_31 hG) ?_
      refine gf_callV cmX12_isHere lkX12_308 imX12_isHere seX12_isHere ⟨rfl, by decide⟩ dX12_onePart_63 (d1 := d - 1) (by omega) (gt_247 hG) (e_X12_isHere E (by omega) h hG M N T (skb M L aT) eN bD bP cD wT oP bS cS wS (A := 271) (l := 3) (f := M 24) (gt_271 hG) (gl_271 hG) (fun q j => rfl) (by omega) (by omega)) rfl rfl (Nat.le_of_ble_eq_true rfl) ?_
      rw [show hrS M L ((skb M L aT), eN, bD, bP, cD, wT, oP, bS, cS, wS) = ((skb M L aT), eN, bD, bP, cD, wT, oP, bS, cS, wS) from hrS_sk (by omega)]
      refine gf_if_eq 141 dX12_onePart_66 rfl (fun zc66 => ?_) (fun zc66 => ?_)
      · refine gf_iconst (0) dX12_onePart_141 rfl ?_
        refine gf_istore_n 1 dX12_onePart_142 rfl (Nat.le_of_ble_eq_true rfl) ?_
        refine gf_goto 2 dX12_onePart_143 rfl ?_
        refine gf_iload_n 1 dX12_onePart_2 rfl rfl ?_
        refine gf_if_eq 146 dX12_onePart_3 rfl (fun _ => ?_) (fun q => absurd (rfl) q)
        exact gf_lw (K2 _ hI1 (show opB M L (aT, eN, bD, bP, cD, wT, oP, bS, cS, wS) = _ from (if_neg zc21).trans ((if_pos zc55).trans (if_pos zc66)))) ⟨rfl, trivial⟩
      · refine gf_aload_n 0 dX12_onePart_69 rfl rfl ?_
        refine gf_aload_n 0 dX12_onePart_70 rfl rfl ?_
        refine gf_getR flX12_81 rfl dX12_onePart_71 (gt_247 hG) (gp_247_30 hG) ?_
        refine gf_callV cmX12_takes lkX12_312 imX12_takes seX12_takes ⟨rfl, by decide⟩ dX12_onePart_74 (d1 := d - 1) (by omega) (gt_247 hG) (e_X12_takes E (by omega) h hG M N T (skb M L aT) eN bD bP cD wT oP bS cS wS (A := 270) (l := 3) (f := M 23) (gt_270 hG) (gl_270 hG) (fun q j => rfl) (by omega) (by omega)) rfl rfl (Nat.le_of_ble_eq_true rfl) ?_
        rw [show (tkS9 M L ((skb M L aT), eN, bD, bP, cD, wT, oP, bS, cS, wS) 3 (M 23)) = ((skb M L aT), eN, bD, bP, cD, wT, oP, bS, cS, wS) from (if_neg (by rw [bI_f zc55]; decide)).trans (hrS_sk (by omega))]
        refine gf_istore_n 3 dX12_onePart_77 rfl (Nat.le_of_ble_eq_true rfl) ?_
        refine gf_iload_n 3 dX12_onePart_78 rfl rfl ?_
        refine gf_if_ne 90 dX12_onePart_79 rfl (fun q => absurd (zc55) q) (fun _ => ?_)
        refine gf_aload_n 0 dX12_onePart_82 rfl rfl ?_
        refine gf_aload_n 0 dX12_onePart_83 rfl rfl ?_
        refine gf_getR flX12_84 rfl dX12_onePart_84 (gt_247 hG) (gp_247_31 hG) ?_
        refine gf_callV cmX12_asks lkX12_354 imX12_asks seX12_asks ⟨rfl, by decide⟩ dX12_onePart_87 (d1 := d - 1) (by omega) (gt_247 hG) (e_X12_asks E (by omega) h hG M N T (skb M L aT) eN bD bP cD wT oP bS cS wS (A := 271) (l := 3) (f := M 24) (gt_271 hG) (gl_271 hG) (fun q j => rfl) (by omega) (by omega)) rfl rfl (Nat.le_of_ble_eq_true rfl) ?_
        rw [show asS9 M L ((skb M L aT), eN, bD, bP, cD, wT, oP, bS, cS, wS) 3 (M 24) = (tkS9 M L ((skb M L aT), eN, bD, bP, cD, wT, oP, bS, cS, wS) 3 (M 24)) from (if_pos zb0).trans (if_pos (bI_t zc66))]
        have hItk : rI L (tkS9 M L ((skb M L aT), eN, bD, bP, cD, wT, oP, bS, cS, wS) 3 (M 24)) := tkS_I hI1
        have hAtk : (tkS9 M L ((skb M L aT), eN, bD, bP, cD, wT, oP, bS, cS, wS) 3 (M 24)).1 ≤ L := hItk.1
        have hT3 : aT + 3 ≤ (tkS9 M L ((skb M L aT), eN, bD, bP, cD, wT, oP, bS, cS, wS) 3 (M 24)).1 := by rw [(tkS_P (bI_t zc66)).1]; show aT + 3 ≤ skb M L (skb M L aT) + 3; have := skb_le (M := M) (L := L) (a := skb M L aT); omega
        have hT4 : (tkS9 M L ((skb M L aT), eN, bD, bP, cD, wT, oP, bS, cS, wS) 3 (M 24)).2.2.2.2 = ((skb M L aT), eN, bD, bP, cD, wT, oP, bS, cS, wS).2.2.2.2 := by rw [(tkS_P (bI_t zc66)).1]
        have hT5 : (tkS9 M L ((skb M L aT), eN, bD, bP, cD, wT, oP, bS, cS, wS) 3 (M 24)).2.2.2.2.1 = cD := congrArg (fun z => z.1) hT4
        have hT6 : (tkS9 M L ((skb M L aT), eN, bD, bP, cD, wT, oP, bS, cS, wS) 3 (M 24)).2.2.2.2.2.1 = wT := congrArg (fun z => z.2.1) hT4
        refine gf_aload_n 0 dX12_onePart_90 rfl rfl ?_
        refine gf_callV cmX12_look lkX12_297 imX12_look seX12_look ⟨rfl, by decide⟩ dX12_onePart_91 (d1 := d - 1) (by omega) (gt_247 hG) (e_X12_look E h hG M N T ((tkS9 M L ((skb M L aT), eN, bD, bP, cD, wT, oP, bS, cS, wS) 3 (M 24)).1) ((tkS9 M L ((skb M L aT), eN, bD, bP, cD, wT, oP, bS, cS, wS) 3 (M 24)).2.1) ((tkS9 M L ((skb M L aT), eN, bD, bP, cD, wT, oP, bS, cS, wS) 3 (M 24)).2.2.1) ((tkS9 M L ((skb M L aT), eN, bD, bP, cD, wT, oP, bS, cS, wS) 3 (M 24)).2.2.2.1) ((tkS9 M L ((skb M L aT), eN, bD, bP, cD, wT, oP, bS, cS, wS) 3 (M 24)).2.2.2.2.1) ((tkS9 M L ((skb M L aT), eN, bD, bP, cD, wT, oP, bS, cS, wS) 3 (M 24)).2.2.2.2.2.1) ((tkS9 M L ((skb M L aT), eN, bD, bP, cD, wT, oP, bS, cS, wS) 3 (M 24)).2.2.2.2.2.2.1) ((tkS9 M L ((skb M L aT), eN, bD, bP, cD, wT, oP, bS, cS, wS) 3 (M 24)).2.2.2.2.2.2.2.1) ((tkS9 M L ((skb M L aT), eN, bD, bP, cD, wT, oP, bS, cS, wS) 3 (M 24)).2.2.2.2.2.2.2.2.1) ((tkS9 M L ((skb M L aT), eN, bD, bP, cD, wT, oP, bS, cS, wS) 3 (M 24)).2.2.2.2.2.2.2.2.2) (by omega)) rfl rfl (Nat.le_of_ble_eq_true rfl) ?_
        have hI11 : rI L (s0 (tkS9 M L ((skb M L aT), eN, bD, bP, cD, wT, oP, bS, cS, wS) 3 (M 24)) (skb M L ((tkS9 M L ((skb M L aT), eN, bD, bP, cD, wT, oP, bS, cS, wS) 3 (M 24)).1))) := skb_I hItk
        have hA11 : (skb M L ((tkS9 M L ((skb M L aT), eN, bD, bP, cD, wT, oP, bS, cS, wS) 3 (M 24)).1)) ≤ L := hI11.1
        have hB11 : (tkS9 M L ((skb M L aT), eN, bD, bP, cD, wT, oP, bS, cS, wS) 3 (M 24)).2.2.2.2.1 + (tkS9 M L ((skb M L aT), eN, bD, bP, cD, wT, oP, bS, cS, wS) 3 (M 24)).2.2.2.2.2.1 ≤ (skb M L ((tkS9 M L ((skb M L aT), eN, bD, bP, cD, wT, oP, bS, cS, wS) 3 (M 24)).1)) + 2 := hI11.2
        have hk12 := (skb_le (M := M) (L := L) (a := (tkS9 M L ((skb M L aT), eN, bD, bP, cD, wT, oP, bS, cS, wS) 3 (M 24)).1)).1
        refine gf_bipush (40) dX12_onePart_94 rfl ?_
        refine gf_icmp_ne 106 dX12_onePart_96 rfl (fun zc96 => ?_) (fun zc96 => ?_)
        · refine gf_iconst (-1) dX12_onePart_106 rfl ?_
          refine gf_istore dX12_onePart_107 (Nat.le_of_ble_eq_true rfl) ?_
          refine gf_iload dX12_onePart_109 rfl ?_
          refine gf_iconst (-1) dX12_onePart_111 rfl ?_
          refine gf_icmp_eq 132 dX12_onePart_112 rfl (fun _ => ?_) (fun q => absurd (rfl) q)
          refine gf_aload_n 0 dX12_onePart_132 rfl rfl ?_
          refine gf_bipush (40) dX12_onePart_133 rfl ?_
          refine gf_callV cmX12_asksSign lkX12_358 imX12_asksSign seX12_asksSign ⟨rfl, by decide⟩ dX12_onePart_135 (d1 := d - 1) (by omega) (gt_247 hG) (e_X12_asksSign E (by omega) h hG M N T (skb M L ((tkS9 M L ((skb M L aT), eN, bD, bP, cD, wT, oP, bS, cS, wS) 3 (M 24)).1)) ((tkS9 M L ((skb M L aT), eN, bD, bP, cD, wT, oP, bS, cS, wS) 3 (M 24)).2.1) ((tkS9 M L ((skb M L aT), eN, bD, bP, cD, wT, oP, bS, cS, wS) 3 (M 24)).2.2.1) ((tkS9 M L ((skb M L aT), eN, bD, bP, cD, wT, oP, bS, cS, wS) 3 (M 24)).2.2.2.1) ((tkS9 M L ((skb M L aT), eN, bD, bP, cD, wT, oP, bS, cS, wS) 3 (M 24)).2.2.2.2.1) ((tkS9 M L ((skb M L aT), eN, bD, bP, cD, wT, oP, bS, cS, wS) 3 (M 24)).2.2.2.2.2.1) ((tkS9 M L ((skb M L aT), eN, bD, bP, cD, wT, oP, bS, cS, wS) 3 (M 24)).2.2.2.2.2.2.1) ((tkS9 M L ((skb M L aT), eN, bD, bP, cD, wT, oP, bS, cS, wS) 3 (M 24)).2.2.2.2.2.2.2.1) ((tkS9 M L ((skb M L aT), eN, bD, bP, cD, wT, oP, bS, cS, wS) 3 (M 24)).2.2.2.2.2.2.2.2.1) ((tkS9 M L ((skb M L aT), eN, bD, bP, cD, wT, oP, bS, cS, wS) 3 (M 24)).2.2.2.2.2.2.2.2.2) 40 (by omega)) rfl rfl (Nat.le_of_ble_eq_true rfl) ?_
          have hI13 : rI L (agS M L (s0 (tkS9 M L ((skb M L aT), eN, bD, bP, cD, wT, oP, bS, cS, wS) 3 (M 24)) (skb M L ((tkS9 M L ((skb M L aT), eN, bD, bP, cD, wT, oP, bS, cS, wS) 3 (M 24)).1))) 40) := agS_I (by decide) hI11
          have hA13 : (agS M L (s0 (tkS9 M L ((skb M L aT), eN, bD, bP, cD, wT, oP, bS, cS, wS) 3 (M 24)) (skb M L ((tkS9 M L ((skb M L aT), eN, bD, bP, cD, wT, oP, bS, cS, wS) 3 (M 24)).1))) 40).1 ≤ L := hI13.1
          have hB13 : (agS M L (s0 (tkS9 M L ((skb M L aT), eN, bD, bP, cD, wT, oP, bS, cS, wS) 3 (M 24)) (skb M L ((tkS9 M L ((skb M L aT), eN, bD, bP, cD, wT, oP, bS, cS, wS) 3 (M 24)).1))) 40).2.2.2.2.1 + (agS M L (s0 (tkS9 M L ((skb M L aT), eN, bD, bP, cD, wT, oP, bS, cS, wS) 3 (M 24)) (skb M L ((tkS9 M L ((skb M L aT), eN, bD, bP, cD, wT, oP, bS, cS, wS) 3 (M 24)).1))) 40).2.2.2.2.2.1 ≤ (agS M L (s0 (tkS9 M L ((skb M L aT), eN, bD, bP, cD, wT, oP, bS, cS, wS) 3 (M 24)) (skb M L ((tkS9 M L ((skb M L aT), eN, bD, bP, cD, wT, oP, bS, cS, wS) 3 (M 24)).1))) 40).1 + 2 := hI13.2
          refine gf_goto 143 dX12_onePart_138 rfl ?_
          refine gf_goto 2 dX12_onePart_143 rfl ?_
          exact gf_lw (K1 _ hI13 (fun _ => Nat.le_trans (by omega) agS_ge) (show opB M L (aT, eN, bD, bP, cD, wT, oP, bS, cS, wS) = _ from (if_neg zc21).trans ((if_pos zc55).trans ((if_neg zc66).trans (if_neg zc96))))) ⟨rfl, rfl, trivial⟩
        · refine gf_aload_n 0 dX12_onePart_99 rfl rfl ?_
          refine gf_getI flX12_291 rfl dX12_onePart_100 (gt_247 hG) ?_
          rw [show hp_i (hm h (pM M (s0 (tkS9 M L ((skb M L aT), eN, bD, bP, cD, wT, oP, bS, cS, wS) 3 (M 24)) (skb M L ((tkS9 M L ((skb M L aT), eN, bD, bP, cD, wT, oP, bS, cS, wS) 3 (M 24)).1)))) N) 247 2 = (nI (skb M L ((tkS9 M L ((skb M L aT), eN, bD, bP, cD, wT, oP, bS, cS, wS) 3 (M 24)).1))) from rfl]
          refine gf_goto 107 dX12_onePart_103 rfl ?_
          refine gf_istore dX12_onePart_107 (Nat.le_of_ble_eq_true rfl) ?_
          refine gf_iload dX12_onePart_109 rfl ?_
          refine gf_iconst (-1) dX12_onePart_111 rfl ?_
          refine gf_icmp_eq 132 dX12_onePart_112 rfl (fun q => absurd q (nI_nm1 (by omega))) (fun _ => ?_)
          refine gf_aload_n 0 dX12_onePart_115 rfl rfl ?_
          refine gf_iload_n 3 dX12_onePart_116 rfl rfl ?_
          refine gf_if_eq 125 dX12_onePart_117 rfl (fun _ => ?_) (fun q => absurd (zc55) q)
          refine gf_bipush (22) dX12_onePart_125 rfl ?_
          refine gf_iload dX12_onePart_127 rfl ?_
          refine gf_callV cmX12_opens lkX12_351 imX12_opens seX12_opens ⟨rfl, by decide⟩ dX12_onePart_129 (d1 := d - 1) (by omega) (gt_247 hG) (e_X12_opens E (by omega) 22 (nI (skb M L ((tkS9 M L ((skb M L aT), eN, bD, bP, cD, wT, oP, bS, cS, wS) 3 (M 24)).1))) h hG M N (skb M L ((tkS9 M L ((skb M L aT), eN, bD, bP, cD, wT, oP, bS, cS, wS) 3 (M 24)).1)) ((tkS9 M L ((skb M L aT), eN, bD, bP, cD, wT, oP, bS, cS, wS) 3 (M 24)).2.1) ((tkS9 M L ((skb M L aT), eN, bD, bP, cD, wT, oP, bS, cS, wS) 3 (M 24)).2.2.1) ((tkS9 M L ((skb M L aT), eN, bD, bP, cD, wT, oP, bS, cS, wS) 3 (M 24)).2.2.2.1) ((tkS9 M L ((skb M L aT), eN, bD, bP, cD, wT, oP, bS, cS, wS) 3 (M 24)).2.2.2.2.1) ((tkS9 M L ((skb M L aT), eN, bD, bP, cD, wT, oP, bS, cS, wS) 3 (M 24)).2.2.2.2.2.1) ((tkS9 M L ((skb M L aT), eN, bD, bP, cD, wT, oP, bS, cS, wS) 3 (M 24)).2.2.2.2.2.2.1) ((tkS9 M L ((skb M L aT), eN, bD, bP, cD, wT, oP, bS, cS, wS) 3 (M 24)).2.2.2.2.2.2.2.1) ((tkS9 M L ((skb M L aT), eN, bD, bP, cD, wT, oP, bS, cS, wS) 3 (M 24)).2.2.2.2.2.2.2.2.1) ((tkS9 M L ((skb M L aT), eN, bD, bP, cD, wT, oP, bS, cS, wS) 3 (M 24)).2.2.2.2.2.2.2.2.2) (by omega)) rfl rfl (Nat.le_of_ble_eq_true rfl) ?_
          have hO := opS_r (q := (s0 (tkS9 M L ((skb M L aT), eN, bD, bP, cD, wT, oP, bS, cS, wS) 3 (M 24)) (skb M L ((tkS9 M L ((skb M L aT), eN, bD, bP, cD, wT, oP, bS, cS, wS) 3 (M 24)).1)))) (v := 22) (p := (nI (skb M L ((tkS9 M L ((skb M L aT), eN, bD, bP, cD, wT, oP, bS, cS, wS) 3 (M 24)).1))))
          have hO1 : (opS (s0 (tkS9 M L ((skb M L aT), eN, bD, bP, cD, wT, oP, bS, cS, wS) 3 (M 24)) (skb M L ((tkS9 M L ((skb M L aT), eN, bD, bP, cD, wT, oP, bS, cS, wS) 3 (M 24)).1))) 22 (nI (skb M L ((tkS9 M L ((skb M L aT), eN, bD, bP, cD, wT, oP, bS, cS, wS) 3 (M 24)).1)))).1 = (skb M L ((tkS9 M L ((skb M L aT), eN, bD, bP, cD, wT, oP, bS, cS, wS) 3 (M 24)).1)) := hO.1
          have hI14 : rI L (opS (s0 (tkS9 M L ((skb M L aT), eN, bD, bP, cD, wT, oP, bS, cS, wS) 3 (M 24)) (skb M L ((tkS9 M L ((skb M L aT), eN, bD, bP, cD, wT, oP, bS, cS, wS) 3 (M 24)).1))) 22 (nI (skb M L ((tkS9 M L ((skb M L aT), eN, bD, bP, cD, wT, oP, bS, cS, wS) 3 (M 24)).1)))) := opS_I2 (by omega) (show (tkS9 M L ((skb M L aT), eN, bD, bP, cD, wT, oP, bS, cS, wS) 3 (M 24)).2.2.2.2.1 + (tkS9 M L ((skb M L aT), eN, bD, bP, cD, wT, oP, bS, cS, wS) 3 (M 24)).2.2.2.2.2.1 + 1 ≤ (skb M L ((tkS9 M L ((skb M L aT), eN, bD, bP, cD, wT, oP, bS, cS, wS) 3 (M 24)).1)) + 2 by omega)
          have hA14 : (opS (s0 (tkS9 M L ((skb M L aT), eN, bD, bP, cD, wT, oP, bS, cS, wS) 3 (M 24)) (skb M L ((tkS9 M L ((skb M L aT), eN, bD, bP, cD, wT, oP, bS, cS, wS) 3 (M 24)).1))) 22 (nI (skb M L ((tkS9 M L ((skb M L aT), eN, bD, bP, cD, wT, oP, bS, cS, wS) 3 (M 24)).1)))).1 ≤ L := hI14.1
          have hB14 : (opS (s0 (tkS9 M L ((skb M L aT), eN, bD, bP, cD, wT, oP, bS, cS, wS) 3 (M 24)) (skb M L ((tkS9 M L ((skb M L aT), eN, bD, bP, cD, wT, oP, bS, cS, wS) 3 (M 24)).1))) 22 (nI (skb M L ((tkS9 M L ((skb M L aT), eN, bD, bP, cD, wT, oP, bS, cS, wS) 3 (M 24)).1)))).2.2.2.2.1 + (opS (s0 (tkS9 M L ((skb M L aT), eN, bD, bP, cD, wT, oP, bS, cS, wS) 3 (M 24)) (skb M L ((tkS9 M L ((skb M L aT), eN, bD, bP, cD, wT, oP, bS, cS, wS) 3 (M 24)).1))) 22 (nI (skb M L ((tkS9 M L ((skb M L aT), eN, bD, bP, cD, wT, oP, bS, cS, wS) 3 (M 24)).1)))).2.2.2.2.2.1 ≤ (opS (s0 (tkS9 M L ((skb M L aT), eN, bD, bP, cD, wT, oP, bS, cS, wS) 3 (M 24)) (skb M L ((tkS9 M L ((skb M L aT), eN, bD, bP, cD, wT, oP, bS, cS, wS) 3 (M 24)).1))) 22 (nI (skb M L ((tkS9 M L ((skb M L aT), eN, bD, bP, cD, wT, oP, bS, cS, wS) 3 (M 24)).1)))).1 + 2 := hI14.2
          refine gf_aload_n 0 dX12_onePart_132 rfl rfl ?_
          refine gf_bipush (40) dX12_onePart_133 rfl ?_
          refine gf_callV cmX12_asksSign lkX12_358 imX12_asksSign seX12_asksSign ⟨rfl, by decide⟩ dX12_onePart_135 (d1 := d - 1) (by omega) (gt_247 hG) (e_X12_asksSign E (by omega) h hG M N T ((opS (s0 (tkS9 M L ((skb M L aT), eN, bD, bP, cD, wT, oP, bS, cS, wS) 3 (M 24)) (skb M L ((tkS9 M L ((skb M L aT), eN, bD, bP, cD, wT, oP, bS, cS, wS) 3 (M 24)).1))) 22 (nI (skb M L ((tkS9 M L ((skb M L aT), eN, bD, bP, cD, wT, oP, bS, cS, wS) 3 (M 24)).1)))).1) ((opS (s0 (tkS9 M L ((skb M L aT), eN, bD, bP, cD, wT, oP, bS, cS, wS) 3 (M 24)) (skb M L ((tkS9 M L ((skb M L aT), eN, bD, bP, cD, wT, oP, bS, cS, wS) 3 (M 24)).1))) 22 (nI (skb M L ((tkS9 M L ((skb M L aT), eN, bD, bP, cD, wT, oP, bS, cS, wS) 3 (M 24)).1)))).2.1) ((opS (s0 (tkS9 M L ((skb M L aT), eN, bD, bP, cD, wT, oP, bS, cS, wS) 3 (M 24)) (skb M L ((tkS9 M L ((skb M L aT), eN, bD, bP, cD, wT, oP, bS, cS, wS) 3 (M 24)).1))) 22 (nI (skb M L ((tkS9 M L ((skb M L aT), eN, bD, bP, cD, wT, oP, bS, cS, wS) 3 (M 24)).1)))).2.2.1) ((opS (s0 (tkS9 M L ((skb M L aT), eN, bD, bP, cD, wT, oP, bS, cS, wS) 3 (M 24)) (skb M L ((tkS9 M L ((skb M L aT), eN, bD, bP, cD, wT, oP, bS, cS, wS) 3 (M 24)).1))) 22 (nI (skb M L ((tkS9 M L ((skb M L aT), eN, bD, bP, cD, wT, oP, bS, cS, wS) 3 (M 24)).1)))).2.2.2.1) ((opS (s0 (tkS9 M L ((skb M L aT), eN, bD, bP, cD, wT, oP, bS, cS, wS) 3 (M 24)) (skb M L ((tkS9 M L ((skb M L aT), eN, bD, bP, cD, wT, oP, bS, cS, wS) 3 (M 24)).1))) 22 (nI (skb M L ((tkS9 M L ((skb M L aT), eN, bD, bP, cD, wT, oP, bS, cS, wS) 3 (M 24)).1)))).2.2.2.2.1) ((opS (s0 (tkS9 M L ((skb M L aT), eN, bD, bP, cD, wT, oP, bS, cS, wS) 3 (M 24)) (skb M L ((tkS9 M L ((skb M L aT), eN, bD, bP, cD, wT, oP, bS, cS, wS) 3 (M 24)).1))) 22 (nI (skb M L ((tkS9 M L ((skb M L aT), eN, bD, bP, cD, wT, oP, bS, cS, wS) 3 (M 24)).1)))).2.2.2.2.2.1) ((opS (s0 (tkS9 M L ((skb M L aT), eN, bD, bP, cD, wT, oP, bS, cS, wS) 3 (M 24)) (skb M L ((tkS9 M L ((skb M L aT), eN, bD, bP, cD, wT, oP, bS, cS, wS) 3 (M 24)).1))) 22 (nI (skb M L ((tkS9 M L ((skb M L aT), eN, bD, bP, cD, wT, oP, bS, cS, wS) 3 (M 24)).1)))).2.2.2.2.2.2.1) ((opS (s0 (tkS9 M L ((skb M L aT), eN, bD, bP, cD, wT, oP, bS, cS, wS) 3 (M 24)) (skb M L ((tkS9 M L ((skb M L aT), eN, bD, bP, cD, wT, oP, bS, cS, wS) 3 (M 24)).1))) 22 (nI (skb M L ((tkS9 M L ((skb M L aT), eN, bD, bP, cD, wT, oP, bS, cS, wS) 3 (M 24)).1)))).2.2.2.2.2.2.2.1) ((opS (s0 (tkS9 M L ((skb M L aT), eN, bD, bP, cD, wT, oP, bS, cS, wS) 3 (M 24)) (skb M L ((tkS9 M L ((skb M L aT), eN, bD, bP, cD, wT, oP, bS, cS, wS) 3 (M 24)).1))) 22 (nI (skb M L ((tkS9 M L ((skb M L aT), eN, bD, bP, cD, wT, oP, bS, cS, wS) 3 (M 24)).1)))).2.2.2.2.2.2.2.2.1) ((opS (s0 (tkS9 M L ((skb M L aT), eN, bD, bP, cD, wT, oP, bS, cS, wS) 3 (M 24)) (skb M L ((tkS9 M L ((skb M L aT), eN, bD, bP, cD, wT, oP, bS, cS, wS) 3 (M 24)).1))) 22 (nI (skb M L ((tkS9 M L ((skb M L aT), eN, bD, bP, cD, wT, oP, bS, cS, wS) 3 (M 24)).1)))).2.2.2.2.2.2.2.2.2) 40 (by omega)) rfl rfl (Nat.le_of_ble_eq_true rfl) ?_
          have hI15 : rI L (agS M L (opS (s0 (tkS9 M L ((skb M L aT), eN, bD, bP, cD, wT, oP, bS, cS, wS) 3 (M 24)) (skb M L ((tkS9 M L ((skb M L aT), eN, bD, bP, cD, wT, oP, bS, cS, wS) 3 (M 24)).1))) 22 (nI (skb M L ((tkS9 M L ((skb M L aT), eN, bD, bP, cD, wT, oP, bS, cS, wS) 3 (M 24)).1)))) 40) := agS_I (by decide) hI14
          have hA15 : (agS M L (opS (s0 (tkS9 M L ((skb M L aT), eN, bD, bP, cD, wT, oP, bS, cS, wS) 3 (M 24)) (skb M L ((tkS9 M L ((skb M L aT), eN, bD, bP, cD, wT, oP, bS, cS, wS) 3 (M 24)).1))) 22 (nI (skb M L ((tkS9 M L ((skb M L aT), eN, bD, bP, cD, wT, oP, bS, cS, wS) 3 (M 24)).1)))) 40).1 ≤ L := hI15.1
          have hB15 : (agS M L (opS (s0 (tkS9 M L ((skb M L aT), eN, bD, bP, cD, wT, oP, bS, cS, wS) 3 (M 24)) (skb M L ((tkS9 M L ((skb M L aT), eN, bD, bP, cD, wT, oP, bS, cS, wS) 3 (M 24)).1))) 22 (nI (skb M L ((tkS9 M L ((skb M L aT), eN, bD, bP, cD, wT, oP, bS, cS, wS) 3 (M 24)).1)))) 40).2.2.2.2.1 + (agS M L (opS (s0 (tkS9 M L ((skb M L aT), eN, bD, bP, cD, wT, oP, bS, cS, wS) 3 (M 24)) (skb M L ((tkS9 M L ((skb M L aT), eN, bD, bP, cD, wT, oP, bS, cS, wS) 3 (M 24)).1))) 22 (nI (skb M L ((tkS9 M L ((skb M L aT), eN, bD, bP, cD, wT, oP, bS, cS, wS) 3 (M 24)).1)))) 40).2.2.2.2.2.1 ≤ (agS M L (opS (s0 (tkS9 M L ((skb M L aT), eN, bD, bP, cD, wT, oP, bS, cS, wS) 3 (M 24)) (skb M L ((tkS9 M L ((skb M L aT), eN, bD, bP, cD, wT, oP, bS, cS, wS) 3 (M 24)).1))) 22 (nI (skb M L ((tkS9 M L ((skb M L aT), eN, bD, bP, cD, wT, oP, bS, cS, wS) 3 (M 24)).1)))) 40).1 + 2 := hI15.2
          refine gf_goto 143 dX12_onePart_138 rfl ?_
          refine gf_goto 2 dX12_onePart_143 rfl ?_
          exact gf_lw (K1 _ hI15 (fun _ => Nat.le_trans (by omega) agS_ge) (show opB M L (aT, eN, bD, bP, cD, wT, oP, bS, cS, wS) = _ from (if_neg zc21).trans ((if_pos zc55).trans ((if_neg zc66).trans (if_pos zc96))))) ⟨rfl, rfl, trivial⟩
  · refine gf_aload_n 0 dX12_onePart_24 rfl rfl ?_
    refine gf_bipush (20) dX12_onePart_25 rfl ?_
    refine gf_aload_n 0 dX12_onePart_27 rfl rfl ?_
    refine gf_getI flX12_291 rfl dX12_onePart_28 (gt_247 hG) ?_
    rw [show hp_i (hm h (pM M ((skb M L aT), eN, bD, bP, cD, wT, oP, bS, cS, wS)) N) 247 2 = (nI (skb M L aT)) from rfl]
    refine gf_callV cmX12_opens lkX12_351 imX12_opens seX12_opens ⟨rfl, by decide⟩ dX12_onePart_31 (d1 := d - 1) (by omega) (gt_247 hG) (e_X12_opens E (by omega) 20 (nI (skb M L aT)) h hG M N (skb M L aT) eN bD bP cD wT oP bS cS wS (by omega)) rfl rfl (Nat.le_of_ble_eq_true rfl) ?_
    refine gf_aload_n 0 dX12_onePart_34 rfl rfl ?_
    refine gf_dup dX12_onePart_35 rfl ?_
    refine gf_getI flX12_291 rfl dX12_onePart_36 (gt_247 hG) ?_
    rw [show hp_i (hm h (pM M (opS ((skb M L aT), eN, bD, bP, cD, wT, oP, bS, cS, wS) 20 (nI (skb M L aT)))) N) 247 2 = (nI ((opS ((skb M L aT), eN, bD, bP, cD, wT, oP, bS, cS, wS) 20 (nI (skb M L aT))).1)) from rfl]
    refine gf_iconst (1) dX12_onePart_39 rfl ?_
    refine gf_iadd dX12_onePart_40 ?_
    rw [nI_1 ((opS ((skb M L aT), eN, bD, bP, cD, wT, oP, bS, cS, wS) 20 (nI (skb M L aT))).1)]
    refine gf_putI flX12_291 rfl rfl dX12_onePart_41 (gt_247 hG) ⟨rfl, rfl⟩ ?_
    rw [mI_0, pM_2]
    have hI16 : rI L (s0 (opS ((skb M L aT), eN, bD, bP, cD, wT, oP, bS, cS, wS) 20 (nI (skb M L aT))) (((opS ((skb M L aT), eN, bD, bP, cD, wT, oP, bS, cS, wS) 20 (nI (skb M L aT))).1) + 1)) := opS_I hI1 (lkV_lt (by decide) zc21)
    have hA16 : (((opS ((skb M L aT), eN, bD, bP, cD, wT, oP, bS, cS, wS) 20 (nI (skb M L aT))).1) + 1) ≤ L := hI16.1
    have hB16 : (opS ((skb M L aT), eN, bD, bP, cD, wT, oP, bS, cS, wS) 20 (nI (skb M L aT))).2.2.2.2.1 + (opS ((skb M L aT), eN, bD, bP, cD, wT, oP, bS, cS, wS) 20 (nI (skb M L aT))).2.2.2.2.2.1 ≤ (((opS ((skb M L aT), eN, bD, bP, cD, wT, oP, bS, cS, wS) 20 (nI (skb M L aT))).1) + 1) + 2 := hI16.2
    refine gf_goto 143 dX12_onePart_44 rfl ?_
    refine gf_goto 2 dX12_onePart_143 rfl ?_
    exact gf_lw (K1 _ hI16 (fun _ => by have r := opS_r (q := ((skb M L aT), eN, bD, bP, cD, wT, oP, bS, cS, wS)) (v := 20) (p := nI (skb M L aT)); show aT + 1 ≤ (opS _ _ _).1 + 1; rw [r.1]; show aT + 1 ≤ skb M L aT + 1; omega) (show opB M L (aT, eN, bD, bP, cD, wT, oP, bS, cS, wS) = _ from if_pos zc21)) ⟨rfl, rfl, trivial⟩
def opF (M : mM) (L : Nat) : Nat → pS → pS
  | 0, q => q
  | k + 1, q => if q.2.2.1 = 0 then (if (opB M L q).1 = true then opF M L k (opB M L q).2 else (opB M L q).2) else q
def rms (L : Nat) (q : pS) : Nat := if q.2.2.1 = 0 then L - q.1 + 1 else 0
theorem l_op (E : gE) {d : Nat} (hd : 4 ≤ d) {L : Nat} (h : hp_T) (hG : gr h) (M : mM) (N : mN) (T : tpI M L) {v : Option Value} {hz : hp_T} {r : pS} (K : rI L r → gf E mX12_onePart d 146 [(0, .ref (E.1 + 247))] [] (hm h (pM M r) N) v hz) : ∀ (kz : Nat) (q : pS), rI L q → rms L q < kz → opF M L kz q = r → gf E mX12_onePart d 2 [(0, .ref (E.1 + 247)), (1, .int 1)] [] (hm h (pM M q) N) v hz := by
  intro kz
  induction kz with
  | zero => intro q _ h; exact absurd h (Nat.not_lt_zero _)
  | succ kz ih =>
    intro q Iq hm9 hr
    obtain ⟨aT, eN, bD, bP, cD, wT, oP, bS, cS, wS⟩ := q
    by_cases zb0 : bD = 0
    · rw [show opF M L (kz + 1) (aT, eN, bD, bP, cD, wT, oP, bS, cS, wS) = (if (opB M L (aT, eN, bD, bP, cD, wT, oP, bS, cS, wS)).1 = true then opF M L kz (opB M L (aT, eN, bD, bP, cD, wT, oP, bS, cS, wS)).2 else (opB M L (aT, eN, bD, bP, cD, wT, oP, bS, cS, wS)).2) from if_pos zb0] at hr
      have hms : rms L (aT, eN, bD, bP, cD, wT, oP, bS, cS, wS) = L - aT + 1 := if_pos zb0
      refine l_opB E hd h hG M N T aT eN bD bP cD wT oP bS cS wS Iq zb0 (fun q' I' hp he => ?_) (fun q' I' he => ?_)
      · rw [he] at hr
        have hr : opF M L kz q' = r := by rw [← hr]; exact (if_pos rfl).symm
        refine ih q' I' ?_ hr
        have hl : aT ≤ L := Iq.1
        have hl2 := I'.1
        unfold rms
        split
        · rename_i h0
          have := hp h0
          omega
        · omega
      · rw [he] at hr
        have hr : q' = r := by rw [← hr]; exact (if_neg (fun z => Bool.noConfusion z)).symm
        subst hr
        exact K I'
    · rw [show opF M L (kz + 1) (aT, eN, bD, bP, cD, wT, oP, bS, cS, wS) = (aT, eN, bD, bP, cD, wT, oP, bS, cS, wS) from if_neg zb0] at hr
      subst hr

      refine gf_iload_n 1 dX12_onePart_2 rfl rfl ?_
      refine gf_if_eq 146 dX12_onePart_3 rfl (fun q => absurd q (by decide)) (fun _ => ?_)
      refine gf_aload_n 0 dX12_onePart_6 rfl rfl ?_
      refine gf_getI flX12_285 rfl dX12_onePart_7 (gt_247 hG) ?_
      rw [show hp_i (hm h (pM M (aT, eN, bD, bP, cD, wT, oP, bS, cS, wS)) N) 247 5 = bD from rfl]
      refine gf_if_ne 146 dX12_onePart_10 rfl (fun _ => ?_) (fun q => absurd q (zb0))
      exact gf_lw (K Iq) ⟨rfl, trivial⟩
theorem opS_b' : True := trivial
def opE (M : mM) (L : Nat) : pS → pS := fun (aT, eN, bD, bP, cD, wT, oP, bS, cS, wS) => (if bD = 0 then (if (bI (hrQ M L (aT, eN, bD, bP, cD, wT, oP, bS, cS, wS) 4 (M 16))) = 0 then (if (bI (hrQ M L ((skb M L aT), eN, bD, bP, cD, wT, oP, bS, cS, wS) 5 (M 17))) = 0 then (if (bI (hrQ M L ((skb M L aT), eN, bD, bP, cD, wT, oP, bS, cS, wS) 5 (M 18))) = 0 then (if (bI (hrQ M L ((skb M L aT), eN, bD, bP, cD, wT, oP, bS, cS, wS) 3 (M 19))) = 0 then (if (bI (hrQ M L ((skb M L aT), eN, bD, bP, cD, wT, oP, bS, cS, wS) 4 (M 20))) = 0 then (if (bI (hrQ M L ((skb M L aT), eN, bD, bP, cD, wT, oP, bS, cS, wS) 6 (M 21))) = 0 then (if (bI (hrQ M L ((skb M L aT), eN, bD, bP, cD, wT, oP, bS, cS, wS) 4 (M 22))) = 0 then (npS M L ((skb M L aT), eN, bD, bP, cD, wT, oP, bS, cS, wS)) else (cdS (tkS9 M L ((skb M L aT), eN, bD, bP, cD, wT, oP, bS, cS, wS) 4 (M 22)) 30)) else (cdS (tkS9 M L ((skb M L aT), eN, bD, bP, cD, wT, oP, bS, cS, wS) 6 (M 21)) 19)) else (cdS (tkS9 M L ((skb M L aT), eN, bD, bP, cD, wT, oP, bS, cS, wS) 4 (M 20)) 18)) else (cdS (tkS9 M L ((skb M L aT), eN, bD, bP, cD, wT, oP, bS, cS, wS) 3 (M 19)) 10)) else (cdS (tkS9 M L ((skb M L aT), eN, bD, bP, cD, wT, oP, bS, cS, wS) 5 (M 18)) 9)) else (cdS (tkS9 M L ((skb M L aT), eN, bD, bP, cD, wT, oP, bS, cS, wS) 5 (M 17)) 8)) else (cdS (tkS9 M L (aT, eN, bD, bP, cD, wT, oP, bS, cS, wS) 4 (M 16)) 7)) else (aT, eN, bD, bP, cD, wT, oP, bS, cS, wS))
theorem l_opE (E : gE) {d : Nat} (hd : 4 ≤ d) {L : Nat} (h : hp_T) (hG : gr h) (M : mM) (N : mN) (T : tpI M L) (aT : Nat) (eN bD bP : Int32) (cD wT : Nat) (oP : Int32) (bS : Nat) (cS wS : Nat → Int32) (I0 : rI L (aT, eN, bD, bP, cD, wT, oP, bS, cS, wS)) : gf E mX12_onePart d 146 [(0, .ref (E.1 + 247))] [] (hm h (pM M (aT, eN, bD, bP, cD, wT, oP, bS, cS, wS)) N) none (hm h (pM M (opE M L (aT, eN, bD, bP, cD, wT, oP, bS, cS, wS))) N) := by
  have hL6 := T.2.1
  have hA0 : aT ≤ L := I0.1
  have hB0 : cD + wT ≤ aT + 2 := I0.2
  refine gf_aload_n 0 dX12_onePart_146 rfl rfl ?_
  refine gf_getI flX12_285 rfl dX12_onePart_147 (gt_247 hG) ?_
  rw [show hp_i (hm h (pM M (aT, eN, bD, bP, cD, wT, oP, bS, cS, wS)) N) 247 5 = bD from rfl]
  refine gf_if_eq 154 dX12_onePart_150 rfl (fun zc150 => ?_) (fun zc150 => ?_)
  · refine gf_aload_n 0 dX12_onePart_154 rfl rfl ?_
    refine gf_aload_n 0 dX12_onePart_155 rfl rfl ?_
    refine gf_getR flX12_60 rfl dX12_onePart_156 (gt_247 hG) (gp_247_23 hG) ?_
    refine gf_callV cmX12_takes lkX12_312 imX12_takes seX12_takes ⟨rfl, by decide⟩ dX12_onePart_159 (d1 := d - 1) (by omega) (gt_247 hG) (e_X12_takes E (by omega) h hG M N T aT eN bD bP cD wT oP bS cS wS (A := 263) (l := 4) (f := M 16) (gt_263 hG) (gl_263 hG) (fun q j => rfl) (by omega) (by omega)) rfl rfl (Nat.le_of_ble_eq_true rfl) ?_
    have hI17 : rI L (tkS9 M L (aT, eN, bD, bP, cD, wT, oP, bS, cS, wS) 4 (M 16)) := tkS_I I0
    have hA17 : (tkS9 M L (aT, eN, bD, bP, cD, wT, oP, bS, cS, wS) 4 (M 16)).1 ≤ L := hI17.1
    have hB17 : (tkS9 M L (aT, eN, bD, bP, cD, wT, oP, bS, cS, wS) 4 (M 16)).2.2.2.2.1 + (tkS9 M L (aT, eN, bD, bP, cD, wT, oP, bS, cS, wS) 4 (M 16)).2.2.2.2.2.1 ≤ (tkS9 M L (aT, eN, bD, bP, cD, wT, oP, bS, cS, wS) 4 (M 16)).1 + 2 := hI17.2
    refine gf_if_eq 174 dX12_onePart_162 rfl (fun zc162 => ?_) (fun zc162 => ?_)
    · rw [show (tkS9 M L (aT, eN, bD, bP, cD, wT, oP, bS, cS, wS) 4 (M 16)) = ((skb M L aT), eN, bD, bP, cD, wT, oP, bS, cS, wS) from (if_neg (by rw [bI_f zc162]; decide)).trans (if_pos zc150)]
      have hIsk : rI L ((skb M L aT), eN, bD, bP, cD, wT, oP, bS, cS, wS) := skb_I I0
      have hAsk : skb M L aT ≤ L := hIsk.1
      have hBsk : cD + wT ≤ skb M L aT + 2 := hIsk.2
      refine gf_aload_n 0 dX12_onePart_174 rfl rfl ?_
      refine gf_aload_n 0 dX12_onePart_175 rfl rfl ?_
      refine gf_getR flX12_63 rfl dX12_onePart_176 (gt_247 hG) (gp_247_24 hG) ?_
      refine gf_callV cmX12_takes lkX12_312 imX12_takes seX12_takes ⟨rfl, by decide⟩ dX12_onePart_179 (d1 := d - 1) (by omega) (gt_247 hG) (e_X12_takes E (by omega) h hG M N T (skb M L aT) eN bD bP cD wT oP bS cS wS (A := 264) (l := 5) (f := M 17) (gt_264 hG) (gl_264 hG) (fun q j => rfl) (by omega) (by omega)) rfl rfl (Nat.le_of_ble_eq_true rfl) ?_
      have hI18 : rI L (tkS9 M L ((skb M L aT), eN, bD, bP, cD, wT, oP, bS, cS, wS) 5 (M 17)) := tkS_I hIsk
      have hA18 : (tkS9 M L ((skb M L aT), eN, bD, bP, cD, wT, oP, bS, cS, wS) 5 (M 17)).1 ≤ L := hI18.1
      have hB18 : (tkS9 M L ((skb M L aT), eN, bD, bP, cD, wT, oP, bS, cS, wS) 5 (M 17)).2.2.2.2.1 + (tkS9 M L ((skb M L aT), eN, bD, bP, cD, wT, oP, bS, cS, wS) 5 (M 17)).2.2.2.2.2.1 ≤ (tkS9 M L ((skb M L aT), eN, bD, bP, cD, wT, oP, bS, cS, wS) 5 (M 17)).1 + 2 := hI18.2
      refine gf_if_eq 194 dX12_onePart_182 rfl (fun zc182 => ?_) (fun zc182 => ?_)
      · rw [show (tkS9 M L ((skb M L aT), eN, bD, bP, cD, wT, oP, bS, cS, wS) 5 (M 17)) = ((skb M L aT), eN, bD, bP, cD, wT, oP, bS, cS, wS) from (if_neg (by rw [bI_f zc182]; decide)).trans (hrS_sk (by omega))]
        refine gf_aload_n 0 dX12_onePart_194 rfl rfl ?_
        refine gf_aload_n 0 dX12_onePart_195 rfl rfl ?_
        refine gf_getR flX12_66 rfl dX12_onePart_196 (gt_247 hG) (gp_247_25 hG) ?_
        refine gf_callV cmX12_takes lkX12_312 imX12_takes seX12_takes ⟨rfl, by decide⟩ dX12_onePart_199 (d1 := d - 1) (by omega) (gt_247 hG) (e_X12_takes E (by omega) h hG M N T (skb M L aT) eN bD bP cD wT oP bS cS wS (A := 265) (l := 5) (f := M 18) (gt_265 hG) (gl_265 hG) (fun q j => rfl) (by omega) (by omega)) rfl rfl (Nat.le_of_ble_eq_true rfl) ?_
        have hI19 : rI L (tkS9 M L ((skb M L aT), eN, bD, bP, cD, wT, oP, bS, cS, wS) 5 (M 18)) := tkS_I hIsk
        have hA19 : (tkS9 M L ((skb M L aT), eN, bD, bP, cD, wT, oP, bS, cS, wS) 5 (M 18)).1 ≤ L := hI19.1
        have hB19 : (tkS9 M L ((skb M L aT), eN, bD, bP, cD, wT, oP, bS, cS, wS) 5 (M 18)).2.2.2.2.1 + (tkS9 M L ((skb M L aT), eN, bD, bP, cD, wT, oP, bS, cS, wS) 5 (M 18)).2.2.2.2.2.1 ≤ (tkS9 M L ((skb M L aT), eN, bD, bP, cD, wT, oP, bS, cS, wS) 5 (M 18)).1 + 2 := hI19.2
        refine gf_if_eq 214 dX12_onePart_202 rfl (fun zc202 => ?_) (fun zc202 => ?_)
        · rw [show (tkS9 M L ((skb M L aT), eN, bD, bP, cD, wT, oP, bS, cS, wS) 5 (M 18)) = ((skb M L aT), eN, bD, bP, cD, wT, oP, bS, cS, wS) from (if_neg (by rw [bI_f zc202]; decide)).trans (hrS_sk (by omega))]
          refine gf_aload_n 0 dX12_onePart_214 rfl rfl ?_
          refine gf_aload_n 0 dX12_onePart_215 rfl rfl ?_
          refine gf_getR flX12_69 rfl dX12_onePart_216 (gt_247 hG) (gp_247_26 hG) ?_
          refine gf_callV cmX12_takes lkX12_312 imX12_takes seX12_takes ⟨rfl, by decide⟩ dX12_onePart_219 (d1 := d - 1) (by omega) (gt_247 hG) (e_X12_takes E (by omega) h hG M N T (skb M L aT) eN bD bP cD wT oP bS cS wS (A := 266) (l := 3) (f := M 19) (gt_266 hG) (gl_266 hG) (fun q j => rfl) (by omega) (by omega)) rfl rfl (Nat.le_of_ble_eq_true rfl) ?_
          have hI20 : rI L (tkS9 M L ((skb M L aT), eN, bD, bP, cD, wT, oP, bS, cS, wS) 3 (M 19)) := tkS_I hIsk
          have hA20 : (tkS9 M L ((skb M L aT), eN, bD, bP, cD, wT, oP, bS, cS, wS) 3 (M 19)).1 ≤ L := hI20.1
          have hB20 : (tkS9 M L ((skb M L aT), eN, bD, bP, cD, wT, oP, bS, cS, wS) 3 (M 19)).2.2.2.2.1 + (tkS9 M L ((skb M L aT), eN, bD, bP, cD, wT, oP, bS, cS, wS) 3 (M 19)).2.2.2.2.2.1 ≤ (tkS9 M L ((skb M L aT), eN, bD, bP, cD, wT, oP, bS, cS, wS) 3 (M 19)).1 + 2 := hI20.2
          refine gf_if_eq 234 dX12_onePart_222 rfl (fun zc222 => ?_) (fun zc222 => ?_)
          · rw [show (tkS9 M L ((skb M L aT), eN, bD, bP, cD, wT, oP, bS, cS, wS) 3 (M 19)) = ((skb M L aT), eN, bD, bP, cD, wT, oP, bS, cS, wS) from (if_neg (by rw [bI_f zc222]; decide)).trans (hrS_sk (by omega))]
            refine gf_aload_n 0 dX12_onePart_234 rfl rfl ?_
            refine gf_aload_n 0 dX12_onePart_235 rfl rfl ?_
            refine gf_getR flX12_72 rfl dX12_onePart_236 (gt_247 hG) (gp_247_27 hG) ?_
            refine gf_callV cmX12_takes lkX12_312 imX12_takes seX12_takes ⟨rfl, by decide⟩ dX12_onePart_239 (d1 := d - 1) (by omega) (gt_247 hG) (e_X12_takes E (by omega) h hG M N T (skb M L aT) eN bD bP cD wT oP bS cS wS (A := 267) (l := 4) (f := M 20) (gt_267 hG) (gl_267 hG) (fun q j => rfl) (by omega) (by omega)) rfl rfl (Nat.le_of_ble_eq_true rfl) ?_
            have hI21 : rI L (tkS9 M L ((skb M L aT), eN, bD, bP, cD, wT, oP, bS, cS, wS) 4 (M 20)) := tkS_I hIsk
            have hA21 : (tkS9 M L ((skb M L aT), eN, bD, bP, cD, wT, oP, bS, cS, wS) 4 (M 20)).1 ≤ L := hI21.1
            have hB21 : (tkS9 M L ((skb M L aT), eN, bD, bP, cD, wT, oP, bS, cS, wS) 4 (M 20)).2.2.2.2.1 + (tkS9 M L ((skb M L aT), eN, bD, bP, cD, wT, oP, bS, cS, wS) 4 (M 20)).2.2.2.2.2.1 ≤ (tkS9 M L ((skb M L aT), eN, bD, bP, cD, wT, oP, bS, cS, wS) 4 (M 20)).1 + 2 := hI21.2
            refine gf_if_eq 254 dX12_onePart_242 rfl (fun zc242 => ?_) (fun zc242 => ?_)
            · rw [show (tkS9 M L ((skb M L aT), eN, bD, bP, cD, wT, oP, bS, cS, wS) 4 (M 20)) = ((skb M L aT), eN, bD, bP, cD, wT, oP, bS, cS, wS) from (if_neg (by rw [bI_f zc242]; decide)).trans (hrS_sk (by omega))]
              refine gf_aload_n 0 dX12_onePart_254 rfl rfl ?_
              refine gf_aload_n 0 dX12_onePart_255 rfl rfl ?_
              refine gf_getR flX12_75 rfl dX12_onePart_256 (gt_247 hG) (gp_247_28 hG) ?_
              refine gf_callV cmX12_takes lkX12_312 imX12_takes seX12_takes ⟨rfl, by decide⟩ dX12_onePart_259 (d1 := d - 1) (by omega) (gt_247 hG) (e_X12_takes E (by omega) h hG M N T (skb M L aT) eN bD bP cD wT oP bS cS wS (A := 268) (l := 6) (f := M 21) (gt_268 hG) (gl_268 hG) (fun q j => rfl) (by omega) (by omega)) rfl rfl (Nat.le_of_ble_eq_true rfl) ?_
              have hI22 : rI L (tkS9 M L ((skb M L aT), eN, bD, bP, cD, wT, oP, bS, cS, wS) 6 (M 21)) := tkS_I hIsk
              have hA22 : (tkS9 M L ((skb M L aT), eN, bD, bP, cD, wT, oP, bS, cS, wS) 6 (M 21)).1 ≤ L := hI22.1
              have hB22 : (tkS9 M L ((skb M L aT), eN, bD, bP, cD, wT, oP, bS, cS, wS) 6 (M 21)).2.2.2.2.1 + (tkS9 M L ((skb M L aT), eN, bD, bP, cD, wT, oP, bS, cS, wS) 6 (M 21)).2.2.2.2.2.1 ≤ (tkS9 M L ((skb M L aT), eN, bD, bP, cD, wT, oP, bS, cS, wS) 6 (M 21)).1 + 2 := hI22.2
              refine gf_if_eq 274 dX12_onePart_262 rfl (fun zc262 => ?_) (fun zc262 => ?_)
              · rw [show (tkS9 M L ((skb M L aT), eN, bD, bP, cD, wT, oP, bS, cS, wS) 6 (M 21)) = ((skb M L aT), eN, bD, bP, cD, wT, oP, bS, cS, wS) from (if_neg (by rw [bI_f zc262]; decide)).trans (hrS_sk (by omega))]
                refine gf_aload_n 0 dX12_onePart_274 rfl rfl ?_
                refine gf_aload_n 0 dX12_onePart_275 rfl rfl ?_
                refine gf_getR flX12_78 rfl dX12_onePart_276 (gt_247 hG) (gp_247_29 hG) ?_
                refine gf_callV cmX12_takes lkX12_312 imX12_takes seX12_takes ⟨rfl, by decide⟩ dX12_onePart_279 (d1 := d - 1) (by omega) (gt_247 hG) (e_X12_takes E (by omega) h hG M N T (skb M L aT) eN bD bP cD wT oP bS cS wS (A := 269) (l := 4) (f := M 22) (gt_269 hG) (gl_269 hG) (fun q j => rfl) (by omega) (by omega)) rfl rfl (Nat.le_of_ble_eq_true rfl) ?_
                have hI23 : rI L (tkS9 M L ((skb M L aT), eN, bD, bP, cD, wT, oP, bS, cS, wS) 4 (M 22)) := tkS_I hIsk
                have hA23 : (tkS9 M L ((skb M L aT), eN, bD, bP, cD, wT, oP, bS, cS, wS) 4 (M 22)).1 ≤ L := hI23.1
                have hB23 : (tkS9 M L ((skb M L aT), eN, bD, bP, cD, wT, oP, bS, cS, wS) 4 (M 22)).2.2.2.2.1 + (tkS9 M L ((skb M L aT), eN, bD, bP, cD, wT, oP, bS, cS, wS) 4 (M 22)).2.2.2.2.2.1 ≤ (tkS9 M L ((skb M L aT), eN, bD, bP, cD, wT, oP, bS, cS, wS) 4 (M 22)).1 + 2 := hI23.2
                refine gf_if_eq 294 dX12_onePart_282 rfl (fun zc282 => ?_) (fun zc282 => ?_)
                · rw [show (tkS9 M L ((skb M L aT), eN, bD, bP, cD, wT, oP, bS, cS, wS) 4 (M 22)) = ((skb M L aT), eN, bD, bP, cD, wT, oP, bS, cS, wS) from (if_neg (by rw [bI_f zc282]; decide)).trans (hrS_sk (by omega))]
                  refine gf_aload_n 0 dX12_onePart_294 rfl rfl ?_
                  refine gf_callV cmX12_numberPart lkX12_361 imX12_numberPart seX12_numberPart ⟨rfl, by decide⟩ dX12_onePart_295 (d1 := d - 1) (by omega) (gt_247 hG) (e_X12_numberPart E (by omega) h hG M N T (skb M L aT) eN bD bP cD wT oP bS cS wS (by omega) (by omega)) rfl rfl (Nat.le_of_ble_eq_true rfl) ?_
                  exact gf_vretE dX12_onePart_298 rfl (by rw [show opE M L (aT, eN, bD, bP, cD, wT, oP, bS, cS, wS) = (npS M L ((skb M L aT), eN, bD, bP, cD, wT, oP, bS, cS, wS)) from (if_pos zc150).trans ((if_pos zc162).trans ((if_pos zc182).trans ((if_pos zc202).trans ((if_pos zc222).trans ((if_pos zc242).trans ((if_pos zc262).trans (if_pos zc282)))))))]; first | done | rfl)
                · have hT0 := tkS_P (bI_t zc282)
                  have hT1 : (tkS9 M L ((skb M L aT), eN, bD, bP, cD, wT, oP, bS, cS, wS) 4 (M 22)).1 = skb M L (skb M L aT) + 4 := congrArg (fun z => z.1) hT0.1
                  have hT2 : (tkS9 M L ((skb M L aT), eN, bD, bP, cD, wT, oP, bS, cS, wS) 4 (M 22)).2.2.2.2.1 = cD := congrArg (fun z => z.2.2.2.2.1) hT0.1
                  have hT3 : (tkS9 M L ((skb M L aT), eN, bD, bP, cD, wT, oP, bS, cS, wS) 4 (M 22)).2.2.2.2.2.1 = wT := congrArg (fun z => z.2.2.2.2.2.1) hT0.1
                  have hT4 : (skb M L aT) + 4 ≤ skb M L (skb M L aT) + 4 := hT0.2
                  refine gf_aload_n 0 dX12_onePart_285 rfl rfl ?_
                  refine gf_bipush (30) dX12_onePart_286 rfl ?_
                  refine gf_callV cmX12_code lkX12_338 imX12_code seX12_code ⟨rfl, by decide⟩ dX12_onePart_288 (d1 := d - 1) (by omega) (gt_247 hG) (e_X12_code E 30 h hG M N ((tkS9 M L ((skb M L aT), eN, bD, bP, cD, wT, oP, bS, cS, wS) 4 (M 22)).1) ((tkS9 M L ((skb M L aT), eN, bD, bP, cD, wT, oP, bS, cS, wS) 4 (M 22)).2.1) ((tkS9 M L ((skb M L aT), eN, bD, bP, cD, wT, oP, bS, cS, wS) 4 (M 22)).2.2.1) ((tkS9 M L ((skb M L aT), eN, bD, bP, cD, wT, oP, bS, cS, wS) 4 (M 22)).2.2.2.1) ((tkS9 M L ((skb M L aT), eN, bD, bP, cD, wT, oP, bS, cS, wS) 4 (M 22)).2.2.2.2.1) ((tkS9 M L ((skb M L aT), eN, bD, bP, cD, wT, oP, bS, cS, wS) 4 (M 22)).2.2.2.2.2.1) ((tkS9 M L ((skb M L aT), eN, bD, bP, cD, wT, oP, bS, cS, wS) 4 (M 22)).2.2.2.2.2.2.1) ((tkS9 M L ((skb M L aT), eN, bD, bP, cD, wT, oP, bS, cS, wS) 4 (M 22)).2.2.2.2.2.2.2.1) ((tkS9 M L ((skb M L aT), eN, bD, bP, cD, wT, oP, bS, cS, wS) 4 (M 22)).2.2.2.2.2.2.2.2.1) ((tkS9 M L ((skb M L aT), eN, bD, bP, cD, wT, oP, bS, cS, wS) 4 (M 22)).2.2.2.2.2.2.2.2.2) (by omega)) rfl rfl (Nat.le_of_ble_eq_true rfl) ?_
                  have hI24 : rI L (cdS (tkS9 M L ((skb M L aT), eN, bD, bP, cD, wT, oP, bS, cS, wS) 4 (M 22)) 30) := cdS_I (by omega) (by omega)
                  have hA24 : (cdS (tkS9 M L ((skb M L aT), eN, bD, bP, cD, wT, oP, bS, cS, wS) 4 (M 22)) 30).1 ≤ L := hI24.1
                  have hB24 : (cdS (tkS9 M L ((skb M L aT), eN, bD, bP, cD, wT, oP, bS, cS, wS) 4 (M 22)) 30).2.2.2.2.1 + (cdS (tkS9 M L ((skb M L aT), eN, bD, bP, cD, wT, oP, bS, cS, wS) 4 (M 22)) 30).2.2.2.2.2.1 ≤ (cdS (tkS9 M L ((skb M L aT), eN, bD, bP, cD, wT, oP, bS, cS, wS) 4 (M 22)) 30).1 + 2 := hI24.2
                  refine gf_goto 298 dX12_onePart_291 rfl ?_
                  exact gf_vretE dX12_onePart_298 rfl (by rw [show opE M L (aT, eN, bD, bP, cD, wT, oP, bS, cS, wS) = (cdS (tkS9 M L ((skb M L aT), eN, bD, bP, cD, wT, oP, bS, cS, wS) 4 (M 22)) 30) from (if_pos zc150).trans ((if_pos zc162).trans ((if_pos zc182).trans ((if_pos zc202).trans ((if_pos zc222).trans ((if_pos zc242).trans ((if_pos zc262).trans (if_neg zc282)))))))]; first | done | rfl)
              · have hT0 := tkS_P (bI_t zc262)
                have hT1 : (tkS9 M L ((skb M L aT), eN, bD, bP, cD, wT, oP, bS, cS, wS) 6 (M 21)).1 = skb M L (skb M L aT) + 6 := congrArg (fun z => z.1) hT0.1
                have hT2 : (tkS9 M L ((skb M L aT), eN, bD, bP, cD, wT, oP, bS, cS, wS) 6 (M 21)).2.2.2.2.1 = cD := congrArg (fun z => z.2.2.2.2.1) hT0.1
                have hT3 : (tkS9 M L ((skb M L aT), eN, bD, bP, cD, wT, oP, bS, cS, wS) 6 (M 21)).2.2.2.2.2.1 = wT := congrArg (fun z => z.2.2.2.2.2.1) hT0.1
                have hT4 : (skb M L aT) + 6 ≤ skb M L (skb M L aT) + 6 := hT0.2
                refine gf_aload_n 0 dX12_onePart_265 rfl rfl ?_
                refine gf_bipush (19) dX12_onePart_266 rfl ?_
                refine gf_callV cmX12_code lkX12_338 imX12_code seX12_code ⟨rfl, by decide⟩ dX12_onePart_268 (d1 := d - 1) (by omega) (gt_247 hG) (e_X12_code E 19 h hG M N ((tkS9 M L ((skb M L aT), eN, bD, bP, cD, wT, oP, bS, cS, wS) 6 (M 21)).1) ((tkS9 M L ((skb M L aT), eN, bD, bP, cD, wT, oP, bS, cS, wS) 6 (M 21)).2.1) ((tkS9 M L ((skb M L aT), eN, bD, bP, cD, wT, oP, bS, cS, wS) 6 (M 21)).2.2.1) ((tkS9 M L ((skb M L aT), eN, bD, bP, cD, wT, oP, bS, cS, wS) 6 (M 21)).2.2.2.1) ((tkS9 M L ((skb M L aT), eN, bD, bP, cD, wT, oP, bS, cS, wS) 6 (M 21)).2.2.2.2.1) ((tkS9 M L ((skb M L aT), eN, bD, bP, cD, wT, oP, bS, cS, wS) 6 (M 21)).2.2.2.2.2.1) ((tkS9 M L ((skb M L aT), eN, bD, bP, cD, wT, oP, bS, cS, wS) 6 (M 21)).2.2.2.2.2.2.1) ((tkS9 M L ((skb M L aT), eN, bD, bP, cD, wT, oP, bS, cS, wS) 6 (M 21)).2.2.2.2.2.2.2.1) ((tkS9 M L ((skb M L aT), eN, bD, bP, cD, wT, oP, bS, cS, wS) 6 (M 21)).2.2.2.2.2.2.2.2.1) ((tkS9 M L ((skb M L aT), eN, bD, bP, cD, wT, oP, bS, cS, wS) 6 (M 21)).2.2.2.2.2.2.2.2.2) (by omega)) rfl rfl (Nat.le_of_ble_eq_true rfl) ?_
                have hI25 : rI L (cdS (tkS9 M L ((skb M L aT), eN, bD, bP, cD, wT, oP, bS, cS, wS) 6 (M 21)) 19) := cdS_I (by omega) (by omega)
                have hA25 : (cdS (tkS9 M L ((skb M L aT), eN, bD, bP, cD, wT, oP, bS, cS, wS) 6 (M 21)) 19).1 ≤ L := hI25.1
                have hB25 : (cdS (tkS9 M L ((skb M L aT), eN, bD, bP, cD, wT, oP, bS, cS, wS) 6 (M 21)) 19).2.2.2.2.1 + (cdS (tkS9 M L ((skb M L aT), eN, bD, bP, cD, wT, oP, bS, cS, wS) 6 (M 21)) 19).2.2.2.2.2.1 ≤ (cdS (tkS9 M L ((skb M L aT), eN, bD, bP, cD, wT, oP, bS, cS, wS) 6 (M 21)) 19).1 + 2 := hI25.2
                refine gf_goto 298 dX12_onePart_271 rfl ?_
                exact gf_vretE dX12_onePart_298 rfl (by rw [show opE M L (aT, eN, bD, bP, cD, wT, oP, bS, cS, wS) = (cdS (tkS9 M L ((skb M L aT), eN, bD, bP, cD, wT, oP, bS, cS, wS) 6 (M 21)) 19) from (if_pos zc150).trans ((if_pos zc162).trans ((if_pos zc182).trans ((if_pos zc202).trans ((if_pos zc222).trans ((if_pos zc242).trans (if_neg zc262))))))]; first | done | rfl)
            · have hT0 := tkS_P (bI_t zc242)
              have hT1 : (tkS9 M L ((skb M L aT), eN, bD, bP, cD, wT, oP, bS, cS, wS) 4 (M 20)).1 = skb M L (skb M L aT) + 4 := congrArg (fun z => z.1) hT0.1
              have hT2 : (tkS9 M L ((skb M L aT), eN, bD, bP, cD, wT, oP, bS, cS, wS) 4 (M 20)).2.2.2.2.1 = cD := congrArg (fun z => z.2.2.2.2.1) hT0.1
              have hT3 : (tkS9 M L ((skb M L aT), eN, bD, bP, cD, wT, oP, bS, cS, wS) 4 (M 20)).2.2.2.2.2.1 = wT := congrArg (fun z => z.2.2.2.2.2.1) hT0.1
              have hT4 : (skb M L aT) + 4 ≤ skb M L (skb M L aT) + 4 := hT0.2
              refine gf_aload_n 0 dX12_onePart_245 rfl rfl ?_
              refine gf_bipush (18) dX12_onePart_246 rfl ?_
              refine gf_callV cmX12_code lkX12_338 imX12_code seX12_code ⟨rfl, by decide⟩ dX12_onePart_248 (d1 := d - 1) (by omega) (gt_247 hG) (e_X12_code E 18 h hG M N ((tkS9 M L ((skb M L aT), eN, bD, bP, cD, wT, oP, bS, cS, wS) 4 (M 20)).1) ((tkS9 M L ((skb M L aT), eN, bD, bP, cD, wT, oP, bS, cS, wS) 4 (M 20)).2.1) ((tkS9 M L ((skb M L aT), eN, bD, bP, cD, wT, oP, bS, cS, wS) 4 (M 20)).2.2.1) ((tkS9 M L ((skb M L aT), eN, bD, bP, cD, wT, oP, bS, cS, wS) 4 (M 20)).2.2.2.1) ((tkS9 M L ((skb M L aT), eN, bD, bP, cD, wT, oP, bS, cS, wS) 4 (M 20)).2.2.2.2.1) ((tkS9 M L ((skb M L aT), eN, bD, bP, cD, wT, oP, bS, cS, wS) 4 (M 20)).2.2.2.2.2.1) ((tkS9 M L ((skb M L aT), eN, bD, bP, cD, wT, oP, bS, cS, wS) 4 (M 20)).2.2.2.2.2.2.1) ((tkS9 M L ((skb M L aT), eN, bD, bP, cD, wT, oP, bS, cS, wS) 4 (M 20)).2.2.2.2.2.2.2.1) ((tkS9 M L ((skb M L aT), eN, bD, bP, cD, wT, oP, bS, cS, wS) 4 (M 20)).2.2.2.2.2.2.2.2.1) ((tkS9 M L ((skb M L aT), eN, bD, bP, cD, wT, oP, bS, cS, wS) 4 (M 20)).2.2.2.2.2.2.2.2.2) (by omega)) rfl rfl (Nat.le_of_ble_eq_true rfl) ?_
              have hI26 : rI L (cdS (tkS9 M L ((skb M L aT), eN, bD, bP, cD, wT, oP, bS, cS, wS) 4 (M 20)) 18) := cdS_I (by omega) (by omega)
              have hA26 : (cdS (tkS9 M L ((skb M L aT), eN, bD, bP, cD, wT, oP, bS, cS, wS) 4 (M 20)) 18).1 ≤ L := hI26.1
              have hB26 : (cdS (tkS9 M L ((skb M L aT), eN, bD, bP, cD, wT, oP, bS, cS, wS) 4 (M 20)) 18).2.2.2.2.1 + (cdS (tkS9 M L ((skb M L aT), eN, bD, bP, cD, wT, oP, bS, cS, wS) 4 (M 20)) 18).2.2.2.2.2.1 ≤ (cdS (tkS9 M L ((skb M L aT), eN, bD, bP, cD, wT, oP, bS, cS, wS) 4 (M 20)) 18).1 + 2 := hI26.2
              refine gf_goto 298 dX12_onePart_251 rfl ?_
              exact gf_vretE dX12_onePart_298 rfl (by rw [show opE M L (aT, eN, bD, bP, cD, wT, oP, bS, cS, wS) = (cdS (tkS9 M L ((skb M L aT), eN, bD, bP, cD, wT, oP, bS, cS, wS) 4 (M 20)) 18) from (if_pos zc150).trans ((if_pos zc162).trans ((if_pos zc182).trans ((if_pos zc202).trans ((if_pos zc222).trans (if_neg zc242)))))]; first | done | rfl)
          · have hT0 := tkS_P (bI_t zc222)
            have hT1 : (tkS9 M L ((skb M L aT), eN, bD, bP, cD, wT, oP, bS, cS, wS) 3 (M 19)).1 = skb M L (skb M L aT) + 3 := congrArg (fun z => z.1) hT0.1
            have hT2 : (tkS9 M L ((skb M L aT), eN, bD, bP, cD, wT, oP, bS, cS, wS) 3 (M 19)).2.2.2.2.1 = cD := congrArg (fun z => z.2.2.2.2.1) hT0.1
            have hT3 : (tkS9 M L ((skb M L aT), eN, bD, bP, cD, wT, oP, bS, cS, wS) 3 (M 19)).2.2.2.2.2.1 = wT := congrArg (fun z => z.2.2.2.2.2.1) hT0.1
            have hT4 : (skb M L aT) + 3 ≤ skb M L (skb M L aT) + 3 := hT0.2
            refine gf_aload_n 0 dX12_onePart_225 rfl rfl ?_
            refine gf_bipush (10) dX12_onePart_226 rfl ?_
            refine gf_callV cmX12_code lkX12_338 imX12_code seX12_code ⟨rfl, by decide⟩ dX12_onePart_228 (d1 := d - 1) (by omega) (gt_247 hG) (e_X12_code E 10 h hG M N ((tkS9 M L ((skb M L aT), eN, bD, bP, cD, wT, oP, bS, cS, wS) 3 (M 19)).1) ((tkS9 M L ((skb M L aT), eN, bD, bP, cD, wT, oP, bS, cS, wS) 3 (M 19)).2.1) ((tkS9 M L ((skb M L aT), eN, bD, bP, cD, wT, oP, bS, cS, wS) 3 (M 19)).2.2.1) ((tkS9 M L ((skb M L aT), eN, bD, bP, cD, wT, oP, bS, cS, wS) 3 (M 19)).2.2.2.1) ((tkS9 M L ((skb M L aT), eN, bD, bP, cD, wT, oP, bS, cS, wS) 3 (M 19)).2.2.2.2.1) ((tkS9 M L ((skb M L aT), eN, bD, bP, cD, wT, oP, bS, cS, wS) 3 (M 19)).2.2.2.2.2.1) ((tkS9 M L ((skb M L aT), eN, bD, bP, cD, wT, oP, bS, cS, wS) 3 (M 19)).2.2.2.2.2.2.1) ((tkS9 M L ((skb M L aT), eN, bD, bP, cD, wT, oP, bS, cS, wS) 3 (M 19)).2.2.2.2.2.2.2.1) ((tkS9 M L ((skb M L aT), eN, bD, bP, cD, wT, oP, bS, cS, wS) 3 (M 19)).2.2.2.2.2.2.2.2.1) ((tkS9 M L ((skb M L aT), eN, bD, bP, cD, wT, oP, bS, cS, wS) 3 (M 19)).2.2.2.2.2.2.2.2.2) (by omega)) rfl rfl (Nat.le_of_ble_eq_true rfl) ?_
            have hI27 : rI L (cdS (tkS9 M L ((skb M L aT), eN, bD, bP, cD, wT, oP, bS, cS, wS) 3 (M 19)) 10) := cdS_I (by omega) (by omega)
            have hA27 : (cdS (tkS9 M L ((skb M L aT), eN, bD, bP, cD, wT, oP, bS, cS, wS) 3 (M 19)) 10).1 ≤ L := hI27.1
            have hB27 : (cdS (tkS9 M L ((skb M L aT), eN, bD, bP, cD, wT, oP, bS, cS, wS) 3 (M 19)) 10).2.2.2.2.1 + (cdS (tkS9 M L ((skb M L aT), eN, bD, bP, cD, wT, oP, bS, cS, wS) 3 (M 19)) 10).2.2.2.2.2.1 ≤ (cdS (tkS9 M L ((skb M L aT), eN, bD, bP, cD, wT, oP, bS, cS, wS) 3 (M 19)) 10).1 + 2 := hI27.2
            refine gf_goto 298 dX12_onePart_231 rfl ?_
            exact gf_vretE dX12_onePart_298 rfl (by rw [show opE M L (aT, eN, bD, bP, cD, wT, oP, bS, cS, wS) = (cdS (tkS9 M L ((skb M L aT), eN, bD, bP, cD, wT, oP, bS, cS, wS) 3 (M 19)) 10) from (if_pos zc150).trans ((if_pos zc162).trans ((if_pos zc182).trans ((if_pos zc202).trans (if_neg zc222))))]; first | done | rfl)
        · have hT0 := tkS_P (bI_t zc202)
          have hT1 : (tkS9 M L ((skb M L aT), eN, bD, bP, cD, wT, oP, bS, cS, wS) 5 (M 18)).1 = skb M L (skb M L aT) + 5 := congrArg (fun z => z.1) hT0.1
          have hT2 : (tkS9 M L ((skb M L aT), eN, bD, bP, cD, wT, oP, bS, cS, wS) 5 (M 18)).2.2.2.2.1 = cD := congrArg (fun z => z.2.2.2.2.1) hT0.1
          have hT3 : (tkS9 M L ((skb M L aT), eN, bD, bP, cD, wT, oP, bS, cS, wS) 5 (M 18)).2.2.2.2.2.1 = wT := congrArg (fun z => z.2.2.2.2.2.1) hT0.1
          have hT4 : (skb M L aT) + 5 ≤ skb M L (skb M L aT) + 5 := hT0.2
          refine gf_aload_n 0 dX12_onePart_205 rfl rfl ?_
          refine gf_bipush (9) dX12_onePart_206 rfl ?_
          refine gf_callV cmX12_code lkX12_338 imX12_code seX12_code ⟨rfl, by decide⟩ dX12_onePart_208 (d1 := d - 1) (by omega) (gt_247 hG) (e_X12_code E 9 h hG M N ((tkS9 M L ((skb M L aT), eN, bD, bP, cD, wT, oP, bS, cS, wS) 5 (M 18)).1) ((tkS9 M L ((skb M L aT), eN, bD, bP, cD, wT, oP, bS, cS, wS) 5 (M 18)).2.1) ((tkS9 M L ((skb M L aT), eN, bD, bP, cD, wT, oP, bS, cS, wS) 5 (M 18)).2.2.1) ((tkS9 M L ((skb M L aT), eN, bD, bP, cD, wT, oP, bS, cS, wS) 5 (M 18)).2.2.2.1) ((tkS9 M L ((skb M L aT), eN, bD, bP, cD, wT, oP, bS, cS, wS) 5 (M 18)).2.2.2.2.1) ((tkS9 M L ((skb M L aT), eN, bD, bP, cD, wT, oP, bS, cS, wS) 5 (M 18)).2.2.2.2.2.1) ((tkS9 M L ((skb M L aT), eN, bD, bP, cD, wT, oP, bS, cS, wS) 5 (M 18)).2.2.2.2.2.2.1) ((tkS9 M L ((skb M L aT), eN, bD, bP, cD, wT, oP, bS, cS, wS) 5 (M 18)).2.2.2.2.2.2.2.1) ((tkS9 M L ((skb M L aT), eN, bD, bP, cD, wT, oP, bS, cS, wS) 5 (M 18)).2.2.2.2.2.2.2.2.1) ((tkS9 M L ((skb M L aT), eN, bD, bP, cD, wT, oP, bS, cS, wS) 5 (M 18)).2.2.2.2.2.2.2.2.2) (by omega)) rfl rfl (Nat.le_of_ble_eq_true rfl) ?_
          have hI28 : rI L (cdS (tkS9 M L ((skb M L aT), eN, bD, bP, cD, wT, oP, bS, cS, wS) 5 (M 18)) 9) := cdS_I (by omega) (by omega)
          have hA28 : (cdS (tkS9 M L ((skb M L aT), eN, bD, bP, cD, wT, oP, bS, cS, wS) 5 (M 18)) 9).1 ≤ L := hI28.1
          have hB28 : (cdS (tkS9 M L ((skb M L aT), eN, bD, bP, cD, wT, oP, bS, cS, wS) 5 (M 18)) 9).2.2.2.2.1 + (cdS (tkS9 M L ((skb M L aT), eN, bD, bP, cD, wT, oP, bS, cS, wS) 5 (M 18)) 9).2.2.2.2.2.1 ≤ (cdS (tkS9 M L ((skb M L aT), eN, bD, bP, cD, wT, oP, bS, cS, wS) 5 (M 18)) 9).1 + 2 := hI28.2
          refine gf_goto 298 dX12_onePart_211 rfl ?_
          exact gf_vretE dX12_onePart_298 rfl (by rw [show opE M L (aT, eN, bD, bP, cD, wT, oP, bS, cS, wS) = (cdS (tkS9 M L ((skb M L aT), eN, bD, bP, cD, wT, oP, bS, cS, wS) 5 (M 18)) 9) from (if_pos zc150).trans ((if_pos zc162).trans ((if_pos zc182).trans (if_neg zc202)))]; first | done | rfl)
      · have hT0 := tkS_P (bI_t zc182)
        have hT1 : (tkS9 M L ((skb M L aT), eN, bD, bP, cD, wT, oP, bS, cS, wS) 5 (M 17)).1 = skb M L (skb M L aT) + 5 := congrArg (fun z => z.1) hT0.1
        have hT2 : (tkS9 M L ((skb M L aT), eN, bD, bP, cD, wT, oP, bS, cS, wS) 5 (M 17)).2.2.2.2.1 = cD := congrArg (fun z => z.2.2.2.2.1) hT0.1
        have hT3 : (tkS9 M L ((skb M L aT), eN, bD, bP, cD, wT, oP, bS, cS, wS) 5 (M 17)).2.2.2.2.2.1 = wT := congrArg (fun z => z.2.2.2.2.2.1) hT0.1
        have hT4 : (skb M L aT) + 5 ≤ skb M L (skb M L aT) + 5 := hT0.2
        refine gf_aload_n 0 dX12_onePart_185 rfl rfl ?_
        refine gf_bipush (8) dX12_onePart_186 rfl ?_
        refine gf_callV cmX12_code lkX12_338 imX12_code seX12_code ⟨rfl, by decide⟩ dX12_onePart_188 (d1 := d - 1) (by omega) (gt_247 hG) (e_X12_code E 8 h hG M N ((tkS9 M L ((skb M L aT), eN, bD, bP, cD, wT, oP, bS, cS, wS) 5 (M 17)).1) ((tkS9 M L ((skb M L aT), eN, bD, bP, cD, wT, oP, bS, cS, wS) 5 (M 17)).2.1) ((tkS9 M L ((skb M L aT), eN, bD, bP, cD, wT, oP, bS, cS, wS) 5 (M 17)).2.2.1) ((tkS9 M L ((skb M L aT), eN, bD, bP, cD, wT, oP, bS, cS, wS) 5 (M 17)).2.2.2.1) ((tkS9 M L ((skb M L aT), eN, bD, bP, cD, wT, oP, bS, cS, wS) 5 (M 17)).2.2.2.2.1) ((tkS9 M L ((skb M L aT), eN, bD, bP, cD, wT, oP, bS, cS, wS) 5 (M 17)).2.2.2.2.2.1) ((tkS9 M L ((skb M L aT), eN, bD, bP, cD, wT, oP, bS, cS, wS) 5 (M 17)).2.2.2.2.2.2.1) ((tkS9 M L ((skb M L aT), eN, bD, bP, cD, wT, oP, bS, cS, wS) 5 (M 17)).2.2.2.2.2.2.2.1) ((tkS9 M L ((skb M L aT), eN, bD, bP, cD, wT, oP, bS, cS, wS) 5 (M 17)).2.2.2.2.2.2.2.2.1) ((tkS9 M L ((skb M L aT), eN, bD, bP, cD, wT, oP, bS, cS, wS) 5 (M 17)).2.2.2.2.2.2.2.2.2) (by omega)) rfl rfl (Nat.le_of_ble_eq_true rfl) ?_
        have hI29 : rI L (cdS (tkS9 M L ((skb M L aT), eN, bD, bP, cD, wT, oP, bS, cS, wS) 5 (M 17)) 8) := cdS_I (by omega) (by omega)
        have hA29 : (cdS (tkS9 M L ((skb M L aT), eN, bD, bP, cD, wT, oP, bS, cS, wS) 5 (M 17)) 8).1 ≤ L := hI29.1
        have hB29 : (cdS (tkS9 M L ((skb M L aT), eN, bD, bP, cD, wT, oP, bS, cS, wS) 5 (M 17)) 8).2.2.2.2.1 + (cdS (tkS9 M L ((skb M L aT), eN, bD, bP, cD, wT, oP, bS, cS, wS) 5 (M 17)) 8).2.2.2.2.2.1 ≤ (cdS (tkS9 M L ((skb M L aT), eN, bD, bP, cD, wT, oP, bS, cS, wS) 5 (M 17)) 8).1 + 2 := hI29.2
        refine gf_goto 298 dX12_onePart_191 rfl ?_
        exact gf_vretE dX12_onePart_298 rfl (by rw [show opE M L (aT, eN, bD, bP, cD, wT, oP, bS, cS, wS) = (cdS (tkS9 M L ((skb M L aT), eN, bD, bP, cD, wT, oP, bS, cS, wS) 5 (M 17)) 8) from (if_pos zc150).trans ((if_pos zc162).trans (if_neg zc182))]; first | done | rfl)
    · have hT0 := tkS_P (bI_t zc162)
      have hT1 : (tkS9 M L (aT, eN, bD, bP, cD, wT, oP, bS, cS, wS) 4 (M 16)).1 = skb M L aT + 4 := congrArg (fun z => z.1) hT0.1
      have hT2 : (tkS9 M L (aT, eN, bD, bP, cD, wT, oP, bS, cS, wS) 4 (M 16)).2.2.2.2.1 = cD := congrArg (fun z => z.2.2.2.2.1) hT0.1
      have hT3 : (tkS9 M L (aT, eN, bD, bP, cD, wT, oP, bS, cS, wS) 4 (M 16)).2.2.2.2.2.1 = wT := congrArg (fun z => z.2.2.2.2.2.1) hT0.1
      have hT4 : aT + 4 ≤ skb M L aT + 4 := hT0.2
      refine gf_aload_n 0 dX12_onePart_165 rfl rfl ?_
      refine gf_bipush (7) dX12_onePart_166 rfl ?_
      refine gf_callV cmX12_code lkX12_338 imX12_code seX12_code ⟨rfl, by decide⟩ dX12_onePart_168 (d1 := d - 1) (by omega) (gt_247 hG) (e_X12_code E 7 h hG M N ((tkS9 M L (aT, eN, bD, bP, cD, wT, oP, bS, cS, wS) 4 (M 16)).1) ((tkS9 M L (aT, eN, bD, bP, cD, wT, oP, bS, cS, wS) 4 (M 16)).2.1) ((tkS9 M L (aT, eN, bD, bP, cD, wT, oP, bS, cS, wS) 4 (M 16)).2.2.1) ((tkS9 M L (aT, eN, bD, bP, cD, wT, oP, bS, cS, wS) 4 (M 16)).2.2.2.1) ((tkS9 M L (aT, eN, bD, bP, cD, wT, oP, bS, cS, wS) 4 (M 16)).2.2.2.2.1) ((tkS9 M L (aT, eN, bD, bP, cD, wT, oP, bS, cS, wS) 4 (M 16)).2.2.2.2.2.1) ((tkS9 M L (aT, eN, bD, bP, cD, wT, oP, bS, cS, wS) 4 (M 16)).2.2.2.2.2.2.1) ((tkS9 M L (aT, eN, bD, bP, cD, wT, oP, bS, cS, wS) 4 (M 16)).2.2.2.2.2.2.2.1) ((tkS9 M L (aT, eN, bD, bP, cD, wT, oP, bS, cS, wS) 4 (M 16)).2.2.2.2.2.2.2.2.1) ((tkS9 M L (aT, eN, bD, bP, cD, wT, oP, bS, cS, wS) 4 (M 16)).2.2.2.2.2.2.2.2.2) (by omega)) rfl rfl (Nat.le_of_ble_eq_true rfl) ?_
      have hI30 : rI L (cdS (tkS9 M L (aT, eN, bD, bP, cD, wT, oP, bS, cS, wS) 4 (M 16)) 7) := cdS_I (by omega) (by omega)
      have hA30 : (cdS (tkS9 M L (aT, eN, bD, bP, cD, wT, oP, bS, cS, wS) 4 (M 16)) 7).1 ≤ L := hI30.1
      have hB30 : (cdS (tkS9 M L (aT, eN, bD, bP, cD, wT, oP, bS, cS, wS) 4 (M 16)) 7).2.2.2.2.1 + (cdS (tkS9 M L (aT, eN, bD, bP, cD, wT, oP, bS, cS, wS) 4 (M 16)) 7).2.2.2.2.2.1 ≤ (cdS (tkS9 M L (aT, eN, bD, bP, cD, wT, oP, bS, cS, wS) 4 (M 16)) 7).1 + 2 := hI30.2
      refine gf_goto 298 dX12_onePart_171 rfl ?_
      exact gf_vretE dX12_onePart_298 rfl (by rw [show opE M L (aT, eN, bD, bP, cD, wT, oP, bS, cS, wS) = (cdS (tkS9 M L (aT, eN, bD, bP, cD, wT, oP, bS, cS, wS) 4 (M 16)) 7) from (if_pos zc150).trans (if_neg zc162)]; first | done | rfl)
  · exact gf_vretE dX12_onePart_153 rfl (by rw [show opE M L (aT, eN, bD, bP, cD, wT, oP, bS, cS, wS) = (aT, eN, bD, bP, cD, wT, oP, bS, cS, wS) from if_neg zc150]; first | done | rfl)
def oneS (M : mM) (L : Nat) (q : pS) : pS := opE M L (opF M L 700 q)
theorem e_X12_onePart (E : gE) {d : Nat} (hd : 4 ≤ d) {L : Nat} (h : hp_T) (hG : gr h) (M : mM) (N : mN) (T : tpI M L) (q : pS) (I0 : rI L q) : ev E mX12_onePart d [.ref (E.1 + 247)] (hm h (pM M q) N) none (hm h (pM M (oneS M L q)) N) := by
  refine ev_of rfl (fun q => absurd q (by decide)) (Nat.le_of_ble_eq_true rfl) ?_
  have hL6 := T.2.1
  refine gf_iconst (1) dX12_onePart_0 rfl ?_
  refine gf_istore_n 1 dX12_onePart_1 rfl (Nat.le_of_ble_eq_true rfl) ?_
  refine gf_lw (l_op E hd h hG M N T (fun Ir => ?_) 700 q I0 (by unfold rms; split <;> omega) rfl) ⟨rfl, rfl, trivial⟩
  exact l_opE E hd h hG M N T _ _ _ _ _ _ _ _ _ _ Ir
