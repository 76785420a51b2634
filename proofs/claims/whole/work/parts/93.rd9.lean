/-! ===== the reference's reader: a test ===== -/
theorem dnQ_2 {L aT : Nat} {eN bD bP : Int32} {cD wT : Nat} {oP : Int32} {bS : Nat} {cS wS : Nat → Int32} (I : rI L (aT, eN, bD, bP, cD, wT, oP, bS, cS, wS)) {p : Nat} (hp : p ≤ L) (hp2 : aT ≤ p) (w c : Nat) (s : Nat → Int32) (h : w + c ≤ wT + cD) (e : Int32) (o : Int32) : okT L (aT, eN, bD, bP, cD, wT, oP, bS, cS, wS) (dnQ (p, e, bD, bP, c, w, o, bS, s, wS)) := by
  have hB : cD + wT ≤ aT + 2 := I.2
  have T1 : okT L (aT, eN, bD, bP, cD, wT, oP, bS, cS, wS) (p, e, bD, bP, c, w, o, bS, s, wS) := ⟨⟨hp, by show c + w ≤ p + 2; omega⟩, hp2, rfl, by show c + w + aT ≤ cD + wT + p; omega⟩
  exact okT_t T1 (dnQ_T T1.1)
theorem gtB_T {M : mM} {L : Nat} {q : pS} (I : rI L q) : okT L q (gtB M L q).2 ∧ ((gtB M L q).1 = true → q.1 + 1 ≤ (gtB M L q).2.1) ∧ ((gtB M L q).1 = false → skb M L (gtB M L q).2.1 = (gtB M L q).2.1) ∧ (gtB M L q).2.2.2.1 = q.2.2.1 := by
  obtain ⟨aT, eN, bD, bP, cD, wT, oP, bS, cS, wS⟩ := q
  have hk : aT ≤ skb M L aT := (skb_le (M := M) (L := L) (a := aT)).1
  have hs : skb M L (skb M L aT) = skb M L aT := skb_skb I.1
  unfold gtB
  dsimp only
  split
  · rename_i zt1
    split
    · rename_i zt2
      exact ⟨skb_T I, fun h => Bool.noConfusion h, fun _ => hs, rfl⟩
    · rename_i zt3
      have hq9 : anyb (fun k => decide (wS k = 25)) wT = true := bI_t zt3
      have hlt : skb M L aT < L := lkV_lt (by decide) zt1
      obtain ⟨m9, hm1, hm2, hm3⟩ := hs_dw wT cD cS hq9
      have hd9 := dwS_le wS (nsP wS) wT cD cS
      exact ⟨dnQ_2 I hlt (by omega) ((dwS wS (nsP wS) wT cD cS).1 - 1) (dwS wS (nsP wS) wT cD cS).2.1 (dwS wS (nsP wS) wT cD cS).2.2 (by omega) eN _, fun _ => by rw [(dnQ_b _).2]; exact Nat.succ_le_succ hk, fun h => Bool.noConfusion h, (dnQ_b _).1⟩
  · rename_i zt4
    exact ⟨skb_T I, fun h => Bool.noConfusion h, fun _ => hs, rfl⟩
theorem gtF_T {M : mM} {L : Nat} : ∀ (k : Nat) {q : pS}, rI L q → okT L q (gtF M L k q) ∧ (gtF M L k q).2.2.1 = q.2.2.1 ∧ (L - q.1 < k → skb M L (gtF M L k q).1 = (gtF M L k q).1)
  | 0, _, I => ⟨okT_r I, rfl, fun h => absurd h (Nat.not_lt_zero _)⟩
  | k + 1, q, I => by
    have h := gtB_T (M := M) I
    unfold gtF
    split
    · rename_i e
      have h2 := gtF_T (M := M) k h.1.1
      have h3 := h.2.1 e
      have h4 := h.1.1.1
      exact ⟨okT_t h.1 h2.1, h2.2.1.trans h.2.2.2, fun w => h2.2.2 (by omega)⟩
    · rename_i e
      exact ⟨h.1, h.2.2.2, fun _ => h.2.2.1 (by cases hh : (gtB M L q).1 with | true => exact absurd hh e | false => rfl)⟩
theorem gtR_T {M : mM} {L : Nat} {q : pS} (I : rI L q) : okT L q (gtR M L q).2 ∧ ((gtR M L q).1 = true → q.1 + 1 ≤ (gtR M L q).2.1) := by
  obtain ⟨aT, eN, bD, bP, cD, wT, oP, bS, cS, wS⟩ := q
  have hk : aT ≤ skb M L aT := (skb_le (M := M) (L := L) (a := aT)).1
  have hB : cD + wT ≤ aT + 2 := I.2
  unfold gtR
  dsimp only
  split
  · rename_i zt5
    split
    · rename_i zt6
      split
      · rename_i zt7
        exact ⟨okT_r I, fun h => Bool.noConfusion h⟩
      · rename_i zt8
        exact ⟨flS_T I, fun h => Bool.noConfusion h⟩
    · rename_i zt9
      have hP := tkS_P (bI_t zt9)
      have hAx : skb M L aT + 2 ≤ L := by have q := (tkS_I (M := M) (l := 2) (f := M 11) I).1; rw [hP.1] at q; exact q
      have hd9 := dwS_le wS (fun i => decide (wS i = 14) || decide (wS i = 15)) wT cD cS
      exact ⟨⟨⟨hAx, by show (dwS wS (fun i => decide (wS i = 14) || decide (wS i = 15)) wT cD cS).2.1 + ((dwS wS (fun i => decide (wS i = 14) || decide (wS i = 15)) wT cD cS).1 + 1) ≤ skb M L aT + 2 + 2; omega⟩, by show aT ≤ skb M L aT + 2; omega, rfl, by show (dwS wS (fun i => decide (wS i = 14) || decide (wS i = 15)) wT cD cS).2.1 + ((dwS wS (fun i => decide (wS i = 14) || decide (wS i = 15)) wT cD cS).1 + 1) + aT ≤ cD + wT + (skb M L aT + 2); omega⟩, fun _ => by show aT + 1 ≤ skb M L aT + 2; omega⟩
  · rename_i zt10
    have hP := tkS_P (bI_t zt10)
    have hAx : skb M L aT + 3 ≤ L := by have q := (tkS_I (M := M) (l := 3) (f := M 12) I).1; rw [hP.1] at q; exact q
    have hd9 := dwS_le wS (fun i => decide (wS i = 14)) wT cD cS
    exact ⟨⟨⟨hAx, by show (dwS wS (fun i => decide (wS i = 14)) wT cD cS).2.1 + ((dwS wS (fun i => decide (wS i = 14)) wT cD cS).1 + 1) ≤ skb M L aT + 3 + 2; omega⟩, by show aT ≤ skb M L aT + 3; omega, rfl, by show (dwS wS (fun i => decide (wS i = 14)) wT cD cS).2.1 + ((dwS wS (fun i => decide (wS i = 14)) wT cD cS).1 + 1) + aT ≤ cD + wT + (skb M L aT + 3); omega⟩, fun _ => by show aT + 1 ≤ skb M L aT + 3; omega⟩
theorem gotQ_T {M : mM} {L : Nat} {q : pS} (I : rI L q) : okT L q (gotQ M L q).2 ∧ ((gotQ M L q).1 = true → q.1 + 1 ≤ (gotQ M L q).2.1) := by
  have h := gtF_T (M := M) 700 I
  have h2 := gtR_T (M := M) h.1.1
  exact ⟨okT_t h.1 h2.1, fun e => Nat.le_trans (Nat.succ_le_succ h.1.2.1) (h2.2 e)⟩
/-- a 'not' that is opened and taken -/
theorem not_T {M : mM} {L : Nat} {q : pS} {f : Nat → Int32} {v p : Int32} (I : rI L q) (h : hrQ M L q 3 f = true) : okT L q (asS9 M L (opS q v p) 3 f) ∧ ((asS9 M L (opS q v p) 3 f).2.2.1 = 0 → q.1 + 1 ≤ (asS9 M L (opS q v p) 3 f).1) := by
  have hb := (hrQ_p h).1
  have hk := (skb_le (M := M) (L := L) (a := q.1))
  unfold opS
  split
  · rename_i h6
    have e : flS9 q 3 p = (q.1, q.2.1, 3, p, q.2.2.2.2) := if_pos hb
    have e2 : asS9 M L (flS9 q 3 p) 3 f = flS9 q 3 p := if_neg (fun z => flS_b (by decide) z)
    rw [e2]
    exact ⟨flS_T I, fun h0 => absurd (flS_b (by decide) h0) id⟩
  · generalize hx : (q.1, q.2.1, q.2.2.1, q.2.2.2.1, q.2.2.2.2.1, q.2.2.2.2.2.1, q.2.2.2.2.2.2.1 + 1, q.2.2.2.2.2.2.2) = x
    have h2 : hrQ M L (psS x v) 3 f = true := by rw [← hx]; exact h
    have hx0 : (psS x v).2.2.1 = 0 := by rw [← hx]; exact hb
    have e : asS9 M L (psS x v) 3 f = (skb M L q.1 + 3, nI (skb M L q.1 + 3), (psS x v).2.2) := by
      refine (if_pos hx0).trans ((if_pos h2).trans ?_)
      rw [(tkS_P h2).1, ← hx]
      rfl
    have hl := hrP_le (hrQ_p h).2 (hk.2 I.1)
    have hB := I.2
    rw [e, ← hx]
    exact ⟨⟨⟨hl, by show q.2.2.2.2.1 + (q.2.2.2.2.2.1 + 1) ≤ skb M L q.1 + 3 + 2; omega⟩, by show q.1 ≤ skb M L q.1 + 3; omega, rfl, by show q.2.2.2.2.1 + (q.2.2.2.2.2.1 + 1) + q.1 ≤ q.2.2.2.2.1 + q.2.2.2.2.2.1 + (skb M L q.1 + 3); omega⟩, fun _ => by show q.1 + 1 ≤ skb M L q.1 + 3; omega⟩
/-- behind a fact: whether more -/
def tsC (M : mM) (L : Nat) (q : pS) : Bool × pS := if (dnQ q).2.2.1 = 0 then gotQ M L (dnQ q) else (false, dnQ q)
theorem tsC_T {M : mM} {L : Nat} {q : pS} (I : rI L q) : okT L q (tsC M L q).2 ∧ ((tsC M L q).1 = true → q.1 + 1 ≤ (tsC M L q).2.1) := by
  have h := dnQ_T I
  have h2 := gotQ_T (M := M) h.1
  unfold tsC
  split
  · exact ⟨okT_t h h2.1, fun e => Nat.le_trans (Nat.succ_le_succ h.2.1) (h2.2 e)⟩
  · exact ⟨h, fun e => Bool.noConfusion e⟩
theorem l_tsC (E : gE) {d : Nat} (hd : 7 ≤ d) {L : Nat} (h : hp_T) (hG : gr h) (M : mM) (N : mN) (T : tpI M L) (aT : Nat) (eN bD bP : Int32) (cD wT : Nat) (oP : Int32) (bS : Nat) (cS wS : Nat → Int32) (I0 : rI L (aT, eN, bD, bP, cD, wT, oP, bS, cS, wS)) {v : Option Value} {hz : hp_T} (K1 : ∀ {q'}, tsC M L (aT, eN, bD, bP, cD, wT, oP, bS, cS, wS) = (true, q') → gf E mX12_test d 2 [(0, .ref (E.1 + 247)), (1, .int 1)] [] (hm h (pM M q') N) v hz) (K2 : ∀ {q'}, tsC M L (aT, eN, bD, bP, cD, wT, oP, bS, cS, wS) = (false, q') → gf E mX12_test d 2 [(0, .ref (E.1 + 247)), (1, .int 0)] [] (hm h (pM M q') N) v hz) : gf E mX12_test d 83 [(0, .ref (E.1 + 247))] [] (hm h (pM M (aT, eN, bD, bP, cD, wT, oP, bS, cS, wS)) N) v hz := by
  have hL6 := T.2.1
  have hA0 : aT ≤ L := I0.1
  have hB0 : cD + wT ≤ aT + 2 := I0.2
  refine gf_aload_n 0 dX12_test_83 rfl rfl ?_
  refine gf_callV cmX12_dropsNots lkX12_391 imX12_dropsNots seX12_dropsNots ⟨rfl, by decide⟩ dX12_test_84 (d1 := d - 1) (by omega) (gt_247 hG) (e_X12_dropsNots E (by omega) h hG M N aT eN bD bP cD wT oP bS cS wS (by omega) (by omega)) rfl rfl (Nat.le_of_ble_eq_true rfl) ?_
  refine gf_aload_n 0 dX12_test_87 rfl rfl ?_
  refine gf_getI flX12_285 rfl dX12_test_88 (gt_247 hG) ?_
  rw [show hp_i (hm h (pM M (dnQ (aT, eN, bD, bP, cD, wT, oP, bS, cS, wS))) N) 247 5 = (dnQ (aT, eN, bD, bP, cD, wT, oP, bS, cS, wS)).2.2.1 from rfl]
  refine gf_if_ne 105 dX12_test_91 rfl (fun zc91 => ?_) (fun zc91 => ?_)
  · refine gf_iconst (0) dX12_test_105 rfl ?_
    refine gf_istore_n 1 dX12_test_106 rfl (Nat.le_of_ble_eq_true rfl) ?_
    refine gf_goto 2 dX12_test_107 rfl ?_
    exact gf_lw (K2 (show tsC M L (aT, eN, bD, bP, cD, wT, oP, bS, cS, wS) = (false, (dnQ (aT, eN, bD, bP, cD, wT, oP, bS, cS, wS))) from if_neg zc91)) ⟨rfl, rfl, trivial⟩
  · refine gf_aload_n 0 dX12_test_94 rfl rfl ?_
    refine gf_callV cmX12_goesOnTest lkX12_394 imX12_goesOnTest seX12_goesOnTest ⟨rfl, by decide⟩ dX12_test_95 (d1 := d - 1) (by omega) (gt_247 hG) (e_X12_goesOnTest E (by omega) h hG M N T (dnQ (aT, eN, bD, bP, cD, wT, oP, bS, cS, wS)) (dnQ_T I0).1 zc91) rfl rfl (Nat.le_of_ble_eq_true rfl) ?_
    refine gf_if_eq 105 dX12_test_98 rfl (fun zc98 => ?_) (fun zc98 => ?_)
    · refine gf_iconst (0) dX12_test_105 rfl ?_
      refine gf_istore_n 1 dX12_test_106 rfl (Nat.le_of_ble_eq_true rfl) ?_
      refine gf_goto 2 dX12_test_107 rfl ?_
      exact gf_lw (K2 (show tsC M L (aT, eN, bD, bP, cD, wT, oP, bS, cS, wS) = (false, ((gotQ M L (dnQ (aT, eN, bD, bP, cD, wT, oP, bS, cS, wS))).2)) from (if_pos zc91).trans (Prod.ext (bI_f zc98) rfl))) ⟨rfl, rfl, trivial⟩
    · refine gf_iconst (1) dX12_test_101 rfl ?_
      refine gf_goto 106 dX12_test_102 rfl ?_
      refine gf_istore_n 1 dX12_test_106 rfl (Nat.le_of_ble_eq_true rfl) ?_
      refine gf_goto 2 dX12_test_107 rfl ?_
      exact gf_lw (K1 (show tsC M L (aT, eN, bD, bP, cD, wT, oP, bS, cS, wS) = (true, ((gotQ M L (dnQ (aT, eN, bD, bP, cD, wT, oP, bS, cS, wS))).2)) from (if_pos zc91).trans (Prod.ext (bI_t zc98) rfl))) ⟨rfl, rfl, trivial⟩
def tsB (M : mM) (L : Nat) : pS → Bool × pS := fun (aT, eN, bD, bP, cD, wT, oP, bS, cS, wS) => (if (lkV M L aT) = 91 then (true, (s0 (opS ((skb M L aT), eN, bD, bP, cD, wT, oP, bS, cS, wS) 25 (nI (skb M L aT))) (((opS ((skb M L aT), eN, bD, bP, cD, wT, oP, bS, cS, wS) 25 (nI (skb M L aT))).1) + 1))) else (if (bI (hrQ M L ((skb M L aT), eN, bD, bP, cD, wT, oP, bS, cS, wS) 3 (M 13))) = 0 then (tsC M L (facS9 M L ((skb M L aT), eN, bD, bP, cD, wT, oP, bS, cS, wS))) else (true, (asS9 M L (opS ((skb M L aT), eN, bD, bP, cD, wT, oP, bS, cS, wS) 16 (nI (skb M L aT))) 3 (M 13)))))
theorem l_tsB (E : gE) {d : Nat} (hd : 7 ≤ d) {L : Nat} (h : hp_T) (hG : gr h) (M : mM) (N : mN) (T : tpI M L) (aT : Nat) (eN bD bP : Int32) (cD wT : Nat) (oP : Int32) (bS : Nat) (cS wS : Nat → Int32) (I0 : rI L (aT, eN, bD, bP, cD, wT, oP, bS, cS, wS)) (hbs : bS < 1000) (zb0 : bD = 0) {v : Option Value} {hz : hp_T} (K1 : ∀ {q'}, okT L (aT, eN, bD, bP, cD, wT, oP, bS, cS, wS) q' → (q'.2.2.1 = 0 → aT + 1 ≤ q'.1) → tsB M L (aT, eN, bD, bP, cD, wT, oP, bS, cS, wS) = (true, q') → gf E mX12_test d 2 [(0, .ref (E.1 + 247)), (1, .int 1)] [] (hm h (pM M q') N) v hz) (K2 : ∀ {q'}, okT L (aT, eN, bD, bP, cD, wT, oP, bS, cS, wS) q' → tsB M L (aT, eN, bD, bP, cD, wT, oP, bS, cS, wS) = (false, q') → gf E mX12_test d 2 [(0, .ref (E.1 + 247)), (1, .int 0)] [] (hm h (pM M q') N) v hz) : gf E mX12_test d 2 [(0, .ref (E.1 + 247)), (1, .int 1)] [] (hm h (pM M (aT, eN, bD, bP, cD, wT, oP, bS, cS, wS)) N) v hz := by
  have hL6 := T.2.1
  have hA0 : aT ≤ L := I0.1
  have hB0 : cD + wT ≤ aT + 2 := I0.2
  have hsk := skb_le (M := M) (L := L) (a := aT)
  refine gf_iload_n 1 dX12_test_2 rfl rfl ?_
  refine gf_if_eq 110 dX12_test_3 rfl (fun q => absurd q (by decide)) (fun _ => ?_)
  refine gf_aload_n 0 dX12_test_6 rfl rfl ?_
  refine gf_getI flX12_285 rfl dX12_test_7 (gt_247 hG) ?_
  rw [show hp_i (hm h (pM M (aT, eN, bD, bP, cD, wT, oP, bS, cS, wS)) N) 247 5 = bD from rfl]
  refine gf_if_ne 110 dX12_test_10 rfl (fun q => absurd (zb0) q) (fun _ => ?_)
  refine gf_aload_n 0 dX12_test_13 rfl rfl ?_
  refine gf_callV cmX12_look lkX12_297 imX12_look seX12_look ⟨rfl, by decide⟩ dX12_test_14 (d1 := d - 1) (by omega) (gt_247 hG) (e_X12_look E h hG M N T aT eN bD bP cD wT oP bS cS wS (by omega)) rfl rfl (Nat.le_of_ble_eq_true rfl) ?_
  have hI1 : rI L ((skb M L aT), eN, bD, bP, cD, wT, oP, bS, cS, wS) := skb_I I0
  have hA1 : (skb M L aT) ≤ L := hI1.1
  have hB1 : cD + wT ≤ (skb M L aT) + 2 := hI1.2
  refine gf_istore_n 2 dX12_test_17 rfl (Nat.le_of_ble_eq_true rfl) ?_
  refine gf_iload_n 2 dX12_test_18 rfl rfl ?_
  refine gf_bipush (91) dX12_test_19 rfl ?_
  refine gf_icmp_ne 47 dX12_test_21 rfl (fun zc21 => ?_) (fun zc21 => ?_)
  · refine gf_aload_n 0 dX12_test_47 rfl rfl ?_
    refine gf_aload_n 0 dX12_test_48 rfl rfl ?_
    refine gf_getR flX12_51 rfl dX12_test_49 (gt_247 hG) (gp_247_20 hG) ?_
    refine gf_callV cmX12_isHere lkX12_308 imX12_isHere seX12_isHere ⟨rfl, by decide⟩ dX12_test_52 (d1 := d - 1) (by omega) (gt_247 hG) (e_X12_isHere E (by omega) h hG M N T (skb M L aT) eN bD bP cD wT oP bS cS wS (A := 260) (l := 3) (f := M 13) (gt_260 hG) (gl_260 hG) (fun q j => rfl) (by omega) (by omega)) rfl rfl (Nat.le_of_ble_eq_true rfl) ?_
    rw [show hrS M L ((skb M L aT), eN, bD, bP, cD, wT, oP, bS, cS, wS) = ((skb M L aT), eN, bD, bP, cD, wT, oP, bS, cS, wS) from hrS_sk (by omega)]
    refine gf_if_eq 79 dX12_test_55 rfl (fun zc55 => ?_) (fun zc55 => ?_)
    · have I9 : rI L ((skb M L aT), eN, bD, bP, cD, wT, oP, bS, cS, wS) := skb_I (M := M) I0
      have T9 := facS_T (M := M) T.2.1 I9
      have hC := tsC_T (M := M) T9.1
      refine gf_aload_n 0 dX12_test_79 rfl rfl ?_
      refine gf_callV cmX12_fact lkX12_388 imX12_fact seX12_fact ⟨rfl, by decide⟩ dX12_test_80 (d1 := d - 1) (by omega) (gt_247 hG) (e_X12_fact E (by omega) h hG M N T ((skb M L aT), eN, bD, bP, cD, wT, oP, bS, cS, wS) I9 hbs (skb_skb hA0)) rfl rfl (Nat.le_of_ble_eq_true rfl) ?_
      refine gf_lw (l_tsC E hd h hG M N T _ _ _ _ _ _ _ _ _ _ T9.1 (fun {q'} he => ?_) (fun {q'} he => ?_)) ⟨rfl, trivial⟩
      · have h9 := hC
        rw [show tsC M L (facS9 M L ((skb M L aT), eN, bD, bP, cD, wT, oP, bS, cS, wS)) = (true, q') from he] at h9
        exact K1 (okT_t (skb_T I0) (okT_t T9 h9.1)) (fun _ => Nat.le_trans (Nat.succ_le_succ (Nat.le_trans hsk.1 T9.2.1)) (h9.2 rfl)) ((show tsB M L (aT, eN, bD, bP, cD, wT, oP, bS, cS, wS) = tsC M L (facS9 M L ((skb M L aT), eN, bD, bP, cD, wT, oP, bS, cS, wS)) from (if_neg zc21).trans (if_pos zc55)).trans he)
      · have h9 := hC
        rw [show tsC M L (facS9 M L ((skb M L aT), eN, bD, bP, cD, wT, oP, bS, cS, wS)) = (false, q') from he] at h9
        exact K2 (okT_t (skb_T I0) (okT_t T9 h9.1)) ((show tsB M L (aT, eN, bD, bP, cD, wT, oP, bS, cS, wS) = tsC M L (facS9 M L ((skb M L aT), eN, bD, bP, cD, wT, oP, bS, cS, wS)) from (if_neg zc21).trans (if_pos zc55)).trans he)
    · refine gf_aload_n 0 dX12_test_58 rfl rfl ?_
      refine gf_bipush (16) dX12_test_59 rfl ?_
      refine gf_aload_n 0 dX12_test_61 rfl rfl ?_
      refine gf_getI flX12_291 rfl dX12_test_62 (gt_247 hG) ?_
      rw [show hp_i (hm h (pM M ((skb M L aT), eN, bD, bP, cD, wT, oP, bS, cS, wS)) N) 247 2 = (nI (skb M L aT)) from rfl]
      refine gf_callV cmX12_opens lkX12_351 imX12_opens seX12_opens ⟨rfl, by decide⟩ dX12_test_65 (d1 := d - 1) (by omega) (gt_247 hG) (e_X12_opens E (by omega) 16 (nI (skb M L aT)) h hG M N (skb M L aT) eN bD bP cD wT oP bS cS wS (by omega)) rfl rfl (Nat.le_of_ble_eq_true rfl) ?_
      refine gf_aload_n 0 dX12_test_68 rfl rfl ?_
      refine gf_aload_n 0 dX12_test_69 rfl rfl ?_
      refine gf_getR flX12_51 rfl dX12_test_70 (gt_247 hG) (gp_247_20 hG) ?_
      refine gf_callV cmX12_asks lkX12_354 imX12_asks seX12_asks ⟨rfl, by decide⟩ dX12_test_73 (d1 := d - 1) (by omega) (gt_247 hG) (e_X12_asks E (by omega) h hG M N T ((opS ((skb M L aT), eN, bD, bP, cD, wT, oP, bS, cS, wS) 16 (nI (skb M L aT))).1) ((opS ((skb M L aT), eN, bD, bP, cD, wT, oP, bS, cS, wS) 16 (nI (skb M L aT))).2.1) ((opS ((skb M L aT), eN, bD, bP, cD, wT, oP, bS, cS, wS) 16 (nI (skb M L aT))).2.2.1) ((opS ((skb M L aT), eN, bD, bP, cD, wT, oP, bS, cS, wS) 16 (nI (skb M L aT))).2.2.2.1) ((opS ((skb M L aT), eN, bD, bP, cD, wT, oP, bS, cS, wS) 16 (nI (skb M L aT))).2.2.2.2.1) ((opS ((skb M L aT), eN, bD, bP, cD, wT, oP, bS, cS, wS) 16 (nI (skb M L aT))).2.2.2.2.2.1) ((opS ((skb M L aT), eN, bD, bP, cD, wT, oP, bS, cS, wS) 16 (nI (skb M L aT))).2.2.2.2.2.2.1) ((opS ((skb M L aT), eN, bD, bP, cD, wT, oP, bS, cS, wS) 16 (nI (skb M L aT))).2.2.2.2.2.2.2.1) ((opS ((skb M L aT), eN, bD, bP, cD, wT, oP, bS, cS, wS) 16 (nI (skb M L aT))).2.2.2.2.2.2.2.2.1) ((opS ((skb M L aT), eN, bD, bP, cD, wT, oP, bS, cS, wS) 16 (nI (skb M L aT))).2.2.2.2.2.2.2.2.2) (A := 260) (l := 3) (f := M 13) (gt_260 hG) (gl_260 hG) (fun q j => rfl) (by omega) (by show (opS ((skb M L aT), eN, bD, bP, cD, wT, oP, bS, cS, wS) 16 (nI (skb M L aT))).1 ≤ L; rw [(opS_r (q := ((skb M L aT), eN, bD, bP, cD, wT, oP, bS, cS, wS)) (v := 16) (p := nI (skb M L aT))).1]; exact hsk.2 hA0)) rfl rfl (Nat.le_of_ble_eq_true rfl) ?_
      refine gf_goto 2 dX12_test_76 rfl ?_
      exact gf_lw (K1 (okT_t (skb_T I0) (not_T (skb_I (M := M) I0) (bI_t zc55)).1) (fun h9 => Nat.le_trans (Nat.succ_le_succ hsk.1) ((not_T (q := ((skb M L aT), eN, bD, bP, cD, wT, oP, bS, cS, wS)) (v := 16) (p := nI (skb M L aT)) (skb_I (M := M) I0) (bI_t zc55)).2 h9)) (show tsB M L (aT, eN, bD, bP, cD, wT, oP, bS, cS, wS) = _ from (if_neg zc21).trans (if_neg zc55))) ⟨rfl, rfl, trivial⟩
  · refine gf_aload_n 0 dX12_test_24 rfl rfl ?_
    refine gf_bipush (25) dX12_test_25 rfl ?_
    refine gf_aload_n 0 dX12_test_27 rfl rfl ?_
    refine gf_getI flX12_291 rfl dX12_test_28 (gt_247 hG) ?_
    rw [show hp_i (hm h (pM M ((skb M L aT), eN, bD, bP, cD, wT, oP, bS, cS, wS)) N) 247 2 = (nI (skb M L aT)) from rfl]
    refine gf_callV cmX12_opens lkX12_351 imX12_opens seX12_opens ⟨rfl, by decide⟩ dX12_test_31 (d1 := d - 1) (by omega) (gt_247 hG) (e_X12_opens E (by omega) 25 (nI (skb M L aT)) h hG M N (skb M L aT) eN bD bP cD wT oP bS cS wS (by omega)) rfl rfl (Nat.le_of_ble_eq_true rfl) ?_
    refine gf_aload_n 0 dX12_test_34 rfl rfl ?_
    refine gf_dup dX12_test_35 rfl ?_
    refine gf_getI flX12_291 rfl dX12_test_36 (gt_247 hG) ?_
    rw [show hp_i (hm h (pM M (opS ((skb M L aT), eN, bD, bP, cD, wT, oP, bS, cS, wS) 25 (nI (skb M L aT)))) N) 247 2 = (nI ((opS ((skb M L aT), eN, bD, bP, cD, wT, oP, bS, cS, wS) 25 (nI (skb M L aT))).1)) from rfl]
    refine gf_iconst (1) dX12_test_39 rfl ?_
    refine gf_iadd dX12_test_40 ?_
    rw [nI_1 ((opS ((skb M L aT), eN, bD, bP, cD, wT, oP, bS, cS, wS) 25 (nI (skb M L aT))).1)]
    refine gf_putI flX12_291 rfl rfl dX12_test_41 (gt_247 hG) ⟨rfl, rfl⟩ ?_
    rw [mI_0, pM_2]
    refine gf_goto 2 dX12_test_44 rfl ?_
    exact gf_lw (K1 (okT_t (skb_T I0) (opn_T (skb_I (M := M) I0) (lkV_lt (by decide) zc21)).1) (fun _ => Nat.le_trans (Nat.succ_le_succ hsk.1) (opn_T (q := ((skb M L aT), eN, bD, bP, cD, wT, oP, bS, cS, wS)) (v := 25) (p := nI (skb M L aT)) (skb_I (M := M) I0) (lkV_lt (by decide) zc21)).2) (show tsB M L (aT, eN, bD, bP, cD, wT, oP, bS, cS, wS) = _ from if_pos zc21)) ⟨rfl, rfl, trivial⟩
def tsF (M : mM) (L : Nat) : Nat → pS → pS
  | 0, q => q
  | k + 1, q => if q.2.2.1 = 0 then (if (tsB M L q).1 = true then tsF M L k (tsB M L q).2 else (tsB M L q).2) else q
theorem l_ts (E : gE) {d : Nat} (hd : 7 ≤ d) {L : Nat} (h : hp_T) (hG : gr h) (M : mM) (N : mN) (T : tpI M L) {q0 : pS} {v : Option Value} {hz : hp_T} {r : pS} (hbs : bsQ q0 < 1000) (K : okT L q0 r → gf E mX12_test d 110 [(0, .ref (E.1 + 247))] [] (hm h (pM M r) N) v hz) : ∀ (kz : Nat) (q : pS), okT L q0 q → rms L q < kz → tsF M L kz q = r → gf E mX12_test d 2 [(0, .ref (E.1 + 247)), (1, .int 1)] [] (hm h (pM M q) N) v hz := by
  intro kz
  induction kz with
  | zero => intro q _ h; exact absurd h (Nat.not_lt_zero _)
  | succ kz ih =>
    intro q Tq hm9 hr
    obtain ⟨aT, eN, bD, bP, cD, wT, oP, bS, cS, wS⟩ := q
    by_cases zb0 : bD = 0
    · rw [show tsF M L (kz + 1) (aT, eN, bD, bP, cD, wT, oP, bS, cS, wS) = (if (tsB M L (aT, eN, bD, bP, cD, wT, oP, bS, cS, wS)).1 = true then tsF M L kz (tsB M L (aT, eN, bD, bP, cD, wT, oP, bS, cS, wS)).2 else (tsB M L (aT, eN, bD, bP, cD, wT, oP, bS, cS, wS)).2) from if_pos zb0] at hr
      have hms : rms L (aT, eN, bD, bP, cD, wT, oP, bS, cS, wS) = L - aT + 1 := if_pos zb0
      refine l_tsB E hd h hG M N T aT eN bD bP cD wT oP bS cS wS Tq.1 (by have e : bS = bsQ q0 := Tq.2.2.1; omega) zb0 (fun {q'} T' hp he => ?_) (fun {q'} T' he => ?_)
      · rw [he] at hr
        have hr : tsF M L kz q' = r := by rw [← hr]; exact (if_pos rfl).symm
        refine ih q' (okT_t Tq T') ?_ hr
        have hl : aT ≤ L := Tq.1.1
        have hl2 := T'.1.1
        unfold rms
        split
        · rename_i h0
          have := hp h0
          omega
        · omega
      · rw [he] at hr
        have hr : q' = r := by rw [← hr]; exact (if_neg (fun z => Bool.noConfusion z)).symm
        subst hr
        refine gf_iload_n 1 dX12_test_2 rfl rfl ?_
        refine gf_if_eq 110 dX12_test_3 rfl (fun _ => ?_) (fun q => absurd (rfl) q)
        exact gf_lw (K (okT_t Tq T')) ⟨rfl, trivial⟩
    · rw [show tsF M L (kz + 1) (aT, eN, bD, bP, cD, wT, oP, bS, cS, wS) = (aT, eN, bD, bP, cD, wT, oP, bS, cS, wS) from if_neg zb0] at hr
      subst hr
      refine gf_iload_n 1 dX12_test_2 rfl rfl ?_
      refine gf_if_eq 110 dX12_test_3 rfl (fun q => absurd q (by decide)) (fun _ => ?_)
      refine gf_aload_n 0 dX12_test_6 rfl rfl ?_
      refine gf_getI flX12_285 rfl dX12_test_7 (gt_247 hG) ?_
      rw [show hp_i (hm h (pM M (aT, eN, bD, bP, cD, wT, oP, bS, cS, wS)) N) 247 5 = bD from rfl]
      refine gf_if_ne 110 dX12_test_10 rfl (fun _ => ?_) (fun q => absurd q (zb0))
      exact gf_lw (K Tq) ⟨rfl, trivial⟩
theorem l_tda (E : gE) {d : Nat} (hd : 2 ≤ d) (h : hp_T) (hG : gr h) (M : mM) (N : mN) (aT : Nat) (eN bD bP oP : Int32) (bS : Nat) (wS : Nat → Int32) (hb0 : bD = 0) {v : Option Value} {hz : hp_T} {r : Nat × Nat × (Nat → Int32)} (K : gf E mX12_test d 131 [(0, .ref (E.1 + 247))] [] (hm h (pM M (aT, eN, bD, bP, r.2.1, r.1, oP, bS, r.2.2, wS)) N) v hz) : ∀ (w c : Nat) (s : Nat → Int32), w ≤ 700 → w + c ≤ 100000 → (dwS wS (fun _ => true) w c s) = r → gf E mX12_test d 110 [(0, .ref (E.1 + 247))] [] (hm h (pM M (aT, eN, bD, bP, c, w, oP, bS, s, wS)) N) v hz := by
  intro w
  induction w with
  | zero =>
    intro c s _ _ hr
    subst hr
    refine gf_aload_n 0 dX12_test_110 rfl rfl ?_
    refine gf_getI flX12_285 rfl dX12_test_111 (gt_247 hG) ?_
    rw [show hp_i (hm h (pM M (aT, eN, bD, bP, c, 0, oP, bS, s, wS)) N) 247 5 = bD from rfl]
    refine gf_if_ne 131 dX12_test_114 rfl (fun q => absurd (hb0) q) (fun _ => ?_)
    refine gf_aload_n 0 dX12_test_117 rfl rfl ?_
    refine gf_getI flX12_335 rfl dX12_test_118 (gt_247 hG) ?_
    rw [show hp_i (hm h (pM M (aT, eN, bD, bP, c, 0, oP, bS, s, wS)) N) 247 39 = (nI 0) from rfl]
    refine gf_if_le 131 dX12_test_121 rfl (fun _ => ?_) (fun q => absurd (Int32.le_refl _) q)
    exact gf_lw K ⟨rfl, trivial⟩
  | succ w ih =>
    intro c s hw hc hr
    refine gf_aload_n 0 dX12_test_110 rfl rfl ?_
    refine gf_getI flX12_285 rfl dX12_test_111 (gt_247 hG) ?_
    rw [show hp_i (hm h (pM M (aT, eN, bD, bP, c, (w + 1), oP, bS, s, wS)) N) 247 5 = bD from rfl]
    refine gf_if_ne 131 dX12_test_114 rfl (fun q => absurd (hb0) q) (fun _ => ?_)
    refine gf_aload_n 0 dX12_test_117 rfl rfl ?_
    refine gf_getI flX12_335 rfl dX12_test_118 (gt_247 hG) ?_
    rw [show hp_i (hm h (pM M (aT, eN, bD, bP, c, (w + 1), oP, bS, s, wS)) N) 247 39 = (nI (w + 1)) from rfl]
    refine gf_if_le 131 dX12_test_121 rfl (fun q => absurd q (nI_nle (by omega) (by omega))) (fun _ => ?_)
    refine gf_aload_n 0 dX12_test_124 rfl rfl ?_
    refine gf_callV cmX12_drops lkX12_348 imX12_drops seX12_drops ⟨rfl, by decide⟩ dX12_test_125 (d1 := d - 1) (by omega) (gt_247 hG) (e_X12_drops E (by omega) h hG M N aT eN bD bP c (w + 1) oP bS s wS (by omega) (by omega) (by omega)) rfl rfl (Nat.le_of_ble_eq_true rfl) ?_
    refine gf_goto 110 dX12_test_128 rfl ?_
    rw [show dwS wS (fun _ => true) (w + 1) c s = dwS wS (fun _ => true) w (c + 1) (va_up s c (wS w)) from if_pos (rfl)] at hr
    exact gf_lw (ih (c + 1) (va_up s c (wS w)) (by omega) (by omega) hr) ⟨rfl, trivial⟩
def dtA (q : pS) : pS := if q.2.2.1 = 0 then dwQ q (fun _ => true) else q
def tesS (M : mM) (L : Nat) (q : pS) : pS := dtA (tsF M L 700 q)
theorem dtA_T {L : Nat} {q : pS} (I : rI L q) : okT L q (dtA q) := by
  unfold dtA
  split
  · exact dwQ_T I
  · exact okT_r I
theorem l_tea (E : gE) {d : Nat} (hd : 7 ≤ d) {L : Nat} (h : hp_T) (hG : gr h) (M : mM) (N : mN) (T : tpI M L) (aT : Nat) (eN bD bP : Int32) (cD wT : Nat) (oP : Int32) (bS : Nat) (cS wS : Nat → Int32) (I0 : rI L (aT, eN, bD, bP, cD, wT, oP, bS, cS, wS)) : gf E mX12_test d 110 [(0, .ref (E.1 + 247))] [] (hm h (pM M (aT, eN, bD, bP, cD, wT, oP, bS, cS, wS)) N) none (hm h (pM M (dtA (aT, eN, bD, bP, cD, wT, oP, bS, cS, wS))) N) := by
  have hL6 := T.2.1
  have hA0 : aT ≤ L := I0.1
  have hB0 : cD + wT ≤ aT + 2 := I0.2
  by_cases hb0 : bD = 0
  · rw [show dtA (aT, eN, bD, bP, cD, wT, oP, bS, cS, wS) = dwQ (aT, eN, bD, bP, cD, wT, oP, bS, cS, wS) (fun _ => true) from if_pos hb0]
    refine l_tda E (by omega) h hG M N aT eN bD bP oP bS wS hb0 (r := (dwS wS (fun _ => true) wT cD cS)) ?_ wT cD cS (by omega) (by omega) rfl
    exact gf_vretE dX12_test_131 rfl (rfl)
  · rw [show dtA (aT, eN, bD, bP, cD, wT, oP, bS, cS, wS) = (aT, eN, bD, bP, cD, wT, oP, bS, cS, wS) from if_neg hb0]
    refine gf_aload_n 0 dX12_test_110 rfl rfl ?_
    refine gf_getI flX12_285 rfl dX12_test_111 (gt_247 hG) ?_
    rw [show hp_i (hm h (pM M (aT, eN, bD, bP, cD, wT, oP, bS, cS, wS)) N) 247 5 = bD from rfl]
    refine gf_if_ne 131 dX12_test_114 rfl (fun _ => ?_) (fun q => absurd q (hb0))
    exact gf_vretE dX12_test_131 rfl (rfl)
theorem e_X12_test (E : gE) {d : Nat} (hd : 7 ≤ d) {L : Nat} (h : hp_T) (hG : gr h) (M : mM) (N : mN) (T : tpI M L) (q : pS) (I0 : rI L q) (hbs : bsQ q < 1000) : ev E mX12_test d [.ref (E.1 + 247)] (hm h (pM M q) N) none (hm h (pM M (tesS M L q)) N) := by
  refine ev_of rfl (fun q => absurd q (by decide)) (Nat.le_of_ble_eq_true rfl) ?_
  have hL6 := T.2.1
  refine gf_iconst (1) dX12_test_0 rfl ?_
  refine gf_istore_n 1 dX12_test_1 rfl (Nat.le_of_ble_eq_true rfl) ?_
  refine gf_lw (l_ts E hd h hG M N T (q0 := q) (r := tsF M L 700 q) hbs (fun Tr => ?_) 700 q (okT_r I0) (by unfold rms; split <;> omega) rfl) ⟨rfl, rfl, trivial⟩
  exact l_tea E hd h hG M N T _ _ _ _ _ _ _ _ _ _ Tr.1
