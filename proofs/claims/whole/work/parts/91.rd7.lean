/-! ===== the reference's reader: sums, facts ===== -/
/-- parts and what joins them -/
def sumF (M : mM) (L : Nat) : Nat → pS → pS
  | 0, q => q
  | k + 1, q => if q.2.2.1 = 0 then (if (oneS M L q).2.2.1 = 0 then (if (gonQ M L (oneS M L q)).1 = true then sumF M L k (gonQ M L (oneS M L q)).2 else (gonQ M L (oneS M L q)).2) else oneS M L q) else q
def dtB (q : pS) : pS := if q.2.2.1 = 0 then dwQ q (fun i => decide (bsQ q ≤ i)) else q
def sumS (M : mM) (L : Nat) (q : pS) : pS := s7 (dtB (sumF M L 700 (s7 q q.2.2.2.2.2.1))) (bsQ q)
theorem dtB_T {L : Nat} {q : pS} (I : rI L q) : okT L q (dtB q) := by
  unfold dtB
  split
  · exact dwQ_T I
  · exact okT_r I
theorem sumF_T {M : mM} {L : Nat} (hL6 : L ≤ 600) : ∀ (k : Nat) {q : pS}, rI L q → okT L q (sumF M L k q)
  | 0, _, I => okT_r I
  | k + 1, q, I => by
    have h1 := oneS_T (M := M) I
    unfold sumF
    split
    · split
      · rename_i e
        have h2 := (gonQ_T (M := M) hL6 h1.1 e).1
        split
        · exact okT_t h1 (okT_t h2 (sumF_T hL6 k h2.1))
        · exact okT_t h1 h2
      · exact h1
    · exact okT_r I
theorem sumS_T {M : mM} {L : Nat} {q : pS} (hL6 : L ≤ 600) (I : rI L q) : okT L q (sumS M L q) := by
  have h1 := sumF_T (M := M) hL6 700 (q := s7 q q.2.2.2.2.2.1) I
  have h2 := dtB_T h1.1
  have h3 := okT_t h1 h2
  exact ⟨h3.1, h3.2.1, rfl, h3.2.2.2⟩
theorem l_sm (E : gE) {d : Nat} (hd : 5 ≤ d) {L : Nat} (h : hp_T) (hG : gr h) (M : mM) (N : mN) (T : tpI M L) (x0 : Int32) {v : Option Value} {hz : hp_T} {r : pS} (K : rI L r → gf E mX12_sums d 53 [(0, .ref (E.1 + 247)), (1, .int x0)] [] (hm h (pM M r) N) v hz) : ∀ (kz : Nat) (q : pS), rI L q → bsQ q < 1000 → rms L q < kz → sumF M L kz q = r → gf E mX12_sums d 15 [(0, .ref (E.1 + 247)), (1, .int x0), (2, .int 1)] [] (hm h (pM M q) N) v hz := by
  intro kz
  induction kz with
  | zero => intro q _ _ h; exact absurd h (Nat.not_lt_zero _)
  | succ kz ih =>
    intro q I0 hbs hm9 hr
    obtain ⟨aT, eN, bD, bP, cD, wT, oP, bS, cS, wS⟩ := q
    have hbs : bS < 1000 := hbs
    by_cases zb0 : bD = 0
    · skip
      refine gf_iload_n 2 dX12_sums_15 rfl rfl ?_
      refine gf_if_eq 53 dX12_sums_16 rfl (fun q => absurd q (by decide)) (fun _ => ?_)
      refine gf_aload_n 0 dX12_sums_19 rfl rfl ?_
      refine gf_getI flX12_285 rfl dX12_sums_20 (gt_247 hG) ?_
      rw [show hp_i (hm h (pM M (aT, eN, bD, bP, cD, wT, oP, bS, cS, wS)) N) 247 5 = bD from rfl]
      refine gf_if_ne 53 dX12_sums_23 rfl (fun q => absurd (zb0) q) (fun _ => ?_)
      refine gf_aload_n 0 dX12_sums_26 rfl rfl ?_
      refine gf_callV cmX12_onePart lkX12_378 imX12_onePart seX12_onePart ⟨rfl, by decide⟩ dX12_sums_27 (d1 := d - 1) (by omega) (gt_247 hG) (e_X12_onePart E (by omega) h hG M N T (aT, eN, bD, bP, cD, wT, oP, bS, cS, wS) I0) rfl rfl (Nat.le_of_ble_eq_true rfl) ?_
      have hT1 := oneS_T (M := M) I0
      have hI1 : rI L (oneS M L (aT, eN, bD, bP, cD, wT, oP, bS, cS, wS)) := hT1.1
      have hb1 : bsQ (oneS M L (aT, eN, bD, bP, cD, wT, oP, bS, cS, wS)) = bS := hT1.2.2.1
      refine gf_aload_n 0 dX12_sums_30 rfl rfl ?_
      refine gf_getI flX12_285 rfl dX12_sums_31 (gt_247 hG) ?_
      rw [show hp_i (hm h (pM M (oneS M L (aT, eN, bD, bP, cD, wT, oP, bS, cS, wS))) N) 247 5 = (oneS M L (aT, eN, bD, bP, cD, wT, oP, bS, cS, wS)).2.2.1 from rfl]
      refine gf_if_ne 48 dX12_sums_34 rfl (fun zc34 => ?_) (fun zc34 => ?_)
      · refine gf_iconst (0) dX12_sums_48 rfl ?_
        refine gf_istore_n 2 dX12_sums_49 rfl (Nat.le_of_ble_eq_true rfl) ?_
        refine gf_goto 15 dX12_sums_50 rfl ?_
        rw [show sumF M L (kz + 1) (aT, eN, bD, bP, cD, wT, oP, bS, cS, wS) = (oneS M L (aT, eN, bD, bP, cD, wT, oP, bS, cS, wS)) from (if_pos zb0).trans (if_neg zc34)] at hr
        subst hr
        have hIr := hI1
        refine gf_iload_n 2 dX12_sums_15 rfl rfl ?_
        refine gf_if_eq 53 dX12_sums_16 rfl (fun _ => ?_) (fun q => absurd (rfl) q)
        exact gf_lw (K hIr) ⟨rfl, rfl, trivial⟩
      · refine gf_aload_n 0 dX12_sums_37 rfl rfl ?_
        refine gf_callV cmX12_goesOn lkX12_381 imX12_goesOn seX12_goesOn ⟨rfl, by decide⟩ dX12_sums_38 (d1 := d - 1) (by omega) (gt_247 hG) (e_X12_goesOn E (by omega) h hG M N T (oneS M L (aT, eN, bD, bP, cD, wT, oP, bS, cS, wS)) hI1 (by show bsQ (oneS M L (aT, eN, bD, bP, cD, wT, oP, bS, cS, wS)) < 1000; rw [hb1]; exact hbs) zc34) rfl rfl (Nat.le_of_ble_eq_true rfl) ?_
        refine gf_if_eq 48 dX12_sums_41 rfl (fun zc41 => ?_) (fun zc41 => ?_)
        · refine gf_iconst (0) dX12_sums_48 rfl ?_
          refine gf_istore_n 2 dX12_sums_49 rfl (Nat.le_of_ble_eq_true rfl) ?_
          refine gf_goto 15 dX12_sums_50 rfl ?_
          rw [show sumF M L (kz + 1) (aT, eN, bD, bP, cD, wT, oP, bS, cS, wS) = ((gonQ M L (oneS M L (aT, eN, bD, bP, cD, wT, oP, bS, cS, wS))).2) from (if_pos zb0).trans ((if_pos zc34).trans (if_neg (by rw [bI_f zc41]; decide)))] at hr
          subst hr
          have hIr := (gonQ_T (M := M) T.2.1 hI1 zc34).1.1
          refine gf_iload_n 2 dX12_sums_15 rfl rfl ?_
          refine gf_if_eq 53 dX12_sums_16 rfl (fun _ => ?_) (fun q => absurd (rfl) q)
          exact gf_lw (K hIr) ⟨rfl, rfl, trivial⟩
        · refine gf_iconst (1) dX12_sums_44 rfl ?_
          refine gf_goto 49 dX12_sums_45 rfl ?_
          refine gf_istore_n 2 dX12_sums_49 rfl (Nat.le_of_ble_eq_true rfl) ?_
          refine gf_goto 15 dX12_sums_50 rfl ?_
          rw [show sumF M L (kz + 1) (aT, eN, bD, bP, cD, wT, oP, bS, cS, wS) = sumF M L kz ((gonQ M L (oneS M L (aT, eN, bD, bP, cD, wT, oP, bS, cS, wS))).2) from (if_pos zb0).trans ((if_pos zc34).trans (if_pos (bI_t zc41)))] at hr
          have hT2 := gonQ_T (M := M) T.2.1 hI1 zc34
          have hg := hT2.2 (bI_t zc41)
          have h1g := hT1.2.1
          have hlg := hT2.1.1.1
          have hlg0 : aT ≤ L := I0.1
          have h1g : aT ≤ (oneS M L (aT, eN, bD, bP, cD, wT, oP, bS, cS, wS)).1 := h1g
          exact gf_lw (ih ((gonQ M L (oneS M L (aT, eN, bD, bP, cD, wT, oP, bS, cS, wS))).2) hT2.1.1 (by rw [show bsQ ((gonQ M L (oneS M L (aT, eN, bD, bP, cD, wT, oP, bS, cS, wS))).2) = bsQ (oneS M L (aT, eN, bD, bP, cD, wT, oP, bS, cS, wS)) from hT2.1.2.2.1, hb1]; exact hbs) (by have hms : rms L (aT, eN, bD, bP, cD, wT, oP, bS, cS, wS) = L - aT + 1 := if_pos zb0; unfold rms; split <;> omega) hr) ⟨rfl, rfl, rfl, trivial⟩
    · rw [show sumF M L (kz + 1) (aT, eN, bD, bP, cD, wT, oP, bS, cS, wS) = (aT, eN, bD, bP, cD, wT, oP, bS, cS, wS) from if_neg zb0] at hr
      subst hr
      refine gf_iload_n 2 dX12_sums_15 rfl rfl ?_
      refine gf_if_eq 53 dX12_sums_16 rfl (fun q => absurd q (by decide)) (fun _ => ?_)
      refine gf_aload_n 0 dX12_sums_19 rfl rfl ?_
      refine gf_getI flX12_285 rfl dX12_sums_20 (gt_247 hG) ?_
      rw [show hp_i (hm h (pM M (aT, eN, bD, bP, cD, wT, oP, bS, cS, wS)) N) 247 5 = bD from rfl]
      refine gf_if_ne 53 dX12_sums_23 rfl (fun _ => ?_) (fun q => absurd q (zb0))
      exact gf_lw (K I0) ⟨rfl, rfl, trivial⟩
theorem l_sdr (E : gE) {d : Nat} (hd : 2 ≤ d) (h : hp_T) (hG : gr h) (M : mM) (N : mN) (aT : Nat) (eN bD bP oP : Int32) (bS : Nat) (wS : Nat → Int32) (x0 : Int32) (hb0 : bD = 0) (hbs : bS < 1000) {v : Option Value} {hz : hp_T} {r : Nat × Nat × (Nat → Int32)} (K : gf E mX12_sums d 78 [(0, .ref (E.1 + 247)), (1, .int x0)] [] (hm h (pM M (aT, eN, bD, bP, r.2.1, r.1, oP, bS, r.2.2, wS)) N) v hz) : ∀ (w c : Nat) (s : Nat → Int32), w ≤ 700 → w + c ≤ 100000 → (dwS wS (fun i => decide (bS ≤ i)) w c s) = r → gf E mX12_sums d 53 [(0, .ref (E.1 + 247)), (1, .int x0)] [] (hm h (pM M (aT, eN, bD, bP, c, w, oP, bS, s, wS)) N) v hz := by
  intro w
  induction w with
  | zero =>
    intro c s _ _ hr
    subst hr
    refine gf_aload_n 0 dX12_sums_53 rfl rfl ?_
    refine gf_getI flX12_285 rfl dX12_sums_54 (gt_247 hG) ?_
    rw [show hp_i (hm h (pM M (aT, eN, bD, bP, c, 0, oP, bS, s, wS)) N) 247 5 = bD from rfl]
    refine gf_if_ne 78 dX12_sums_57 rfl (fun q => absurd (hb0) q) (fun _ => ?_)
    refine gf_aload_n 0 dX12_sums_60 rfl rfl ?_
    refine gf_getI flX12_335 rfl dX12_sums_61 (gt_247 hG) ?_
    rw [show hp_i (hm h (pM M (aT, eN, bD, bP, c, 0, oP, bS, s, wS)) N) 247 39 = (nI 0) from rfl]
    refine gf_aload_n 0 dX12_sums_64 rfl rfl ?_
    refine gf_getI flX12_342 rfl dX12_sums_65 (gt_247 hG) ?_
    rw [show hp_i (hm h (pM M (aT, eN, bD, bP, c, 0, oP, bS, s, wS)) N) 247 41 = (nI bS) from rfl]
    refine gf_icmp_le 78 dX12_sums_68 rfl (fun _ => ?_) (fun q => absurd (nI_le (by omega) (by omega)) q)
    exact gf_lw K ⟨rfl, rfl, trivial⟩
  | succ w ih =>
    intro c s hw hc hr
    refine gf_aload_n 0 dX12_sums_53 rfl rfl ?_
    refine gf_getI flX12_285 rfl dX12_sums_54 (gt_247 hG) ?_
    rw [show hp_i (hm h (pM M (aT, eN, bD, bP, c, (w + 1), oP, bS, s, wS)) N) 247 5 = bD from rfl]
    refine gf_if_ne 78 dX12_sums_57 rfl (fun q => absurd (hb0) q) (fun _ => ?_)
    refine gf_aload_n 0 dX12_sums_60 rfl rfl ?_
    refine gf_getI flX12_335 rfl dX12_sums_61 (gt_247 hG) ?_
    rw [show hp_i (hm h (pM M (aT, eN, bD, bP, c, (w + 1), oP, bS, s, wS)) N) 247 39 = (nI (w + 1)) from rfl]
    refine gf_aload_n 0 dX12_sums_64 rfl rfl ?_
    refine gf_getI flX12_342 rfl dX12_sums_65 (gt_247 hG) ?_
    rw [show hp_i (hm h (pM M (aT, eN, bD, bP, c, (w + 1), oP, bS, s, wS)) N) 247 41 = (nI bS) from rfl]
    refine gf_icmp_le 78 dX12_sums_68 rfl (fun zc68 => ?_) (fun zc68 => ?_)
    · rw [show dwS wS (fun i => decide (bS ≤ i)) (w + 1) c s = (w + 1, c, s) from if_neg (by show ¬ decide (bS ≤ w) = true; rw [decide_eq_false (show ¬ bS ≤ w from fun q => nI_ge (a := bS) (b := w + 1) (by omega) (by omega) zc68)]; decide)] at hr
      subst hr
      exact gf_lw K ⟨rfl, rfl, trivial⟩
    · refine gf_aload_n 0 dX12_sums_71 rfl rfl ?_
      refine gf_callV cmX12_drops lkX12_348 imX12_drops seX12_drops ⟨rfl, by decide⟩ dX12_sums_72 (d1 := d - 1) (by omega) (gt_247 hG) (e_X12_drops E (by omega) h hG M N aT eN bD bP c (w + 1) oP bS s wS (by omega) (by omega) (by omega)) rfl rfl (Nat.le_of_ble_eq_true rfl) ?_
      refine gf_goto 53 dX12_sums_75 rfl ?_
      rw [show dwS wS (fun i => decide (bS ≤ i)) (w + 1) c s = dwS wS (fun i => decide (bS ≤ i)) w (c + 1) (va_up s c (wS w)) from if_pos (decide_eq_true (show bS ≤ w by rcases Nat.lt_or_ge w bS with q | q; exact absurd (nI_le (show w + 1 ≤ bS by omega) (by omega)) zc68; exact q))] at hr
      exact gf_lw (ih (c + 1) (va_up s c (wS w)) (by omega) (by omega) hr) ⟨rfl, rfl, trivial⟩
theorem l_sums (E : gE) {d : Nat} (hd : 5 ≤ d) {L : Nat} (h : hp_T) (hG : gr h) (M : mM) (N : mN) (T : tpI M L) (aT : Nat) (eN bD bP : Int32) (cD wT : Nat) (oP : Int32) (bS : Nat) (cS wS : Nat → Int32) (I0 : rI L (aT, eN, bD, bP, cD, wT, oP, bS, cS, wS)) (hbs : bS < 1000) : ev E mX12_sums d [.ref (E.1 + 247)] (hm h (pM M (aT, eN, bD, bP, cD, wT, oP, bS, cS, wS)) N) none (hm h (pM M (sumS M L (aT, eN, bD, bP, cD, wT, oP, bS, cS, wS))) N) := by
  refine ev_of rfl (fun q => absurd q (by decide)) (Nat.le_of_ble_eq_true rfl) ?_
  have hL6 := T.2.1
  have hA0 : aT ≤ L := I0.1
  have hB0 : cD + wT ≤ aT + 2 := I0.2
  refine gf_aload_n 0 dX12_sums_0 rfl rfl ?_
  refine gf_getI flX12_342 rfl dX12_sums_1 (gt_247 hG) ?_
  rw [show hp_i (hm h (pM M (aT, eN, bD, bP, cD, wT, oP, bS, cS, wS)) N) 247 41 = (nI bS) from rfl]
  refine gf_istore_n 1 dX12_sums_4 rfl (Nat.le_of_ble_eq_true rfl) ?_
  refine gf_aload_n 0 dX12_sums_5 rfl rfl ?_
  refine gf_aload_n 0 dX12_sums_6 rfl rfl ?_
  refine gf_getI flX12_335 rfl dX12_sums_7 (gt_247 hG) ?_
  rw [show hp_i (hm h (pM M (aT, eN, bD, bP, cD, wT, oP, bS, cS, wS)) N) 247 39 = (nI wT) from rfl]
  refine gf_putI flX12_342 rfl rfl dX12_sums_10 (gt_247 hG) ⟨rfl, rfl⟩ ?_
  rw [mI_0, pM_41]
  refine gf_iconst (1) dX12_sums_13 rfl ?_
  refine gf_istore_n 2 dX12_sums_14 rfl (Nat.le_of_ble_eq_true rfl) ?_
  refine gf_lw (l_sm E hd h hG M N T (nI bS) (r := (sumF M L 700 (aT, eN, bD, bP, cD, wT, oP, wT, cS, wS))) (fun Ir => ?_) 700 (aT, eN, bD, bP, cD, wT, oP, wT, cS, wS) I0 (by show wT < 1000; omega) (by unfold rms; split <;> omega) rfl) ⟨rfl, rfl, rfl, trivial⟩
  have hrb : bsQ (sumF M L 700 (aT, eN, bD, bP, cD, wT, oP, wT, cS, wS)) = wT := (sumF_T (M := M) hL6 700 (q := (aT, eN, bD, bP, cD, wT, oP, wT, cS, wS)) I0).2.2.1
  have e : sumS M L (aT, eN, bD, bP, cD, wT, oP, bS, cS, wS) = s7 (dtB (sumF M L 700 (aT, eN, bD, bP, cD, wT, oP, wT, cS, wS))) bS := rfl
  rw [e]
  have hA1 := Ir.1
  have hB1 := Ir.2
  generalize (sumF M L 700 (aT, eN, bD, bP, cD, wT, oP, wT, cS, wS)) = r at Ir hrb hA1 hB1 ⊢
  obtain ⟨aT2, eN2, bD2, bP2, cD2, wT2, oP2, bS2, cS2, wS2⟩ := r
  have hrb : bS2 = wT := hrb
  have hA1 : aT2 ≤ L := hA1
  have hB1 : cD2 + wT2 ≤ aT2 + 2 := hB1
  by_cases hb0 : bD2 = 0
  · rw [show dtB (aT2, eN2, bD2, bP2, cD2, wT2, oP2, bS2, cS2, wS2) = dwQ (aT2, eN2, bD2, bP2, cD2, wT2, oP2, bS2, cS2, wS2) (fun i => decide (bS2 ≤ i)) from if_pos hb0]
    refine l_sdr E (by omega) h hG M N aT2 eN2 bD2 bP2 oP2 bS2 wS2 (nI bS) hb0 (by omega) (r := dwS wS2 (fun i => decide (bS2 ≤ i)) wT2 cD2 cS2) ?_ wT2 cD2 cS2 (by omega) (by omega) rfl
    refine gf_aload_n 0 dX12_sums_78 rfl rfl ?_
    refine gf_iload_n 1 dX12_sums_79 rfl rfl ?_
    refine gf_putI flX12_342 rfl rfl dX12_sums_80 (gt_247 hG) ⟨rfl, rfl⟩ ?_
    rw [mI_0, pM_41]
    exact gf_vretE dX12_sums_83 rfl (rfl)
  · rw [show dtB (aT2, eN2, bD2, bP2, cD2, wT2, oP2, bS2, cS2, wS2) = (aT2, eN2, bD2, bP2, cD2, wT2, oP2, bS2, cS2, wS2) from if_neg hb0]
    refine gf_aload_n 0 dX12_sums_53 rfl rfl ?_
    refine gf_getI flX12_285 rfl dX12_sums_54 (gt_247 hG) ?_
    rw [show hp_i (hm h (pM M (aT2, eN2, bD2, bP2, cD2, wT2, oP2, bS2, cS2, wS2)) N) 247 5 = bD2 from rfl]
    refine gf_if_ne 78 dX12_sums_57 rfl (fun _ => ?_) (fun q => absurd q (hb0))
    refine gf_aload_n 0 dX12_sums_78 rfl rfl ?_
    refine gf_iload_n 1 dX12_sums_79 rfl rfl ?_
    refine gf_putI flX12_342 rfl rfl dX12_sums_80 (gt_247 hG) ⟨rfl, rfl⟩ ?_
    rw [mI_0, pM_41]
    exact gf_vretE dX12_sums_83 rfl (rfl)
theorem e_X12_sums (E : gE) {d : Nat} (hd : 5 ≤ d) {L : Nat} (h : hp_T) (hG : gr h) (M : mM) (N : mN) (T : tpI M L) (q : pS) (I0 : rI L q) (hbs : bsQ q < 1000) : ev E mX12_sums d [.ref (E.1 + 247)] (hm h (pM M q) N) none (hm h (pM M (sumS M L q)) N) := l_sums E hd h hG M N T _ _ _ _ _ _ _ _ _ _ I0 hbs
theorem tkS_n {M : mM} {L : Nat} {q : pS} {l : Nat} {f : Nat → Int32} (hs : skb M L q.1 = q.1) (h : ¬ hrQ M L q l f = true) : tkS9 M L q l f = q := by
  unfold tkS9 hrS
  rw [if_neg h]
  split
  · show (skb M L q.1, q.2) = q
    rw [hs]
  · rfl
def fac3 (c0 : Int32) : pS → pS := fun (aT, eN, bD, bP, cD, wT, oP, bS, cS, wS) => (if c0 = 60 then (cdS (aT, eN, bD, bP, cD, wT, oP, bS, cS, wS) 11) else (if c0 = 62 then (cdS (aT, eN, bD, bP, cD, wT, oP, bS, cS, wS) 12) else (cdS (aT, eN, bD, bP, cD, wT, oP, bS, cS, wS) 13)))
theorem l_fac3 (E : gE) {d : Nat} (hd : 6 ≤ d) {L : Nat} (h : hp_T) (hG : gr h) (M : mM) (N : mN) (T : tpI M L) (aT : Nat) (eN bD bP : Int32) (cD wT : Nat) (oP : Int32) (bS : Nat) (cS wS : Nat → Int32) (I0 : rI L (aT, eN, bD, bP, cD, wT, oP, bS, cS, wS)) (c0 : Int32) : gf E mX12_fact d 103 [(0, .ref (E.1 + 247)), (1, .int c0)] [] (hm h (pM M (aT, eN, bD, bP, cD, wT, oP, bS, cS, wS)) N) none (hm h (pM M (fac3 c0 (aT, eN, bD, bP, cD, wT, oP, bS, cS, wS))) N) := by
  have hL6 := T.2.1
  have hA0 : aT ≤ L := I0.1
  have hB0 : cD + wT ≤ aT + 2 := I0.2
  refine gf_aload_n 0 dX12_fact_103 rfl rfl ?_
  refine gf_iload_n 1 dX12_fact_104 rfl rfl ?_
  refine gf_bipush (60) dX12_fact_105 rfl ?_
  refine gf_icmp_ne 115 dX12_fact_107 rfl (fun zc107 => ?_) (fun zc107 => ?_)
  · refine gf_iload_n 1 dX12_fact_115 rfl rfl ?_
    refine gf_bipush (62) dX12_fact_116 rfl ?_
    refine gf_icmp_ne 126 dX12_fact_118 rfl (fun zc118 => ?_) (fun zc118 => ?_)
    · refine gf_bipush (13) dX12_fact_126 rfl ?_
      refine gf_callV cmX12_code lkX12_338 imX12_code seX12_code ⟨rfl, by decide⟩ dX12_fact_128 (d1 := d - 1) (by omega) (gt_247 hG) (e_X12_code E 13 h hG M N aT eN bD bP cD wT oP bS cS wS (by omega)) rfl rfl (Nat.le_of_ble_eq_true rfl) ?_
      exact gf_vretE dX12_fact_131 rfl (by rw [show fac3 c0 (aT, eN, bD, bP, cD, wT, oP, bS, cS, wS) = (cdS (aT, eN, bD, bP, cD, wT, oP, bS, cS, wS) 13) from (if_neg zc107).trans (if_neg zc118)]; first | done | rfl)
    · refine gf_bipush (12) dX12_fact_121 rfl ?_
      refine gf_goto 128 dX12_fact_123 rfl ?_
      refine gf_callV cmX12_code lkX12_338 imX12_code seX12_code ⟨rfl, by decide⟩ dX12_fact_128 (d1 := d - 1) (by omega) (gt_247 hG) (e_X12_code E 12 h hG M N aT eN bD bP cD wT oP bS cS wS (by omega)) rfl rfl (Nat.le_of_ble_eq_true rfl) ?_
      exact gf_vretE dX12_fact_131 rfl (by rw [show fac3 c0 (aT, eN, bD, bP, cD, wT, oP, bS, cS, wS) = (cdS (aT, eN, bD, bP, cD, wT, oP, bS, cS, wS) 12) from (if_neg zc107).trans (if_pos zc118)]; first | done | rfl)
  · refine gf_bipush (11) dX12_fact_110 rfl ?_
    refine gf_goto 128 dX12_fact_112 rfl ?_
    refine gf_callV cmX12_code lkX12_338 imX12_code seX12_code ⟨rfl, by decide⟩ dX12_fact_128 (d1 := d - 1) (by omega) (gt_247 hG) (e_X12_code E 11 h hG M N aT eN bD bP cD wT oP bS cS wS (by omega)) rfl rfl (Nat.le_of_ble_eq_true rfl) ?_
    exact gf_vretE dX12_fact_131 rfl (by rw [show fac3 c0 (aT, eN, bD, bP, cD, wT, oP, bS, cS, wS) = (cdS (aT, eN, bD, bP, cD, wT, oP, bS, cS, wS) 11) from if_pos zc107]; first | done | rfl)
def fac2 (M : mM) (L : Nat) : pS → pS := fun (aT, eN, bD, bP, cD, wT, oP, bS, cS, wS) => (if bD = 0 then (if (lkV M L aT) = 60 then (fac3 (lkV M L aT) (sumS M L (((skb M L aT) + 1), eN, bD, bP, cD, wT, oP, bS, cS, wS))) else (if (lkV M L aT) = 62 then (fac3 (lkV M L aT) (sumS M L (((skb M L aT) + 1), eN, bD, bP, cD, wT, oP, bS, cS, wS))) else (if (lkV M L aT) = 61 then (fac3 (lkV M L aT) (sumS M L (((skb M L aT) + 1), eN, bD, bP, cD, wT, oP, bS, cS, wS))) else (flS9 ((skb M L aT), eN, bD, bP, cD, wT, oP, bS, cS, wS) 1 (nI (skb M L aT)))))) else (aT, eN, bD, bP, cD, wT, oP, bS, cS, wS))
theorem l_fac2 (E : gE) {d : Nat} (hd : 6 ≤ d) {L : Nat} (h : hp_T) (hG : gr h) (M : mM) (N : mN) (T : tpI M L) (aT : Nat) (eN bD bP : Int32) (cD wT : Nat) (oP : Int32) (bS : Nat) (cS wS : Nat → Int32) (I0 : rI L (aT, eN, bD, bP, cD, wT, oP, bS, cS, wS)) (hbs : bS < 1000) : gf E mX12_fact d 48 [(0, .ref (E.1 + 247))] [] (hm h (pM M (aT, eN, bD, bP, cD, wT, oP, bS, cS, wS)) N) none (hm h (pM M (fac2 M L (aT, eN, bD, bP, cD, wT, oP, bS, cS, wS))) N) := by
  have hL6 := T.2.1
  have hA0 : aT ≤ L := I0.1
  have hB0 : cD + wT ≤ aT + 2 := I0.2
  refine gf_aload_n 0 dX12_fact_48 rfl rfl ?_
  refine gf_getI flX12_285 rfl dX12_fact_49 (gt_247 hG) ?_
  rw [show hp_i (hm h (pM M (aT, eN, bD, bP, cD, wT, oP, bS, cS, wS)) N) 247 5 = bD from rfl]
  refine gf_if_eq 56 dX12_fact_52 rfl (fun zc52 => ?_) (fun zc52 => ?_)
  · refine gf_aload_n 0 dX12_fact_56 rfl rfl ?_
    refine gf_callV cmX12_look lkX12_297 imX12_look seX12_look ⟨rfl, by decide⟩ dX12_fact_57 (d1 := d - 1) (by omega) (gt_247 hG) (e_X12_look E h hG M N T aT eN bD bP cD wT oP bS cS wS (by omega)) rfl rfl (Nat.le_of_ble_eq_true rfl) ?_
    refine gf_istore_n 1 dX12_fact_60 rfl (Nat.le_of_ble_eq_true rfl) ?_
    refine gf_iload_n 1 dX12_fact_61 rfl rfl ?_
    refine gf_bipush (60) dX12_fact_62 rfl ?_
    refine gf_icmp_eq 89 dX12_fact_64 rfl (fun zc64 => ?_) (fun zc64 => ?_)
    · refine gf_aload_n 0 dX12_fact_89 rfl rfl ?_
      refine gf_dup dX12_fact_90 rfl ?_
      refine gf_getI flX12_291 rfl dX12_fact_91 (gt_247 hG) ?_
      rw [show hp_i (hm h (pM M ((skb M L aT), eN, bD, bP, cD, wT, oP, bS, cS, wS)) N) 247 2 = (nI (skb M L aT)) from rfl]
      refine gf_iconst (1) dX12_fact_94 rfl ?_
      refine gf_iadd dX12_fact_95 ?_
      rw [nI_1 (skb M L aT)]
      refine gf_putI flX12_291 rfl rfl dX12_fact_96 (gt_247 hG) ⟨rfl, rfl⟩ ?_
      rw [mI_0, pM_2]
      have hlt : skb M L aT < L := lkV_lt (by decide) zc64
      have hI9 : rI L (((skb M L aT) + 1), eN, bD, bP, cD, wT, oP, bS, cS, wS) := ⟨hlt, by show cD + wT ≤ skb M L aT + 1 + 2; have := (skb_le (M := M) (L := L) (a := aT)).1; omega⟩
      refine gf_aload_n 0 dX12_fact_99 rfl rfl ?_
      refine gf_callV cmX12_sums lkX12_385 imX12_sums seX12_sums ⟨rfl, by decide⟩ dX12_fact_100 (d1 := d - 1) (by omega) (gt_247 hG) (e_X12_sums E (by omega) h hG M N T (((skb M L aT) + 1), eN, bD, bP, cD, wT, oP, bS, cS, wS) hI9 (by show bS < 1000; omega)) rfl rfl (Nat.le_of_ble_eq_true rfl) ?_
      rw [show fac2 M L (aT, eN, bD, bP, cD, wT, oP, bS, cS, wS) = (fac3 (lkV M L aT) (sumS M L (((skb M L aT) + 1), eN, bD, bP, cD, wT, oP, bS, cS, wS))) from (if_pos zc52).trans (if_pos zc64)]
      exact gf_lw (l_fac3 E hd h hG M N T _ _ _ _ _ _ _ _ _ _ (sumS_T (M := M) T.2.1 hI9).1 (lkV M L aT)) ⟨rfl, rfl, trivial⟩
    · refine gf_iload_n 1 dX12_fact_67 rfl rfl ?_
      refine gf_bipush (62) dX12_fact_68 rfl ?_
      refine gf_icmp_eq 89 dX12_fact_70 rfl (fun zc70 => ?_) (fun zc70 => ?_)
      · refine gf_aload_n 0 dX12_fact_89 rfl rfl ?_
        refine gf_dup dX12_fact_90 rfl ?_
        refine gf_getI flX12_291 rfl dX12_fact_91 (gt_247 hG) ?_
        rw [show hp_i (hm h (pM M ((skb M L aT), eN, bD, bP, cD, wT, oP, bS, cS, wS)) N) 247 2 = (nI (skb M L aT)) from rfl]
        refine gf_iconst (1) dX12_fact_94 rfl ?_
        refine gf_iadd dX12_fact_95 ?_
        rw [nI_1 (skb M L aT)]
        refine gf_putI flX12_291 rfl rfl dX12_fact_96 (gt_247 hG) ⟨rfl, rfl⟩ ?_
        rw [mI_0, pM_2]
        have hlt : skb M L aT < L := lkV_lt (by decide) zc70
        have hI9 : rI L (((skb M L aT) + 1), eN, bD, bP, cD, wT, oP, bS, cS, wS) := ⟨hlt, by show cD + wT ≤ skb M L aT + 1 + 2; have := (skb_le (M := M) (L := L) (a := aT)).1; omega⟩
        refine gf_aload_n 0 dX12_fact_99 rfl rfl ?_
        refine gf_callV cmX12_sums lkX12_385 imX12_sums seX12_sums ⟨rfl, by decide⟩ dX12_fact_100 (d1 := d - 1) (by omega) (gt_247 hG) (e_X12_sums E (by omega) h hG M N T (((skb M L aT) + 1), eN, bD, bP, cD, wT, oP, bS, cS, wS) hI9 (by show bS < 1000; omega)) rfl rfl (Nat.le_of_ble_eq_true rfl) ?_
        rw [show fac2 M L (aT, eN, bD, bP, cD, wT, oP, bS, cS, wS) = (fac3 (lkV M L aT) (sumS M L (((skb M L aT) + 1), eN, bD, bP, cD, wT, oP, bS, cS, wS))) from (if_pos zc52).trans ((if_neg zc64).trans (if_pos zc70))]
        exact gf_lw (l_fac3 E hd h hG M N T _ _ _ _ _ _ _ _ _ _ (sumS_T (M := M) T.2.1 hI9).1 (lkV M L aT)) ⟨rfl, rfl, trivial⟩
      · refine gf_iload_n 1 dX12_fact_73 rfl rfl ?_
        refine gf_bipush (61) dX12_fact_74 rfl ?_
        refine gf_icmp_eq 89 dX12_fact_76 rfl (fun zc76 => ?_) (fun zc76 => ?_)
        · refine gf_aload_n 0 dX12_fact_89 rfl rfl ?_
          refine gf_dup dX12_fact_90 rfl ?_
          refine gf_getI flX12_291 rfl dX12_fact_91 (gt_247 hG) ?_
          rw [show hp_i (hm h (pM M ((skb M L aT), eN, bD, bP, cD, wT, oP, bS, cS, wS)) N) 247 2 = (nI (skb M L aT)) from rfl]
          refine gf_iconst (1) dX12_fact_94 rfl ?_
          refine gf_iadd dX12_fact_95 ?_
          rw [nI_1 (skb M L aT)]
          refine gf_putI flX12_291 rfl rfl dX12_fact_96 (gt_247 hG) ⟨rfl, rfl⟩ ?_
          rw [mI_0, pM_2]
          have hlt : skb M L aT < L := lkV_lt (by decide) zc76
          have hI9 : rI L (((skb M L aT) + 1), eN, bD, bP, cD, wT, oP, bS, cS, wS) := ⟨hlt, by show cD + wT ≤ skb M L aT + 1 + 2; have := (skb_le (M := M) (L := L) (a := aT)).1; omega⟩
          refine gf_aload_n 0 dX12_fact_99 rfl rfl ?_
          refine gf_callV cmX12_sums lkX12_385 imX12_sums seX12_sums ⟨rfl, by decide⟩ dX12_fact_100 (d1 := d - 1) (by omega) (gt_247 hG) (e_X12_sums E (by omega) h hG M N T (((skb M L aT) + 1), eN, bD, bP, cD, wT, oP, bS, cS, wS) hI9 (by show bS < 1000; omega)) rfl rfl (Nat.le_of_ble_eq_true rfl) ?_
          rw [show fac2 M L (aT, eN, bD, bP, cD, wT, oP, bS, cS, wS) = (fac3 (lkV M L aT) (sumS M L (((skb M L aT) + 1), eN, bD, bP, cD, wT, oP, bS, cS, wS))) from (if_pos zc52).trans ((if_neg zc64).trans ((if_neg zc70).trans (if_pos zc76)))]
          exact gf_lw (l_fac3 E hd h hG M N T _ _ _ _ _ _ _ _ _ _ (sumS_T (M := M) T.2.1 hI9).1 (lkV M L aT)) ⟨rfl, rfl, trivial⟩
        · refine gf_aload_n 0 dX12_fact_79 rfl rfl ?_
          refine gf_iconst (1) dX12_fact_80 rfl ?_
          refine gf_aload_n 0 dX12_fact_81 rfl rfl ?_
          refine gf_getI flX12_291 rfl dX12_fact_82 (gt_247 hG) ?_
          rw [show hp_i (hm h (pM M ((skb M L aT), eN, bD, bP, cD, wT, oP, bS, cS, wS)) N) 247 2 = (nI (skb M L aT)) from rfl]
          refine gf_callV cmX12_fail lkX12_315 imX12_fail seX12_fail ⟨rfl, by decide⟩ dX12_fact_85 (d1 := d - 1) (by omega) (gt_247 hG) (e_X12_fail E 1 (nI (skb M L aT)) h hG M N (skb M L aT) eN bD bP cD wT oP bS cS wS) rfl rfl (Nat.le_of_ble_eq_true rfl) ?_
          exact gf_vretE dX12_fact_88 rfl (by rw [show fac2 M L (aT, eN, bD, bP, cD, wT, oP, bS, cS, wS) = (flS9 ((skb M L aT), eN, bD, bP, cD, wT, oP, bS, cS, wS) 1 (nI (skb M L aT))) from (if_pos zc52).trans ((if_neg zc64).trans ((if_neg zc70).trans (if_neg zc76)))]; first | done | rfl)
  · exact gf_vretE dX12_fact_55 rfl (by rw [show fac2 M L (aT, eN, bD, bP, cD, wT, oP, bS, cS, wS) = (aT, eN, bD, bP, cD, wT, oP, bS, cS, wS) from if_neg zc52]; first | done | rfl)
def facS9 (M : mM) (L : Nat) : pS → pS := fun (aT, eN, bD, bP, cD, wT, oP, bS, cS, wS) => (if (bI (hrQ M L (aT, eN, bD, bP, cD, wT, oP, bS, cS, wS) 3 (M 14))) = 0 then (if (bI (hrQ M L (aT, eN, bD, bP, cD, wT, oP, bS, cS, wS) 6 (M 15))) = 0 then (fac2 M L (sumS M L (aT, eN, bD, bP, cD, wT, oP, bS, cS, wS))) else (cdS ((nbV M L (tkS9 M L (aT, eN, bD, bP, cD, wT, oP, bS, cS, wS) 6 (M 15)) 0 8).2) (100 + (nbV M L (tkS9 M L (aT, eN, bD, bP, cD, wT, oP, bS, cS, wS) 6 (M 15)) 0 8).1))) else (cdS (tkS9 M L (aT, eN, bD, bP, cD, wT, oP, bS, cS, wS) 3 (M 14)) 17))
theorem l_fact (E : gE) {d : Nat} (hd : 6 ≤ d) {L : Nat} (h : hp_T) (hG : gr h) (M : mM) (N : mN) (T : tpI M L) (aT : Nat) (eN bD bP : Int32) (cD wT : Nat) (oP : Int32) (bS : Nat) (cS wS : Nat → Int32) (I0 : rI L (aT, eN, bD, bP, cD, wT, oP, bS, cS, wS)) (hbs : bS < 1000) (hs : skb M L aT = aT) : ev E mX12_fact d [.ref (E.1 + 247)] (hm h (pM M (aT, eN, bD, bP, cD, wT, oP, bS, cS, wS)) N) none (hm h (pM M (facS9 M L (aT, eN, bD, bP, cD, wT, oP, bS, cS, wS))) N) := by
  refine ev_of rfl (fun q => absurd q (by decide)) (Nat.le_of_ble_eq_true rfl) ?_
  have hL6 := T.2.1
  have hA0 : aT ≤ L := I0.1
  have hB0 : cD + wT ≤ aT + 2 := I0.2
  refine gf_aload_n 0 dX12_fact_0 rfl rfl ?_
  refine gf_aload_n 0 dX12_fact_1 rfl rfl ?_
  refine gf_getR flX12_54 rfl dX12_fact_2 (gt_247 hG) (gp_247_21 hG) ?_
  refine gf_callV cmX12_takes lkX12_312 imX12_takes seX12_takes ⟨rfl, by decide⟩ dX12_fact_5 (d1 := d - 1) (by omega) (gt_247 hG) (e_X12_takes E (by omega) h hG M N T aT eN bD bP cD wT oP bS cS wS (A := 261) (l := 3) (f := M 14) (gt_261 hG) (gl_261 hG) (fun q j => rfl) (by omega) (by omega)) rfl rfl (Nat.le_of_ble_eq_true rfl) ?_
  refine gf_if_eq 18 dX12_fact_8 rfl (fun zc8 => ?_) (fun zc8 => ?_)
  · rw [show (tkS9 M L (aT, eN, bD, bP, cD, wT, oP, bS, cS, wS) 3 (M 14)) = (aT, eN, bD, bP, cD, wT, oP, bS, cS, wS) from tkS_n hs (by rw [bI_f zc8]; decide)]
    refine gf_aload_n 0 dX12_fact_18 rfl rfl ?_
    refine gf_aload_n 0 dX12_fact_19 rfl rfl ?_
    refine gf_getR flX12_57 rfl dX12_fact_20 (gt_247 hG) (gp_247_22 hG) ?_
    refine gf_callV cmX12_takes lkX12_312 imX12_takes seX12_takes ⟨rfl, by decide⟩ dX12_fact_23 (d1 := d - 1) (by omega) (gt_247 hG) (e_X12_takes E (by omega) h hG M N T aT eN bD bP cD wT oP bS cS wS (A := 262) (l := 6) (f := M 15) (gt_262 hG) (gl_262 hG) (fun q j => rfl) (by omega) (by omega)) rfl rfl (Nat.le_of_ble_eq_true rfl) ?_
    refine gf_if_eq 44 dX12_fact_26 rfl (fun zc26 => ?_) (fun zc26 => ?_)
    · rw [show (tkS9 M L (aT, eN, bD, bP, cD, wT, oP, bS, cS, wS) 6 (M 15)) = (aT, eN, bD, bP, cD, wT, oP, bS, cS, wS) from tkS_n hs (by rw [bI_f zc26]; decide)]
      refine gf_aload_n 0 dX12_fact_44 rfl rfl ?_
      refine gf_callV cmX12_sums lkX12_385 imX12_sums seX12_sums ⟨rfl, by decide⟩ dX12_fact_45 (d1 := d - 1) (by omega) (gt_247 hG) (e_X12_sums E (by omega) h hG M N T (aT, eN, bD, bP, cD, wT, oP, bS, cS, wS) I0 hbs) rfl rfl (Nat.le_of_ble_eq_true rfl) ?_
      rw [show facS9 M L (aT, eN, bD, bP, cD, wT, oP, bS, cS, wS) = (fac2 M L (sumS M L (aT, eN, bD, bP, cD, wT, oP, bS, cS, wS))) from (if_pos zc8).trans (if_pos zc26)]
      have hT9 := sumS_T (M := M) T.2.1 I0
      exact gf_lw (l_fac2 E hd h hG M N T _ _ _ _ _ _ _ _ _ _ hT9.1 (by show bsQ (sumS M L (aT, eN, bD, bP, cD, wT, oP, bS, cS, wS)) < 1000; rw [hT9.2.2.1]; exact hbs)) ⟨rfl, trivial⟩
    · have hTW262 : okT L (aT, eN, bD, bP, cD, wT, oP, bS, cS, wS) (tkS9 M L (aT, eN, bD, bP, cD, wT, oP, bS, cS, wS) 6 (M 15)) := tkS_T I0
      have hIW262 : rI L (tkS9 M L (aT, eN, bD, bP, cD, wT, oP, bS, cS, wS) 6 (M 15)) := hTW262.1
      have hAW262 : (tkS9 M L (aT, eN, bD, bP, cD, wT, oP, bS, cS, wS) 6 (M 15)).1 ≤ L := hIW262.1
      have hPW262 := tkS_P (bI_t zc26)
      have hXW262 : (tkS9 M L (aT, eN, bD, bP, cD, wT, oP, bS, cS, wS) 6 (M 15)).1 = skb M L aT + 6 := congrArg (fun z => z.1) hPW262.1
      have hYW262 : (tkS9 M L (aT, eN, bD, bP, cD, wT, oP, bS, cS, wS) 6 (M 15)).2.2.2.2.1 = cD := congrArg (fun z => z.2.2.2.2.1) hPW262.1
      have hZW262 : (tkS9 M L (aT, eN, bD, bP, cD, wT, oP, bS, cS, wS) 6 (M 15)).2.2.2.2.2.1 = wT := congrArg (fun z => z.2.2.2.2.2.1) hPW262.1
      have hVW262 : aT ≤ skb M L aT := (skb_le (M := M) (L := L) (a := aT)).1
      refine gf_aload_n 0 dX12_fact_29 rfl rfl ?_
      refine gf_bipush (100) dX12_fact_30 rfl ?_
      refine gf_aload_n 0 dX12_fact_32 rfl rfl ?_
      refine gf_iconst (0) dX12_fact_33 rfl ?_
      refine gf_bipush (8) dX12_fact_34 rfl ?_
      refine gf_callV cmX12_number lkX12_365 imX12_number seX12_number ⟨rfl, by decide⟩ dX12_fact_36 (d1 := d - 1) (by omega) (gt_247 hG) (e_X12_number E (by omega) h hG M N T ((tkS9 M L (aT, eN, bD, bP, cD, wT, oP, bS, cS, wS) 6 (M 15)).1) ((tkS9 M L (aT, eN, bD, bP, cD, wT, oP, bS, cS, wS) 6 (M 15)).2.1) ((tkS9 M L (aT, eN, bD, bP, cD, wT, oP, bS, cS, wS) 6 (M 15)).2.2.1) ((tkS9 M L (aT, eN, bD, bP, cD, wT, oP, bS, cS, wS) 6 (M 15)).2.2.2.1) ((tkS9 M L (aT, eN, bD, bP, cD, wT, oP, bS, cS, wS) 6 (M 15)).2.2.2.2.1) ((tkS9 M L (aT, eN, bD, bP, cD, wT, oP, bS, cS, wS) 6 (M 15)).2.2.2.2.2.1) ((tkS9 M L (aT, eN, bD, bP, cD, wT, oP, bS, cS, wS) 6 (M 15)).2.2.2.2.2.2.1) ((tkS9 M L (aT, eN, bD, bP, cD, wT, oP, bS, cS, wS) 6 (M 15)).2.2.2.2.2.2.2.1) ((tkS9 M L (aT, eN, bD, bP, cD, wT, oP, bS, cS, wS) 6 (M 15)).2.2.2.2.2.2.2.2.1) ((tkS9 M L (aT, eN, bD, bP, cD, wT, oP, bS, cS, wS) 6 (M 15)).2.2.2.2.2.2.2.2.2) 0 8 (by omega)) rfl rfl (Nat.le_of_ble_eq_true rfl) ?_
      have hq9 : (nbV M L (tkS9 M L (aT, eN, bD, bP, cD, wT, oP, bS, cS, wS) 6 (M 15)) 0 8).2.2.2.2.2.1 = (tkS9 M L (aT, eN, bD, bP, cD, wT, oP, bS, cS, wS) 6 (M 15)).2.2.2.2.1 := nbV_c
      refine gf_iadd dX12_fact_39 ?_
      refine gf_callV cmX12_code lkX12_338 imX12_code seX12_code ⟨rfl, by decide⟩ dX12_fact_40 (d1 := d - 1) (by omega) (gt_247 hG) (e_X12_code E (100 + (nbV M L (tkS9 M L (aT, eN, bD, bP, cD, wT, oP, bS, cS, wS) 6 (M 15)) 0 8).1) h hG M N (((nbV M L (tkS9 M L (aT, eN, bD, bP, cD, wT, oP, bS, cS, wS) 6 (M 15)) 0 8).2).1) (((nbV M L (tkS9 M L (aT, eN, bD, bP, cD, wT, oP, bS, cS, wS) 6 (M 15)) 0 8).2).2.1) (((nbV M L (tkS9 M L (aT, eN, bD, bP, cD, wT, oP, bS, cS, wS) 6 (M 15)) 0 8).2).2.2.1) (((nbV M L (tkS9 M L (aT, eN, bD, bP, cD, wT, oP, bS, cS, wS) 6 (M 15)) 0 8).2).2.2.2.1) (((nbV M L (tkS9 M L (aT, eN, bD, bP, cD, wT, oP, bS, cS, wS) 6 (M 15)) 0 8).2).2.2.2.2.1) (((nbV M L (tkS9 M L (aT, eN, bD, bP, cD, wT, oP, bS, cS, wS) 6 (M 15)) 0 8).2).2.2.2.2.2.1) (((nbV M L (tkS9 M L (aT, eN, bD, bP, cD, wT, oP, bS, cS, wS) 6 (M 15)) 0 8).2).2.2.2.2.2.2.1) (((nbV M L (tkS9 M L (aT, eN, bD, bP, cD, wT, oP, bS, cS, wS) 6 (M 15)) 0 8).2).2.2.2.2.2.2.2.1) (((nbV M L (tkS9 M L (aT, eN, bD, bP, cD, wT, oP, bS, cS, wS) 6 (M 15)) 0 8).2).2.2.2.2.2.2.2.2.1) (((nbV M L (tkS9 M L (aT, eN, bD, bP, cD, wT, oP, bS, cS, wS) 6 (M 15)) 0 8).2).2.2.2.2.2.2.2.2.2) (by omega)) rfl rfl (Nat.le_of_ble_eq_true rfl) ?_
      exact gf_vretE dX12_fact_43 rfl (by rw [show facS9 M L (aT, eN, bD, bP, cD, wT, oP, bS, cS, wS) = (cdS ((nbV M L (tkS9 M L (aT, eN, bD, bP, cD, wT, oP, bS, cS, wS) 6 (M 15)) 0 8).2) (100 + (nbV M L (tkS9 M L (aT, eN, bD, bP, cD, wT, oP, bS, cS, wS) 6 (M 15)) 0 8).1)) from (if_pos zc8).trans (if_neg zc26)]; first | done | rfl)
  · have hTW261 : okT L (aT, eN, bD, bP, cD, wT, oP, bS, cS, wS) (tkS9 M L (aT, eN, bD, bP, cD, wT, oP, bS, cS, wS) 3 (M 14)) := tkS_T I0
    have hIW261 : rI L (tkS9 M L (aT, eN, bD, bP, cD, wT, oP, bS, cS, wS) 3 (M 14)) := hTW261.1
    have hAW261 : (tkS9 M L (aT, eN, bD, bP, cD, wT, oP, bS, cS, wS) 3 (M 14)).1 ≤ L := hIW261.1
    have hPW261 := tkS_P (bI_t zc8)
    have hXW261 : (tkS9 M L (aT, eN, bD, bP, cD, wT, oP, bS, cS, wS) 3 (M 14)).1 = skb M L aT + 3 := congrArg (fun z => z.1) hPW261.1
    have hYW261 : (tkS9 M L (aT, eN, bD, bP, cD, wT, oP, bS, cS, wS) 3 (M 14)).2.2.2.2.1 = cD := congrArg (fun z => z.2.2.2.2.1) hPW261.1
    have hZW261 : (tkS9 M L (aT, eN, bD, bP, cD, wT, oP, bS, cS, wS) 3 (M 14)).2.2.2.2.2.1 = wT := congrArg (fun z => z.2.2.2.2.2.1) hPW261.1
    have hVW261 : aT ≤ skb M L aT := (skb_le (M := M) (L := L) (a := aT)).1
    refine gf_aload_n 0 dX12_fact_11 rfl rfl ?_
    refine gf_bipush (17) dX12_fact_12 rfl ?_
    refine gf_callV cmX12_code lkX12_338 imX12_code seX12_code ⟨rfl, by decide⟩ dX12_fact_14 (d1 := d - 1) (by omega) (gt_247 hG) (e_X12_code E 17 h hG M N ((tkS9 M L (aT, eN, bD, bP, cD, wT, oP, bS, cS, wS) 3 (M 14)).1) ((tkS9 M L (aT, eN, bD, bP, cD, wT, oP, bS, cS, wS) 3 (M 14)).2.1) ((tkS9 M L (aT, eN, bD, bP, cD, wT, oP, bS, cS, wS) 3 (M 14)).2.2.1) ((tkS9 M L (aT, eN, bD, bP, cD, wT, oP, bS, cS, wS) 3 (M 14)).2.2.2.1) ((tkS9 M L (aT, eN, bD, bP, cD, wT, oP, bS, cS, wS) 3 (M 14)).2.2.2.2.1) ((tkS9 M L (aT, eN, bD, bP, cD, wT, oP, bS, cS, wS) 3 (M 14)).2.2.2.2.2.1) ((tkS9 M L (aT, eN, bD, bP, cD, wT, oP, bS, cS, wS) 3 (M 14)).2.2.2.2.2.2.1) ((tkS9 M L (aT, eN, bD, bP, cD, wT, oP, bS, cS, wS) 3 (M 14)).2.2.2.2.2.2.2.1) ((tkS9 M L (aT, eN, bD, bP, cD, wT, oP, bS, cS, wS) 3 (M 14)).2.2.2.2.2.2.2.2.1) ((tkS9 M L (aT, eN, bD, bP, cD, wT, oP, bS, cS, wS) 3 (M 14)).2.2.2.2.2.2.2.2.2) (by omega)) rfl rfl (Nat.le_of_ble_eq_true rfl) ?_
    exact gf_vretE dX12_fact_17 rfl (by rw [show facS9 M L (aT, eN, bD, bP, cD, wT, oP, bS, cS, wS) = (cdS (tkS9 M L (aT, eN, bD, bP, cD, wT, oP, bS, cS, wS) 3 (M 14)) 17) from if_neg zc8]; first | done | rfl)
theorem e_X12_fact (E : gE) {d : Nat} (hd : 6 ≤ d) {L : Nat} (h : hp_T) (hG : gr h) (M : mM) (N : mN) (T : tpI M L) (q : pS) (I0 : rI L q) (hbs : bsQ q < 1000) (hs : skb M L q.1 = q.1) : ev E mX12_fact d [.ref (E.1 + 247)] (hm h (pM M q) N) none (hm h (pM M (facS9 M L q)) N) := l_fact E hd h hG M N T _ _ _ _ _ _ _ _ _ _ I0 hbs hs
