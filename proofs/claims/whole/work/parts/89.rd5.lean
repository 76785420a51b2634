/-! ===== the reference's reader: behind a part ===== -/
theorem l_dts (E : gE) {d : Nat} (hd : 2 ≤ d) (h : hp_T) (hG : gr h) (M : mM) (N : mN) (aT : Nat) (eN bD bP oP : Int32) (bS : Nat) (wS : Nat → Int32) (x0 : Int32) {v : Option Value} {hz : hp_T} {r : Nat × Nat × (Nat → Int32)} (K : gf E mX12_goesOn d 181 [(0, .ref (E.1 + 247)), (1, .int x0)] [] (hm h (pM M (aT, eN, bD, bP, r.2.1, r.1, oP, bS, r.2.2, wS)) N) v hz) : ∀ (w c : Nat) (s : Nat → Int32), w ≤ 700 → w + c ≤ 100000 → (dwS wS (fun i => decide (wS i = 3) || decide (wS i = 4)) w c s) = r → gf E mX12_goesOn d 158 [(0, .ref (E.1 + 247)), (1, .int x0)] [] (hm h (pM M (aT, eN, bD, bP, c, w, oP, bS, s, wS)) N) v hz := by
  intro w
  induction w with
  | zero =>
    intro c s _ _ hr
    subst hr
    refine gf_aload_n 0 dX12_goesOn_158 rfl rfl ?_
    refine gf_iconst (3) dX12_goesOn_159 rfl ?_
    refine gf_callV cmX12_isOn lkX12_375 imX12_isOn seX12_isOn ⟨rfl, by decide⟩ dX12_goesOn_160 (d1 := d - 1) (by omega) (gt_247 hG) (e_X12_isOn E 3 h hG M N aT eN bD bP c 0 oP bS s wS (by omega)) rfl rfl (Nat.le_of_ble_eq_true rfl) ?_
    refine gf_if_ne 174 dX12_goesOn_163 rfl (fun q => absurd (rfl) q) (fun _ => ?_)
    refine gf_aload_n 0 dX12_goesOn_166 rfl rfl ?_
    refine gf_iconst (4) dX12_goesOn_167 rfl ?_
    refine gf_callV cmX12_isOn lkX12_375 imX12_isOn seX12_isOn ⟨rfl, by decide⟩ dX12_goesOn_168 (d1 := d - 1) (by omega) (gt_247 hG) (e_X12_isOn E 4 h hG M N aT eN bD bP c 0 oP bS s wS (by omega)) rfl rfl (Nat.le_of_ble_eq_true rfl) ?_
    refine gf_if_eq 181 dX12_goesOn_171 rfl (fun _ => ?_) (fun q => absurd (rfl) q)
    exact gf_lw K ⟨rfl, rfl, trivial⟩
  | succ w ih =>
    intro c s hw hc hr
    refine gf_aload_n 0 dX12_goesOn_158 rfl rfl ?_
    refine gf_iconst (3) dX12_goesOn_159 rfl ?_
    refine gf_callV cmX12_isOn lkX12_375 imX12_isOn seX12_isOn ⟨rfl, by decide⟩ dX12_goesOn_160 (d1 := d - 1) (by omega) (gt_247 hG) (e_X12_isOn E 3 h hG M N aT eN bD bP c (w + 1) oP bS s wS (by omega)) rfl rfl (Nat.le_of_ble_eq_true rfl) ?_
    refine gf_if_ne 174 dX12_goesOn_163 rfl (fun zc163 => ?_) (fun zc163 => ?_)
    · refine gf_aload_n 0 dX12_goesOn_174 rfl rfl ?_
      refine gf_callV cmX12_drops lkX12_348 imX12_drops seX12_drops ⟨rfl, by decide⟩ dX12_goesOn_175 (d1 := d - 1) (by omega) (gt_247 hG) (e_X12_drops E (by omega) h hG M N aT eN bD bP c (w + 1) oP bS s wS (by omega) (by omega) (by omega)) rfl rfl (Nat.le_of_ble_eq_true rfl) ?_
      refine gf_goto 158 dX12_goesOn_178 rfl ?_
      rw [show dwS wS (fun i => decide (wS i = 3) || decide (wS i = 4)) (w + 1) c s = dwS wS (fun i => decide (wS i = 3) || decide (wS i = 4)) w (c + 1) (va_up s c (wS w)) from if_pos (by show (decide (wS w = 3) || decide (wS w = 4)) = true; rw [(show decide (wS w = 3) = true from bI_t zc163)]; rfl)] at hr
      exact gf_lw (ih (c + 1) (va_up s c (wS w)) (by omega) (by omega) hr) ⟨rfl, rfl, trivial⟩
    · refine gf_aload_n 0 dX12_goesOn_166 rfl rfl ?_
      refine gf_iconst (4) dX12_goesOn_167 rfl ?_
      refine gf_callV cmX12_isOn lkX12_375 imX12_isOn seX12_isOn ⟨rfl, by decide⟩ dX12_goesOn_168 (d1 := d - 1) (by omega) (gt_247 hG) (e_X12_isOn E 4 h hG M N aT eN bD bP c (w + 1) oP bS s wS (by omega)) rfl rfl (Nat.le_of_ble_eq_true rfl) ?_
      refine gf_if_eq 181 dX12_goesOn_171 rfl (fun zc171 => ?_) (fun zc171 => ?_)
      · rw [show dwS wS (fun i => decide (wS i = 3) || decide (wS i = 4)) (w + 1) c s = (w + 1, c, s) from if_neg (by show ¬ (decide (wS w = 3) || decide (wS w = 4)) = true; rw [(show decide (wS w = 3) = false from bI_f zc163), (show decide (wS w = 4) = false from bI_f zc171)]; exact fun q => Bool.noConfusion (show false = true from q))] at hr
        subst hr
        exact gf_lw K ⟨rfl, rfl, trivial⟩
      · refine gf_aload_n 0 dX12_goesOn_174 rfl rfl ?_
        refine gf_callV cmX12_drops lkX12_348 imX12_drops seX12_drops ⟨rfl, by decide⟩ dX12_goesOn_175 (d1 := d - 1) (by omega) (gt_247 hG) (e_X12_drops E (by omega) h hG M N aT eN bD bP c (w + 1) oP bS s wS (by omega) (by omega) (by omega)) rfl rfl (Nat.le_of_ble_eq_true rfl) ?_
        refine gf_goto 158 dX12_goesOn_178 rfl ?_
        rw [show dwS wS (fun i => decide (wS i = 3) || decide (wS i = 4)) (w + 1) c s = dwS wS (fun i => decide (wS i = 3) || decide (wS i = 4)) w (c + 1) (va_up s c (wS w)) from if_pos (by show (decide (wS w = 3) || decide (wS w = 4)) = true; rw [(show decide (wS w = 3) = false from bI_f zc163), (show decide (wS w = 4) = true from bI_t zc171)]; rfl)] at hr
        exact gf_lw (ih (c + 1) (va_up s c (wS w)) (by omega) (by omega) hr) ⟨rfl, rfl, trivial⟩
theorem l_das (E : gE) {d : Nat} (hd : 2 ≤ d) (h : hp_T) (hG : gr h) (M : mM) (N : mN) (aT : Nat) (eN bD bP oP : Int32) (bS : Nat) (wS : Nat → Int32) (x0 : Int32) {v : Option Value} {hz : hp_T} {r : Nat × Nat × (Nat → Int32)} (K : gf E mX12_goesOn d 282 [(0, .ref (E.1 + 247)), (1, .int x0)] [] (hm h (pM M (aT, eN, bD, bP, r.2.1, r.1, oP, bS, r.2.2, wS)) N) v hz) : ∀ (w c : Nat) (s : Nat → Int32), w ≤ 700 → w + c ≤ 100000 → (dwS wS (fun i => decide (wS i = 3) || decide (wS i = 4) || decide (wS i = 1) || decide (wS i = 2)) w c s) = r → gf E mX12_goesOn d 243 [(0, .ref (E.1 + 247)), (1, .int x0)] [] (hm h (pM M (aT, eN, bD, bP, c, w, oP, bS, s, wS)) N) v hz := by
  intro w
  induction w with
  | zero =>
    intro c s _ _ hr
    subst hr
    refine gf_aload_n 0 dX12_goesOn_243 rfl rfl ?_
    refine gf_iconst (3) dX12_goesOn_244 rfl ?_
    refine gf_callV cmX12_isOn lkX12_375 imX12_isOn seX12_isOn ⟨rfl, by decide⟩ dX12_goesOn_245 (d1 := d - 1) (by omega) (gt_247 hG) (e_X12_isOn E 3 h hG M N aT eN bD bP c 0 oP bS s wS (by omega)) rfl rfl (Nat.le_of_ble_eq_true rfl) ?_
    refine gf_if_ne 275 dX12_goesOn_248 rfl (fun q => absurd (rfl) q) (fun _ => ?_)
    refine gf_aload_n 0 dX12_goesOn_251 rfl rfl ?_
    refine gf_iconst (4) dX12_goesOn_252 rfl ?_
    refine gf_callV cmX12_isOn lkX12_375 imX12_isOn seX12_isOn ⟨rfl, by decide⟩ dX12_goesOn_253 (d1 := d - 1) (by omega) (gt_247 hG) (e_X12_isOn E 4 h hG M N aT eN bD bP c 0 oP bS s wS (by omega)) rfl rfl (Nat.le_of_ble_eq_true rfl) ?_
    refine gf_if_ne 275 dX12_goesOn_256 rfl (fun q => absurd (rfl) q) (fun _ => ?_)
    refine gf_aload_n 0 dX12_goesOn_259 rfl rfl ?_
    refine gf_iconst (1) dX12_goesOn_260 rfl ?_
    refine gf_callV cmX12_isOn lkX12_375 imX12_isOn seX12_isOn ⟨rfl, by decide⟩ dX12_goesOn_261 (d1 := d - 1) (by omega) (gt_247 hG) (e_X12_isOn E 1 h hG M N aT eN bD bP c 0 oP bS s wS (by omega)) rfl rfl (Nat.le_of_ble_eq_true rfl) ?_
    refine gf_if_ne 275 dX12_goesOn_264 rfl (fun q => absurd (rfl) q) (fun _ => ?_)
    refine gf_aload_n 0 dX12_goesOn_267 rfl rfl ?_
    refine gf_iconst (2) dX12_goesOn_268 rfl ?_
    refine gf_callV cmX12_isOn lkX12_375 imX12_isOn seX12_isOn ⟨rfl, by decide⟩ dX12_goesOn_269 (d1 := d - 1) (by omega) (gt_247 hG) (e_X12_isOn E 2 h hG M N aT eN bD bP c 0 oP bS s wS (by omega)) rfl rfl (Nat.le_of_ble_eq_true rfl) ?_
    refine gf_if_eq 282 dX12_goesOn_272 rfl (fun _ => ?_) (fun q => absurd (rfl) q)
    exact gf_lw K ⟨rfl, rfl, trivial⟩
  | succ w ih =>
    intro c s hw hc hr
    refine gf_aload_n 0 dX12_goesOn_243 rfl rfl ?_
    refine gf_iconst (3) dX12_goesOn_244 rfl ?_
    refine gf_callV cmX12_isOn lkX12_375 imX12_isOn seX12_isOn ⟨rfl, by decide⟩ dX12_goesOn_245 (d1 := d - 1) (by omega) (gt_247 hG) (e_X12_isOn E 3 h hG M N aT eN bD bP c (w + 1) oP bS s wS (by omega)) rfl rfl (Nat.le_of_ble_eq_true rfl) ?_
    refine gf_if_ne 275 dX12_goesOn_248 rfl (fun zc248 => ?_) (fun zc248 => ?_)
    · refine gf_aload_n 0 dX12_goesOn_275 rfl rfl ?_
      refine gf_callV cmX12_drops lkX12_348 imX12_drops seX12_drops ⟨rfl, by decide⟩ dX12_goesOn_276 (d1 := d - 1) (by omega) (gt_247 hG) (e_X12_drops E (by omega) h hG M N aT eN bD bP c (w + 1) oP bS s wS (by omega) (by omega) (by omega)) rfl rfl (Nat.le_of_ble_eq_true rfl) ?_
      refine gf_goto 243 dX12_goesOn_279 rfl ?_
      rw [show dwS wS (fun i => decide (wS i = 3) || decide (wS i = 4) || decide (wS i = 1) || decide (wS i = 2)) (w + 1) c s = dwS wS (fun i => decide (wS i = 3) || decide (wS i = 4) || decide (wS i = 1) || decide (wS i = 2)) w (c + 1) (va_up s c (wS w)) from if_pos (by show (decide (wS w = 3) || decide (wS w = 4) || decide (wS w = 1) || decide (wS w = 2)) = true; rw [(show decide (wS w = 3) = true from bI_t zc248)]; rfl)] at hr
      exact gf_lw (ih (c + 1) (va_up s c (wS w)) (by omega) (by omega) hr) ⟨rfl, rfl, trivial⟩
    · refine gf_aload_n 0 dX12_goesOn_251 rfl rfl ?_
      refine gf_iconst (4) dX12_goesOn_252 rfl ?_
      refine gf_callV cmX12_isOn lkX12_375 imX12_isOn seX12_isOn ⟨rfl, by decide⟩ dX12_goesOn_253 (d1 := d - 1) (by omega) (gt_247 hG) (e_X12_isOn E 4 h hG M N aT eN bD bP c (w + 1) oP bS s wS (by omega)) rfl rfl (Nat.le_of_ble_eq_true rfl) ?_
      refine gf_if_ne 275 dX12_goesOn_256 rfl (fun zc256 => ?_) (fun zc256 => ?_)
      · refine gf_aload_n 0 dX12_goesOn_275 rfl rfl ?_
        refine gf_callV cmX12_drops lkX12_348 imX12_drops seX12_drops ⟨rfl, by decide⟩ dX12_goesOn_276 (d1 := d - 1) (by omega) (gt_247 hG) (e_X12_drops E (by omega) h hG M N aT eN bD bP c (w + 1) oP bS s wS (by omega) (by omega) (by omega)) rfl rfl (Nat.le_of_ble_eq_true rfl) ?_
        refine gf_goto 243 dX12_goesOn_279 rfl ?_
        rw [show dwS wS (fun i => decide (wS i = 3) || decide (wS i = 4) || decide (wS i = 1) || decide (wS i = 2)) (w + 1) c s = dwS wS (fun i => decide (wS i = 3) || decide (wS i = 4) || decide (wS i = 1) || decide (wS i = 2)) w (c + 1) (va_up s c (wS w)) from if_pos (by show (decide (wS w = 3) || decide (wS w = 4) || decide (wS w = 1) || decide (wS w = 2)) = true; rw [(show decide (wS w = 3) = false from bI_f zc248), (show decide (wS w = 4) = true from bI_t zc256)]; rfl)] at hr
        exact gf_lw (ih (c + 1) (va_up s c (wS w)) (by omega) (by omega) hr) ⟨rfl, rfl, trivial⟩
      · refine gf_aload_n 0 dX12_goesOn_259 rfl rfl ?_
        refine gf_iconst (1) dX12_goesOn_260 rfl ?_
        refine gf_callV cmX12_isOn lkX12_375 imX12_isOn seX12_isOn ⟨rfl, by decide⟩ dX12_goesOn_261 (d1 := d - 1) (by omega) (gt_247 hG) (e_X12_isOn E 1 h hG M N aT eN bD bP c (w + 1) oP bS s wS (by omega)) rfl rfl (Nat.le_of_ble_eq_true rfl) ?_
        refine gf_if_ne 275 dX12_goesOn_264 rfl (fun zc264 => ?_) (fun zc264 => ?_)
        · refine gf_aload_n 0 dX12_goesOn_275 rfl rfl ?_
          refine gf_callV cmX12_drops lkX12_348 imX12_drops seX12_drops ⟨rfl, by decide⟩ dX12_goesOn_276 (d1 := d - 1) (by omega) (gt_247 hG) (e_X12_drops E (by omega) h hG M N aT eN bD bP c (w + 1) oP bS s wS (by omega) (by omega) (by omega)) rfl rfl (Nat.le_of_ble_eq_true rfl) ?_
          refine gf_goto 243 dX12_goesOn_279 rfl ?_
          rw [show dwS wS (fun i => decide (wS i = 3) || decide (wS i = 4) || decide (wS i = 1) || decide (wS i = 2)) (w + 1) c s = dwS wS (fun i => decide (wS i = 3) || decide (wS i = 4) || decide (wS i = 1) || decide (wS i = 2)) w (c + 1) (va_up s c (wS w)) from if_pos (by show (decide (wS w = 3) || decide (wS w = 4) || decide (wS w = 1) || decide (wS w = 2)) = true; rw [(show decide (wS w = 3) = false from bI_f zc248), (show decide (wS w = 4) = false from bI_f zc256), (show decide (wS w = 1) = true from bI_t zc264)]; rfl)] at hr
          exact gf_lw (ih (c + 1) (va_up s c (wS w)) (by omega) (by omega) hr) ⟨rfl, rfl, trivial⟩
        · refine gf_aload_n 0 dX12_goesOn_267 rfl rfl ?_
          refine gf_iconst (2) dX12_goesOn_268 rfl ?_
          refine gf_callV cmX12_isOn lkX12_375 imX12_isOn seX12_isOn ⟨rfl, by decide⟩ dX12_goesOn_269 (d1 := d - 1) (by omega) (gt_247 hG) (e_X12_isOn E 2 h hG M N aT eN bD bP c (w + 1) oP bS s wS (by omega)) rfl rfl (Nat.le_of_ble_eq_true rfl) ?_
          refine gf_if_eq 282 dX12_goesOn_272 rfl (fun zc272 => ?_) (fun zc272 => ?_)
          · rw [show dwS wS (fun i => decide (wS i = 3) || decide (wS i = 4) || decide (wS i = 1) || decide (wS i = 2)) (w + 1) c s = (w + 1, c, s) from if_neg (by show ¬ (decide (wS w = 3) || decide (wS w = 4) || decide (wS w = 1) || decide (wS w = 2)) = true; rw [(show decide (wS w = 3) = false from bI_f zc248), (show decide (wS w = 4) = false from bI_f zc256), (show decide (wS w = 1) = false from bI_f zc264), (show decide (wS w = 2) = false from bI_f zc272)]; exact fun q => Bool.noConfusion (show false = true from q))] at hr
            subst hr
            exact gf_lw K ⟨rfl, rfl, trivial⟩
          · refine gf_aload_n 0 dX12_goesOn_275 rfl rfl ?_
            refine gf_callV cmX12_drops lkX12_348 imX12_drops seX12_drops ⟨rfl, by decide⟩ dX12_goesOn_276 (d1 := d - 1) (by omega) (gt_247 hG) (e_X12_drops E (by omega) h hG M N aT eN bD bP c (w + 1) oP bS s wS (by omega) (by omega) (by omega)) rfl rfl (Nat.le_of_ble_eq_true rfl) ?_
            refine gf_goto 243 dX12_goesOn_279 rfl ?_
            rw [show dwS wS (fun i => decide (wS i = 3) || decide (wS i = 4) || decide (wS i = 1) || decide (wS i = 2)) (w + 1) c s = dwS wS (fun i => decide (wS i = 3) || decide (wS i = 4) || decide (wS i = 1) || decide (wS i = 2)) w (c + 1) (va_up s c (wS w)) from if_pos (by show (decide (wS w = 3) || decide (wS w = 4) || decide (wS w = 1) || decide (wS w = 2)) = true; rw [(show decide (wS w = 3) = false from bI_f zc248), (show decide (wS w = 4) = false from bI_f zc256), (show decide (wS w = 1) = false from bI_f zc264), (show decide (wS w = 2) = true from bI_t zc272)]; rfl)] at hr
            exact gf_lw (ih (c + 1) (va_up s c (wS w)) (by omega) (by omega) hr) ⟨rfl, rfl, trivial⟩
theorem agS_r {M : mM} {L : Nat} {q : pS} {c : Int32} : (agS M L q c).2.2.2.2 = q.2.2.2.2 := by
  have h : (tgS M L q c).2.2.2.2 = q.2.2.2.2 := by
    unfold tgS
    split
    · split <;> rfl
    · rfl
  unfold agS
  split
  · split
    · exact h
    · rw [(flS_c _ _ _).2]; exact h
  · rfl
/-- behind the closings: whether it goes on -/
def gsR (M : mM) (L : Nat) : pS → Bool × pS := fun (aT, eN, bD, bP, cD, wT, oP, bS, cS, wS) => (if (bI (tgQ M L (aT, eN, bD, bP, cD, wT, oP, bS, cS, wS) 42)) = 0 then (if (bI (tgQ M L (aT, eN, bD, bP, cD, wT, oP, bS, cS, wS) 47)) = 0 then (if (bI (tgQ M L (aT, eN, bD, bP, cD, wT, oP, bS, cS, wS) 43)) = 0 then (if (bI (tgQ M L (aT, eN, bD, bP, cD, wT, oP, bS, cS, wS) 45)) = 0 then (if (mkV (aT, eN, bD, bP, cD, wT, oP, bS, cS, wS)) = 21 then (if (agS M L (aT, eN, bD, bP, cD, wT, oP, bS, cS, wS) 44).2.2.1 = 0 then (true, (s9 (dwQ (agS M L (aT, eN, bD, bP, cD, wT, oP, bS, cS, wS) 44) (tmP (agS M L (aT, eN, bD, bP, cD, wT, oP, bS, cS, wS) 44).2.2.2.2.2.2.2.1 (agS M L (aT, eN, bD, bP, cD, wT, oP, bS, cS, wS) 44).2.2.2.2.2.2.2.2.2)) (va_up ((dwQ (agS M L (aT, eN, bD, bP, cD, wT, oP, bS, cS, wS) 44) (tmP (agS M L (aT, eN, bD, bP, cD, wT, oP, bS, cS, wS) 44).2.2.2.2.2.2.2.1 (agS M L (aT, eN, bD, bP, cD, wT, oP, bS, cS, wS) 44).2.2.2.2.2.2.2.2.2)).2.2.2.2.2.2.2.2.2) ((dwQ (agS M L (aT, eN, bD, bP, cD, wT, oP, bS, cS, wS) 44) (tmP (agS M L (aT, eN, bD, bP, cD, wT, oP, bS, cS, wS) 44).2.2.2.2.2.2.2.1 (agS M L (aT, eN, bD, bP, cD, wT, oP, bS, cS, wS) 44).2.2.2.2.2.2.2.2.2)).2.2.2.2.2.1 - 1) (((dwQ (agS M L (aT, eN, bD, bP, cD, wT, oP, bS, cS, wS) 44) (tmP (agS M L (aT, eN, bD, bP, cD, wT, oP, bS, cS, wS) 44).2.2.2.2.2.2.2.1 (agS M L (aT, eN, bD, bP, cD, wT, oP, bS, cS, wS) 44).2.2.2.2.2.2.2.2.2)).2.2.2.2.2.2.2.2.2 ((dwQ (agS M L (aT, eN, bD, bP, cD, wT, oP, bS, cS, wS) 44) (tmP (agS M L (aT, eN, bD, bP, cD, wT, oP, bS, cS, wS) 44).2.2.2.2.2.2.2.1 (agS M L (aT, eN, bD, bP, cD, wT, oP, bS, cS, wS) 44).2.2.2.2.2.2.2.2.2)).2.2.2.2.2.1 - 1)) + 2)))) else (false, (agS M L (aT, eN, bD, bP, cD, wT, oP, bS, cS, wS) 44))) else (if (mkV (aT, eN, bD, bP, cD, wT, oP, bS, cS, wS)) = 22 then (if (agS M L (aT, eN, bD, bP, cD, wT, oP, bS, cS, wS) 44).2.2.1 = 0 then (true, (s9 (dwQ (agS M L (aT, eN, bD, bP, cD, wT, oP, bS, cS, wS) 44) (tmP (agS M L (aT, eN, bD, bP, cD, wT, oP, bS, cS, wS) 44).2.2.2.2.2.2.2.1 (agS M L (aT, eN, bD, bP, cD, wT, oP, bS, cS, wS) 44).2.2.2.2.2.2.2.2.2)) (va_up ((dwQ (agS M L (aT, eN, bD, bP, cD, wT, oP, bS, cS, wS) 44) (tmP (agS M L (aT, eN, bD, bP, cD, wT, oP, bS, cS, wS) 44).2.2.2.2.2.2.2.1 (agS M L (aT, eN, bD, bP, cD, wT, oP, bS, cS, wS) 44).2.2.2.2.2.2.2.2.2)).2.2.2.2.2.2.2.2.2) ((dwQ (agS M L (aT, eN, bD, bP, cD, wT, oP, bS, cS, wS) 44) (tmP (agS M L (aT, eN, bD, bP, cD, wT, oP, bS, cS, wS) 44).2.2.2.2.2.2.2.1 (agS M L (aT, eN, bD, bP, cD, wT, oP, bS, cS, wS) 44).2.2.2.2.2.2.2.2.2)).2.2.2.2.2.1 - 1) (((dwQ (agS M L (aT, eN, bD, bP, cD, wT, oP, bS, cS, wS) 44) (tmP (agS M L (aT, eN, bD, bP, cD, wT, oP, bS, cS, wS) 44).2.2.2.2.2.2.2.1 (agS M L (aT, eN, bD, bP, cD, wT, oP, bS, cS, wS) 44).2.2.2.2.2.2.2.2.2)).2.2.2.2.2.2.2.2.2 ((dwQ (agS M L (aT, eN, bD, bP, cD, wT, oP, bS, cS, wS) 44) (tmP (agS M L (aT, eN, bD, bP, cD, wT, oP, bS, cS, wS) 44).2.2.2.2.2.2.2.1 (agS M L (aT, eN, bD, bP, cD, wT, oP, bS, cS, wS) 44).2.2.2.2.2.2.2.2.2)).2.2.2.2.2.1 - 1)) + 2)))) else (false, (agS M L (aT, eN, bD, bP, cD, wT, oP, bS, cS, wS) 44))) else (if (mkV (aT, eN, bD, bP, cD, wT, oP, bS, cS, wS)) = (-1) then (false, (aT, eN, bD, bP, cD, wT, oP, bS, cS, wS)) else (if bD = 0 then (false, (flS9 (aT, eN, bD, bP, cD, wT, oP, bS, cS, wS) 1 (nI aT))) else (false, (aT, eN, bD, bP, cD, wT, oP, bS, cS, wS)))))) else (true, (s9 (s5 (dwQ ((aT + 1), eN, bD, bP, cD, wT, oP, bS, cS, wS) (fun i => decide (wS i = 3) || decide (wS i = 4) || decide (wS i = 1) || decide (wS i = 2))) (((dwQ ((aT + 1), eN, bD, bP, cD, wT, oP, bS, cS, wS) (fun i => decide (wS i = 3) || decide (wS i = 4) || decide (wS i = 1) || decide (wS i = 2))).2.2.2.2.2.1) + 1)) (va_up ((dwQ ((aT + 1), eN, bD, bP, cD, wT, oP, bS, cS, wS) (fun i => decide (wS i = 3) || decide (wS i = 4) || decide (wS i = 1) || decide (wS i = 2))).2.2.2.2.2.2.2.2.2) ((dwQ ((aT + 1), eN, bD, bP, cD, wT, oP, bS, cS, wS) (fun i => decide (wS i = 3) || decide (wS i = 4) || decide (wS i = 1) || decide (wS i = 2))).2.2.2.2.2.1) 2)))) else (true, (s9 (s5 (dwQ ((aT + 1), eN, bD, bP, cD, wT, oP, bS, cS, wS) (fun i => decide (wS i = 3) || decide (wS i = 4) || decide (wS i = 1) || decide (wS i = 2))) (((dwQ ((aT + 1), eN, bD, bP, cD, wT, oP, bS, cS, wS) (fun i => decide (wS i = 3) || decide (wS i = 4) || decide (wS i = 1) || decide (wS i = 2))).2.2.2.2.2.1) + 1)) (va_up ((dwQ ((aT + 1), eN, bD, bP, cD, wT, oP, bS, cS, wS) (fun i => decide (wS i = 3) || decide (wS i = 4) || decide (wS i = 1) || decide (wS i = 2))).2.2.2.2.2.2.2.2.2) ((dwQ ((aT + 1), eN, bD, bP, cD, wT, oP, bS, cS, wS) (fun i => decide (wS i = 3) || decide (wS i = 4) || decide (wS i = 1) || decide (wS i = 2))).2.2.2.2.2.1) 1)))) else (true, (s9 (s5 (dwQ ((aT + 1), eN, bD, bP, cD, wT, oP, bS, cS, wS) (fun i => decide (wS i = 3) || decide (wS i = 4))) (((dwQ ((aT + 1), eN, bD, bP, cD, wT, oP, bS, cS, wS) (fun i => decide (wS i = 3) || decide (wS i = 4))).2.2.2.2.2.1) + 1)) (va_up ((dwQ ((aT + 1), eN, bD, bP, cD, wT, oP, bS, cS, wS) (fun i => decide (wS i = 3) || decide (wS i = 4))).2.2.2.2.2.2.2.2.2) ((dwQ ((aT + 1), eN, bD, bP, cD, wT, oP, bS, cS, wS) (fun i => decide (wS i = 3) || decide (wS i = 4))).2.2.2.2.2.1) 4)))) else (true, (s9 (s5 (dwQ ((aT + 1), eN, bD, bP, cD, wT, oP, bS, cS, wS) (fun i => decide (wS i = 3) || decide (wS i = 4))) (((dwQ ((aT + 1), eN, bD, bP, cD, wT, oP, bS, cS, wS) (fun i => decide (wS i = 3) || decide (wS i = 4))).2.2.2.2.2.1) + 1)) (va_up ((dwQ ((aT + 1), eN, bD, bP, cD, wT, oP, bS, cS, wS) (fun i => decide (wS i = 3) || decide (wS i = 4))).2.2.2.2.2.2.2.2.2) ((dwQ ((aT + 1), eN, bD, bP, cD, wT, oP, bS, cS, wS) (fun i => decide (wS i = 3) || decide (wS i = 4))).2.2.2.2.2.1) 3))))
set_option maxHeartbeats 4000000 in
theorem l_gsR (E : gE) {d : Nat} (hd : 4 ≤ d) {L : Nat} (h : hp_T) (hG : gr h) (M : mM) (N : mN) (T : tpI M L) (aT : Nat) (eN bD bP : Int32) (cD wT : Nat) (oP : Int32) (bS : Nat) (cS wS : Nat → Int32) (I0 : rI L (aT, eN, bD, bP, cD, wT, oP, bS, cS, wS)) (hbs : bS < 1000) (zb0 : bD = 0) (hs : skb M L aT = aT) : gf E mX12_goesOn d 118 [(0, .ref (E.1 + 247))] [] (hm h (pM M (aT, eN, bD, bP, cD, wT, oP, bS, cS, wS)) N) (some (.int (bI (gsR M L (aT, eN, bD, bP, cD, wT, oP, bS, cS, wS)).1))) (hm h (pM M (gsR M L (aT, eN, bD, bP, cD, wT, oP, bS, cS, wS)).2) N) := by
  have hL6 := T.2.1
  have hA0 : aT ≤ L := I0.1
  have hB0 : cD + wT ≤ aT + 2 := I0.2
  refine gf_aload_n 0 dX12_goesOn_118 rfl rfl ?_
  refine gf_bipush (42) dX12_goesOn_119 rfl ?_
  refine gf_callV cmX12_takesSign lkX12_319 imX12_takesSign seX12_takesSign ⟨rfl, by decide⟩ dX12_goesOn_121 (d1 := d - 1) (by omega) (gt_247 hG) (e_X12_takesSign E (by omega) h hG M N T aT eN bD bP cD wT oP bS cS wS 42 (by omega)) rfl rfl (Nat.le_of_ble_eq_true rfl) ?_
  refine gf_if_ne 136 dX12_goesOn_124 rfl (fun zc124 => ?_) (fun zc124 => ?_)
  · have hq9 : tgQ M L (aT, eN, bD, bP, cD, wT, oP, bS, cS, wS) 42 = true := bI_t zc124
    have hc9 : lkV M L aT = 42 := of_decide_eq_true ((if_pos zb0).symm.trans hq9)
    rw [show (tgS M L (aT, eN, bD, bP, cD, wT, oP, bS, cS, wS) 42) = ((aT + 1), eN, bD, bP, cD, wT, oP, bS, cS, wS) from by rw [(tgS_P hq9).1]; show (skb M L aT + 1, _) = _; rw [hs]]
    have hlt : aT < L := by have := lkV_lt (by decide) hc9; omega
    have hm9 : M 1 aT = 42 := by unfold lkV at hc9; rw [hs, if_pos hlt] at hc9; exact hc9
    have hIs1 : rI L ((aT + 1), eN, bD, bP, cD, wT, oP, bS, cS, wS) := ⟨hlt, by show cD + wT ≤ aT + 1 + 2; omega⟩
    have hAs1 : aT + 1 ≤ L := hlt
    have hBs1 : cD + wT ≤ aT + 1 + 2 := hIs1.2
    refine gf_aload_n 0 dX12_goesOn_136 rfl rfl ?_
    refine gf_getR flX12_7 rfl dX12_goesOn_137 (gt_247 hG) (gp_247_0 hG) ?_
    refine gf_aload_n 0 dX12_goesOn_140 rfl rfl ?_
    refine gf_getI flX12_291 rfl dX12_goesOn_141 (gt_247 hG) ?_
    rw [show hp_i (hm h (pM M ((aT + 1), eN, bD, bP, cD, wT, oP, bS, cS, wS)) N) 247 2 = (nI (aT + 1)) from rfl]
    refine gf_iconst (1) dX12_goesOn_144 rfl ?_
    refine gf_isub dX12_goesOn_145 ?_
    rw [nI_pred]
    refine gf_iald 600 dX12_goesOn_146 (gt_248 hG) (gl_248 hG) rfl (by omega) (by decide) ?_
    refine gf_bipush (42) dX12_goesOn_147 rfl ?_
    refine gf_icmp_ne 156 dX12_goesOn_149 rfl (fun q => absurd (hm9) q) (fun _ => ?_)
    refine gf_iconst (3) dX12_goesOn_152 rfl ?_
    refine gf_goto 157 dX12_goesOn_153 rfl ?_
    refine gf_istore_n 1 dX12_goesOn_157 rfl (Nat.le_of_ble_eq_true rfl) ?_
    refine gf_lw (l_dts E (by omega) h hG M N (aT + 1) eN bD bP oP bS wS 3 (r := dwS wS (fun i => decide (wS i = 3) || decide (wS i = 4)) wT cD cS) ?_ wT cD cS (by omega) (by omega) rfl) ⟨rfl, rfl, trivial⟩
    change gf _ _ _ _ _ _ (hm h (pM M (dwQ ((aT + 1), eN, bD, bP, cD, wT, oP, bS, cS, wS) (fun i => decide (wS i = 3) || decide (wS i = 4)))) N) _ _
    have hI1 : rI L (dwQ ((aT + 1), eN, bD, bP, cD, wT, oP, bS, cS, wS) (fun i => decide (wS i = 3) || decide (wS i = 4))) := dwQ_I hIs1
    have hA1 : (dwQ ((aT + 1), eN, bD, bP, cD, wT, oP, bS, cS, wS) (fun i => decide (wS i = 3) || decide (wS i = 4))).1 ≤ L := hI1.1
    have hB1 : (dwQ ((aT + 1), eN, bD, bP, cD, wT, oP, bS, cS, wS) (fun i => decide (wS i = 3) || decide (wS i = 4))).2.2.2.2.1 + (dwQ ((aT + 1), eN, bD, bP, cD, wT, oP, bS, cS, wS) (fun i => decide (wS i = 3) || decide (wS i = 4))).2.2.2.2.2.1 ≤ (dwQ ((aT + 1), eN, bD, bP, cD, wT, oP, bS, cS, wS) (fun i => decide (wS i = 3) || decide (wS i = 4))).1 + 2 := hI1.2
    refine gf_lw (lv' := [(0, .ref (E.1 + 247)), (1, .int 3)]) ?_ ⟨rfl, rfl, trivial⟩
    refine gf_aload_n 0 dX12_goesOn_181 rfl rfl ?_
    refine gf_getR flX12_103 rfl dX12_goesOn_182 (gt_247 hG) (gp_247_38 hG) ?_
    refine gf_aload_n 0 dX12_goesOn_185 rfl rfl ?_
    refine gf_getI flX12_335 rfl dX12_goesOn_186 (gt_247 hG) ?_
    rw [show hp_i (hm h (pM M (dwQ ((aT + 1), eN, bD, bP, cD, wT, oP, bS, cS, wS) (fun i => decide (wS i = 3) || decide (wS i = 4)))) N) 247 39 = (nI ((dwQ ((aT + 1), eN, bD, bP, cD, wT, oP, bS, cS, wS) (fun i => decide (wS i = 3) || decide (wS i = 4))).2.2.2.2.2.1)) from rfl]
    refine gf_iload_n 1 dX12_goesOn_189 rfl rfl ?_
    refine gf_iast 700 dX12_goesOn_190 (gt_277 hG) (gl_277 hG) rfl (by omega) (by decide) ?_
    rw [mI_30, pM_r30]
    refine gf_aload_n 0 dX12_goesOn_191 rfl rfl ?_
    refine gf_dup dX12_goesOn_192 rfl ?_
    refine gf_getI flX12_335 rfl dX12_goesOn_193 (gt_247 hG) ?_
    rw [show hp_i (hm h (pM M (s9 (dwQ ((aT + 1), eN, bD, bP, cD, wT, oP, bS, cS, wS) (fun i => decide (wS i = 3) || decide (wS i = 4))) (va_up ((dwQ ((aT + 1), eN, bD, bP, cD, wT, oP, bS, cS, wS) (fun i => decide (wS i = 3) || decide (wS i = 4))).2.2.2.2.2.2.2.2.2) ((dwQ ((aT + 1), eN, bD, bP, cD, wT, oP, bS, cS, wS) (fun i => decide (wS i = 3) || decide (wS i = 4))).2.2.2.2.2.1) 3))) N) 247 39 = (nI ((dwQ ((aT + 1), eN, bD, bP, cD, wT, oP, bS, cS, wS) (fun i => decide (wS i = 3) || decide (wS i = 4))).2.2.2.2.2.1)) from rfl]
    refine gf_iconst (1) dX12_goesOn_196 rfl ?_
    refine gf_iadd dX12_goesOn_197 ?_
    rw [nI_1 ((dwQ ((aT + 1), eN, bD, bP, cD, wT, oP, bS, cS, wS) (fun i => decide (wS i = 3) || decide (wS i = 4))).2.2.2.2.2.1)]
    refine gf_putI flX12_335 rfl rfl dX12_goesOn_198 (gt_247 hG) ⟨rfl, rfl⟩ ?_
    rw [mI_0, pM_39]
    refine gf_iconst (1) dX12_goesOn_201 rfl ?_
    exact gf_bret dX12_goesOn_202 rfl (by rw [show gsR M L (aT, eN, bD, bP, cD, wT, oP, bS, cS, wS) = (true, (s9 (s5 (dwQ ((aT + 1), eN, bD, bP, cD, wT, oP, bS, cS, wS) (fun i => decide (wS i = 3) || decide (wS i = 4))) (((dwQ ((aT + 1), eN, bD, bP, cD, wT, oP, bS, cS, wS) (fun i => decide (wS i = 3) || decide (wS i = 4))).2.2.2.2.2.1) + 1)) (va_up ((dwQ ((aT + 1), eN, bD, bP, cD, wT, oP, bS, cS, wS) (fun i => decide (wS i = 3) || decide (wS i = 4))).2.2.2.2.2.2.2.2.2) ((dwQ ((aT + 1), eN, bD, bP, cD, wT, oP, bS, cS, wS) (fun i => decide (wS i = 3) || decide (wS i = 4))).2.2.2.2.2.1) 3))) from if_neg zc124]; rfl) (by rw [show gsR M L (aT, eN, bD, bP, cD, wT, oP, bS, cS, wS) = (true, (s9 (s5 (dwQ ((aT + 1), eN, bD, bP, cD, wT, oP, bS, cS, wS) (fun i => decide (wS i = 3) || decide (wS i = 4))) (((dwQ ((aT + 1), eN, bD, bP, cD, wT, oP, bS, cS, wS) (fun i => decide (wS i = 3) || decide (wS i = 4))).2.2.2.2.2.1) + 1)) (va_up ((dwQ ((aT + 1), eN, bD, bP, cD, wT, oP, bS, cS, wS) (fun i => decide (wS i = 3) || decide (wS i = 4))).2.2.2.2.2.2.2.2.2) ((dwQ ((aT + 1), eN, bD, bP, cD, wT, oP, bS, cS, wS) (fun i => decide (wS i = 3) || decide (wS i = 4))).2.2.2.2.2.1) 3))) from if_neg zc124]; first | done | rfl)
  · rw [show (tgS M L (aT, eN, bD, bP, cD, wT, oP, bS, cS, wS) 42) = (aT, eN, bD, bP, cD, wT, oP, bS, cS, wS) from (if_pos zb0).trans ((if_neg (fun q => by have e9 : tgQ M L (aT, eN, bD, bP, cD, wT, oP, bS, cS, wS) 42 = true := (if_pos zb0).trans (decide_eq_true q); rw [bI_f zc124] at e9; cases e9)).trans (by rw [hs]))]
    refine gf_aload_n 0 dX12_goesOn_127 rfl rfl ?_
    refine gf_bipush (47) dX12_goesOn_128 rfl ?_
    refine gf_callV cmX12_takesSign lkX12_319 imX12_takesSign seX12_takesSign ⟨rfl, by decide⟩ dX12_goesOn_130 (d1 := d - 1) (by omega) (gt_247 hG) (e_X12_takesSign E (by omega) h hG M N T aT eN bD bP cD wT oP bS cS wS 47 (by omega)) rfl rfl (Nat.le_of_ble_eq_true rfl) ?_
    refine gf_if_eq 203 dX12_goesOn_133 rfl (fun zc133 => ?_) (fun zc133 => ?_)
    · rw [show (tgS M L (aT, eN, bD, bP, cD, wT, oP, bS, cS, wS) 47) = (aT, eN, bD, bP, cD, wT, oP, bS, cS, wS) from (if_pos zb0).trans ((if_neg (fun q => by have e9 : tgQ M L (aT, eN, bD, bP, cD, wT, oP, bS, cS, wS) 47 = true := (if_pos zb0).trans (decide_eq_true q); rw [bI_f zc133] at e9; cases e9)).trans (by rw [hs]))]
      refine gf_aload_n 0 dX12_goesOn_203 rfl rfl ?_
      refine gf_bipush (43) dX12_goesOn_204 rfl ?_
      refine gf_callV cmX12_takesSign lkX12_319 imX12_takesSign seX12_takesSign ⟨rfl, by decide⟩ dX12_goesOn_206 (d1 := d - 1) (by omega) (gt_247 hG) (e_X12_takesSign E (by omega) h hG M N T aT eN bD bP cD wT oP bS cS wS 43 (by omega)) rfl rfl (Nat.le_of_ble_eq_true rfl) ?_
      refine gf_if_ne 221 dX12_goesOn_209 rfl (fun zc209 => ?_) (fun zc209 => ?_)
      · have hq9 : tgQ M L (aT, eN, bD, bP, cD, wT, oP, bS, cS, wS) 43 = true := bI_t zc209
        have hc9 : lkV M L aT = 43 := of_decide_eq_true ((if_pos zb0).symm.trans hq9)
        rw [show (tgS M L (aT, eN, bD, bP, cD, wT, oP, bS, cS, wS) 43) = ((aT + 1), eN, bD, bP, cD, wT, oP, bS, cS, wS) from by rw [(tgS_P hq9).1]; show (skb M L aT + 1, _) = _; rw [hs]]
        have hlt : aT < L := by have := lkV_lt (by decide) hc9; omega
        have hm9 : M 1 aT = 43 := by unfold lkV at hc9; rw [hs, if_pos hlt] at hc9; exact hc9
        have hIs1 : rI L ((aT + 1), eN, bD, bP, cD, wT, oP, bS, cS, wS) := ⟨hlt, by show cD + wT ≤ aT + 1 + 2; omega⟩
        have hAs1 : aT + 1 ≤ L := hlt
        have hBs1 : cD + wT ≤ aT + 1 + 2 := hIs1.2
        refine gf_aload_n 0 dX12_goesOn_221 rfl rfl ?_
        refine gf_getR flX12_7 rfl dX12_goesOn_222 (gt_247 hG) (gp_247_0 hG) ?_
        refine gf_aload_n 0 dX12_goesOn_225 rfl rfl ?_
        refine gf_getI flX12_291 rfl dX12_goesOn_226 (gt_247 hG) ?_
        rw [show hp_i (hm h (pM M ((aT + 1), eN, bD, bP, cD, wT, oP, bS, cS, wS)) N) 247 2 = (nI (aT + 1)) from rfl]
        refine gf_iconst (1) dX12_goesOn_229 rfl ?_
        refine gf_isub dX12_goesOn_230 ?_
        rw [nI_pred]
        refine gf_iald 600 dX12_goesOn_231 (gt_248 hG) (gl_248 hG) rfl (by omega) (by decide) ?_
        refine gf_bipush (43) dX12_goesOn_232 rfl ?_
        refine gf_icmp_ne 241 dX12_goesOn_234 rfl (fun q => absurd (hm9) q) (fun _ => ?_)
        refine gf_iconst (1) dX12_goesOn_237 rfl ?_
        refine gf_goto 242 dX12_goesOn_238 rfl ?_
        refine gf_istore_n 1 dX12_goesOn_242 rfl (Nat.le_of_ble_eq_true rfl) ?_
        refine gf_lw (l_das E (by omega) h hG M N (aT + 1) eN bD bP oP bS wS 1 (r := dwS wS (fun i => decide (wS i = 3) || decide (wS i = 4) || decide (wS i = 1) || decide (wS i = 2)) wT cD cS) ?_ wT cD cS (by omega) (by omega) rfl) ⟨rfl, rfl, trivial⟩
        change gf _ _ _ _ _ _ (hm h (pM M (dwQ ((aT + 1), eN, bD, bP, cD, wT, oP, bS, cS, wS) (fun i => decide (wS i = 3) || decide (wS i = 4) || decide (wS i = 1) || decide (wS i = 2)))) N) _ _
        have hI2 : rI L (dwQ ((aT + 1), eN, bD, bP, cD, wT, oP, bS, cS, wS) (fun i => decide (wS i = 3) || decide (wS i = 4) || decide (wS i = 1) || decide (wS i = 2))) := dwQ_I hIs1
        have hA2 : (dwQ ((aT + 1), eN, bD, bP, cD, wT, oP, bS, cS, wS) (fun i => decide (wS i = 3) || decide (wS i = 4) || decide (wS i = 1) || decide (wS i = 2))).1 ≤ L := hI2.1
        have hB2 : (dwQ ((aT + 1), eN, bD, bP, cD, wT, oP, bS, cS, wS) (fun i => decide (wS i = 3) || decide (wS i = 4) || decide (wS i = 1) || decide (wS i = 2))).2.2.2.2.1 + (dwQ ((aT + 1), eN, bD, bP, cD, wT, oP, bS, cS, wS) (fun i => decide (wS i = 3) || decide (wS i = 4) || decide (wS i = 1) || decide (wS i = 2))).2.2.2.2.2.1 ≤ (dwQ ((aT + 1), eN, bD, bP, cD, wT, oP, bS, cS, wS) (fun i => decide (wS i = 3) || decide (wS i = 4) || decide (wS i = 1) || decide (wS i = 2))).1 + 2 := hI2.2
        refine gf_lw (lv' := [(0, .ref (E.1 + 247)), (1, .int 1)]) ?_ ⟨rfl, rfl, trivial⟩
        refine gf_aload_n 0 dX12_goesOn_282 rfl rfl ?_
        refine gf_getR flX12_103 rfl dX12_goesOn_283 (gt_247 hG) (gp_247_38 hG) ?_
        refine gf_aload_n 0 dX12_goesOn_286 rfl rfl ?_
        refine gf_getI flX12_335 rfl dX12_goesOn_287 (gt_247 hG) ?_
        rw [show hp_i (hm h (pM M (dwQ ((aT + 1), eN, bD, bP, cD, wT, oP, bS, cS, wS) (fun i => decide (wS i = 3) || decide (wS i = 4) || decide (wS i = 1) || decide (wS i = 2)))) N) 247 39 = (nI ((dwQ ((aT + 1), eN, bD, bP, cD, wT, oP, bS, cS, wS) (fun i => decide (wS i = 3) || decide (wS i = 4) || decide (wS i = 1) || decide (wS i = 2))).2.2.2.2.2.1)) from rfl]
        refine gf_iload_n 1 dX12_goesOn_290 rfl rfl ?_
        refine gf_iast 700 dX12_goesOn_291 (gt_277 hG) (gl_277 hG) rfl (by omega) (by decide) ?_
        rw [mI_30, pM_r30]
        refine gf_aload_n 0 dX12_goesOn_292 rfl rfl ?_
        refine gf_dup dX12_goesOn_293 rfl ?_
        refine gf_getI flX12_335 rfl dX12_goesOn_294 (gt_247 hG) ?_
        rw [show hp_i (hm h (pM M (s9 (dwQ ((aT + 1), eN, bD, bP, cD, wT, oP, bS, cS, wS) (fun i => decide (wS i = 3) || decide (wS i = 4) || decide (wS i = 1) || decide (wS i = 2))) (va_up ((dwQ ((aT + 1), eN, bD, bP, cD, wT, oP, bS, cS, wS) (fun i => decide (wS i = 3) || decide (wS i = 4) || decide (wS i = 1) || decide (wS i = 2))).2.2.2.2.2.2.2.2.2) ((dwQ ((aT + 1), eN, bD, bP, cD, wT, oP, bS, cS, wS) (fun i => decide (wS i = 3) || decide (wS i = 4) || decide (wS i = 1) || decide (wS i = 2))).2.2.2.2.2.1) 1))) N) 247 39 = (nI ((dwQ ((aT + 1), eN, bD, bP, cD, wT, oP, bS, cS, wS) (fun i => decide (wS i = 3) || decide (wS i = 4) || decide (wS i = 1) || decide (wS i = 2))).2.2.2.2.2.1)) from rfl]
        refine gf_iconst (1) dX12_goesOn_297 rfl ?_
        refine gf_iadd dX12_goesOn_298 ?_
        rw [nI_1 ((dwQ ((aT + 1), eN, bD, bP, cD, wT, oP, bS, cS, wS) (fun i => decide (wS i = 3) || decide (wS i = 4) || decide (wS i = 1) || decide (wS i = 2))).2.2.2.2.2.1)]
        refine gf_putI flX12_335 rfl rfl dX12_goesOn_299 (gt_247 hG) ⟨rfl, rfl⟩ ?_
        rw [mI_0, pM_39]
        refine gf_iconst (1) dX12_goesOn_302 rfl ?_
        exact gf_bret dX12_goesOn_303 rfl (by rw [show gsR M L (aT, eN, bD, bP, cD, wT, oP, bS, cS, wS) = (true, (s9 (s5 (dwQ ((aT + 1), eN, bD, bP, cD, wT, oP, bS, cS, wS) (fun i => decide (wS i = 3) || decide (wS i = 4) || decide (wS i = 1) || decide (wS i = 2))) (((dwQ ((aT + 1), eN, bD, bP, cD, wT, oP, bS, cS, wS) (fun i => decide (wS i = 3) || decide (wS i = 4) || decide (wS i = 1) || decide (wS i = 2))).2.2.2.2.2.1) + 1)) (va_up ((dwQ ((aT + 1), eN, bD, bP, cD, wT, oP, bS, cS, wS) (fun i => decide (wS i = 3) || decide (wS i = 4) || decide (wS i = 1) || decide (wS i = 2))).2.2.2.2.2.2.2.2.2) ((dwQ ((aT + 1), eN, bD, bP, cD, wT, oP, bS, cS, wS) (fun i => decide (wS i = 3) || decide (wS i = 4) || decide (wS i = 1) || decide (wS i = 2))).2.2.2.2.2.1) 1))) from (if_pos zc124).trans ((if_pos zc133).trans (if_neg zc209))]; rfl) (by rw [show gsR M L (aT, eN, bD, bP, cD, wT, oP, bS, cS, wS) = (true, (s9 (s5 (dwQ ((aT + 1), eN, bD, bP, cD, wT, oP, bS, cS, wS) (fun i => decide (wS i = 3) || decide (wS i = 4) || decide (wS i = 1) || decide (wS i = 2))) (((dwQ ((aT + 1), eN, bD, bP, cD, wT, oP, bS, cS, wS) (fun i => decide (wS i = 3) || decide (wS i = 4) || decide (wS i = 1) || decide (wS i = 2))).2.2.2.2.2.1) + 1)) (va_up ((dwQ ((aT + 1), eN, bD, bP, cD, wT, oP, bS, cS, wS) (fun i => decide (wS i = 3) || decide (wS i = 4) || decide (wS i = 1) || decide (wS i = 2))).2.2.2.2.2.2.2.2.2) ((dwQ ((aT + 1), eN, bD, bP, cD, wT, oP, bS, cS, wS) (fun i => decide (wS i = 3) || decide (wS i = 4) || decide (wS i = 1) || decide (wS i = 2))).2.2.2.2.2.1) 1))) from (if_pos zc124).trans ((if_pos zc133).trans (if_neg zc209))]; first | done | rfl)
      · rw [show (tgS M L (aT, eN, bD, bP, cD, wT, oP, bS, cS, wS) 43) = (aT, eN, bD, bP, cD, wT, oP, bS, cS, wS) from (if_pos zb0).trans ((if_neg (fun q => by have e9 : tgQ M L (aT, eN, bD, bP, cD, wT, oP, bS, cS, wS) 43 = true := (if_pos zb0).trans (decide_eq_true q); rw [bI_f zc209] at e9; cases e9)).trans (by rw [hs]))]
        refine gf_aload_n 0 dX12_goesOn_212 rfl rfl ?_
        refine gf_bipush (45) dX12_goesOn_213 rfl ?_
        refine gf_callV cmX12_takesSign lkX12_319 imX12_takesSign seX12_takesSign ⟨rfl, by decide⟩ dX12_goesOn_215 (d1 := d - 1) (by omega) (gt_247 hG) (e_X12_takesSign E (by omega) h hG M N T aT eN bD bP cD wT oP bS cS wS 45 (by omega)) rfl rfl (Nat.le_of_ble_eq_true rfl) ?_
        refine gf_if_eq 304 dX12_goesOn_218 rfl (fun zc218 => ?_) (fun zc218 => ?_)
        · rw [show (tgS M L (aT, eN, bD, bP, cD, wT, oP, bS, cS, wS) 45) = (aT, eN, bD, bP, cD, wT, oP, bS, cS, wS) from (if_pos zb0).trans ((if_neg (fun q => by have e9 : tgQ M L (aT, eN, bD, bP, cD, wT, oP, bS, cS, wS) 45 = true := (if_pos zb0).trans (decide_eq_true q); rw [bI_f zc218] at e9; cases e9)).trans (by rw [hs]))]
          refine gf_aload_n 0 dX12_goesOn_304 rfl rfl ?_
          refine gf_callV cmX12_mark lkX12_369 imX12_mark seX12_mark ⟨rfl, by decide⟩ dX12_goesOn_305 (d1 := d - 1) (by omega) (gt_247 hG) (e_X12_mark E (by omega) h hG M N aT eN bD bP cD wT oP bS cS wS (by omega) hbs) rfl rfl (Nat.le_of_ble_eq_true rfl) ?_
          refine gf_bipush (21) dX12_goesOn_308 rfl ?_
          refine gf_icmp_eq 322 dX12_goesOn_310 rfl (fun zc310 => ?_) (fun zc310 => ?_)
          · refine gf_aload_n 0 dX12_goesOn_322 rfl rfl ?_
            refine gf_bipush (44) dX12_goesOn_323 rfl ?_
            refine gf_callV cmX12_asksSign lkX12_358 imX12_asksSign seX12_asksSign ⟨rfl, by decide⟩ dX12_goesOn_325 (d1 := d - 1) (by omega) (gt_247 hG) (e_X12_asksSign E (by omega) h hG M N T aT eN bD bP cD wT oP bS cS wS 44 (by omega)) rfl rfl (Nat.le_of_ble_eq_true rfl) ?_
            have hI3 : rI L (agS M L (aT, eN, bD, bP, cD, wT, oP, bS, cS, wS) 44) := agS_I (by decide) I0
            have hA3 : (agS M L (aT, eN, bD, bP, cD, wT, oP, bS, cS, wS) 44).1 ≤ L := hI3.1
            have hB3 : (agS M L (aT, eN, bD, bP, cD, wT, oP, bS, cS, wS) 44).2.2.2.2.1 + (agS M L (aT, eN, bD, bP, cD, wT, oP, bS, cS, wS) 44).2.2.2.2.2.1 ≤ (agS M L (aT, eN, bD, bP, cD, wT, oP, bS, cS, wS) 44).1 + 2 := hI3.2
            refine gf_aload_n 0 dX12_goesOn_328 rfl rfl ?_
            refine gf_getI flX12_285 rfl dX12_goesOn_329 (gt_247 hG) ?_
            rw [show hp_i (hm h (pM M (agS M L (aT, eN, bD, bP, cD, wT, oP, bS, cS, wS) 44)) N) 247 5 = (agS M L (aT, eN, bD, bP, cD, wT, oP, bS, cS, wS) 44).2.2.1 from rfl]
            refine gf_if_eq 337 dX12_goesOn_332 rfl (fun zc332 => ?_) (fun zc332 => ?_)
            · have hag : (agS M L (aT, eN, bD, bP, cD, wT, oP, bS, cS, wS) 44).2.2.2.2 = (aT, eN, bD, bP, cD, wT, oP, bS, cS, wS).2.2.2.2 := agS_r
              have hbs2 : (agS M L (aT, eN, bD, bP, cD, wT, oP, bS, cS, wS) 44).2.2.2.2.2.2.2.1 < 1000 := by rw [hag]; exact hbs
              refine gf_aload_n 0 dX12_goesOn_337 rfl rfl ?_
              refine gf_callV cmX12_dropsToMark lkX12_372 imX12_dropsToMark seX12_dropsToMark ⟨rfl, by decide⟩ dX12_goesOn_338 (d1 := d - 1) (by omega) (gt_247 hG) (e_X12_dropsToMark E (by omega) h hG M N ((agS M L (aT, eN, bD, bP, cD, wT, oP, bS, cS, wS) 44).1) ((agS M L (aT, eN, bD, bP, cD, wT, oP, bS, cS, wS) 44).2.1) ((agS M L (aT, eN, bD, bP, cD, wT, oP, bS, cS, wS) 44).2.2.1) ((agS M L (aT, eN, bD, bP, cD, wT, oP, bS, cS, wS) 44).2.2.2.1) ((agS M L (aT, eN, bD, bP, cD, wT, oP, bS, cS, wS) 44).2.2.2.2.1) ((agS M L (aT, eN, bD, bP, cD, wT, oP, bS, cS, wS) 44).2.2.2.2.2.1) ((agS M L (aT, eN, bD, bP, cD, wT, oP, bS, cS, wS) 44).2.2.2.2.2.2.1) ((agS M L (aT, eN, bD, bP, cD, wT, oP, bS, cS, wS) 44).2.2.2.2.2.2.2.1) ((agS M L (aT, eN, bD, bP, cD, wT, oP, bS, cS, wS) 44).2.2.2.2.2.2.2.2.1) ((agS M L (aT, eN, bD, bP, cD, wT, oP, bS, cS, wS) 44).2.2.2.2.2.2.2.2.2) (by omega) (by omega) hbs2) rfl rfl (Nat.le_of_ble_eq_true rfl) ?_
              change gf _ _ _ _ _ _ (hm h (pM M (dwQ (agS M L (aT, eN, bD, bP, cD, wT, oP, bS, cS, wS) 44) (tmP (agS M L (aT, eN, bD, bP, cD, wT, oP, bS, cS, wS) 44).2.2.2.2.2.2.2.1 (agS M L (aT, eN, bD, bP, cD, wT, oP, bS, cS, wS) 44).2.2.2.2.2.2.2.2.2))) N) _ _
              have hI4 : rI L (dwQ (agS M L (aT, eN, bD, bP, cD, wT, oP, bS, cS, wS) 44) (tmP (agS M L (aT, eN, bD, bP, cD, wT, oP, bS, cS, wS) 44).2.2.2.2.2.2.2.1 (agS M L (aT, eN, bD, bP, cD, wT, oP, bS, cS, wS) 44).2.2.2.2.2.2.2.2.2)) := dwQ_I hI3
              have hA4 : (dwQ (agS M L (aT, eN, bD, bP, cD, wT, oP, bS, cS, wS) 44) (tmP (agS M L (aT, eN, bD, bP, cD, wT, oP, bS, cS, wS) 44).2.2.2.2.2.2.2.1 (agS M L (aT, eN, bD, bP, cD, wT, oP, bS, cS, wS) 44).2.2.2.2.2.2.2.2.2)).1 ≤ L := hI4.1
              have hB4 : (dwQ (agS M L (aT, eN, bD, bP, cD, wT, oP, bS, cS, wS) 44) (tmP (agS M L (aT, eN, bD, bP, cD, wT, oP, bS, cS, wS) 44).2.2.2.2.2.2.2.1 (agS M L (aT, eN, bD, bP, cD, wT, oP, bS, cS, wS) 44).2.2.2.2.2.2.2.2.2)).2.2.2.2.1 + (dwQ (agS M L (aT, eN, bD, bP, cD, wT, oP, bS, cS, wS) 44) (tmP (agS M L (aT, eN, bD, bP, cD, wT, oP, bS, cS, wS) 44).2.2.2.2.2.2.2.1 (agS M L (aT, eN, bD, bP, cD, wT, oP, bS, cS, wS) 44).2.2.2.2.2.2.2.2.2)).2.2.2.2.2.1 ≤ (dwQ (agS M L (aT, eN, bD, bP, cD, wT, oP, bS, cS, wS) 44) (tmP (agS M L (aT, eN, bD, bP, cD, wT, oP, bS, cS, wS) 44).2.2.2.2.2.2.2.1 (agS M L (aT, eN, bD, bP, cD, wT, oP, bS, cS, wS) 44).2.2.2.2.2.2.2.2.2)).1 + 2 := hI4.2
              refine gf_aload_n 0 dX12_goesOn_341 rfl rfl ?_
              refine gf_getR flX12_103 rfl dX12_goesOn_342 (gt_247 hG) (gp_247_38 hG) ?_
              refine gf_aload_n 0 dX12_goesOn_345 rfl rfl ?_
              refine gf_getI flX12_335 rfl dX12_goesOn_346 (gt_247 hG) ?_
              rw [show hp_i (hm h (pM M (dwQ (agS M L (aT, eN, bD, bP, cD, wT, oP, bS, cS, wS) 44) (tmP (agS M L (aT, eN, bD, bP, cD, wT, oP, bS, cS, wS) 44).2.2.2.2.2.2.2.1 (agS M L (aT, eN, bD, bP, cD, wT, oP, bS, cS, wS) 44).2.2.2.2.2.2.2.2.2))) N) 247 39 = (nI ((dwQ (agS M L (aT, eN, bD, bP, cD, wT, oP, bS, cS, wS) 44) (tmP (agS M L (aT, eN, bD, bP, cD, wT, oP, bS, cS, wS) 44).2.2.2.2.2.2.2.1 (agS M L (aT, eN, bD, bP, cD, wT, oP, bS, cS, wS) 44).2.2.2.2.2.2.2.2.2)).2.2.2.2.2.1)) from rfl]
              refine gf_iconst (1) dX12_goesOn_349 rfl ?_
              refine gf_isub dX12_goesOn_350 ?_
              obtain ⟨m9, hm1, hm2, hm3, hm4⟩ := mk_dw (ws := wS) (b := bS) (v := 21) (by decide) wT cD cS (show mkF wS bS wT = 21 from zc310)
              have hw0 : (dwQ (agS M L (aT, eN, bD, bP, cD, wT, oP, bS, cS, wS) 44) (tmP (agS M L (aT, eN, bD, bP, cD, wT, oP, bS, cS, wS) 44).2.2.2.2.2.2.2.1 (agS M L (aT, eN, bD, bP, cD, wT, oP, bS, cS, wS) 44).2.2.2.2.2.2.2.2.2)).2.2.2.2.2.1 = m9 + 1 := by show (dwS (agS M L (aT, eN, bD, bP, cD, wT, oP, bS, cS, wS) 44).2.2.2.2.2.2.2.2.2 (tmP (agS M L (aT, eN, bD, bP, cD, wT, oP, bS, cS, wS) 44).2.2.2.2.2.2.2.1 (agS M L (aT, eN, bD, bP, cD, wT, oP, bS, cS, wS) 44).2.2.2.2.2.2.2.2.2) (agS M L (aT, eN, bD, bP, cD, wT, oP, bS, cS, wS) 44).2.2.2.2.2.1 (agS M L (aT, eN, bD, bP, cD, wT, oP, bS, cS, wS) 44).2.2.2.2.1 (agS M L (aT, eN, bD, bP, cD, wT, oP, bS, cS, wS) 44).2.2.2.2.2.2.2.2.1).1 = m9 + 1; rw [hag]; exact hm1
              have hw1 : 1 ≤ (dwQ (agS M L (aT, eN, bD, bP, cD, wT, oP, bS, cS, wS) 44) (tmP (agS M L (aT, eN, bD, bP, cD, wT, oP, bS, cS, wS) 44).2.2.2.2.2.2.2.1 (agS M L (aT, eN, bD, bP, cD, wT, oP, bS, cS, wS) 44).2.2.2.2.2.2.2.2.2)).2.2.2.2.2.1 := by omega
              rw [show nI ((dwQ (agS M L (aT, eN, bD, bP, cD, wT, oP, bS, cS, wS) 44) (tmP (agS M L (aT, eN, bD, bP, cD, wT, oP, bS, cS, wS) 44).2.2.2.2.2.2.2.1 (agS M L (aT, eN, bD, bP, cD, wT, oP, bS, cS, wS) 44).2.2.2.2.2.2.2.2.2)).2.2.2.2.2.1) - 1 = nI ((dwQ (agS M L (aT, eN, bD, bP, cD, wT, oP, bS, cS, wS) 44) (tmP (agS M L (aT, eN, bD, bP, cD, wT, oP, bS, cS, wS) 44).2.2.2.2.2.2.2.1 (agS M L (aT, eN, bD, bP, cD, wT, oP, bS, cS, wS) 44).2.2.2.2.2.2.2.2.2)).2.2.2.2.2.1 - 1) from pk_sub (b := 1) hw1]
              refine gf_dup2 dX12_goesOn_351 rfl rfl ?_
              refine gf_iald 700 dX12_goesOn_352 (gt_277 hG) (gl_277 hG) rfl (by omega) (by decide) ?_
              refine gf_iconst (2) dX12_goesOn_353 rfl ?_
              refine gf_iadd dX12_goesOn_354 ?_
              refine gf_iast 700 dX12_goesOn_355 (gt_277 hG) (gl_277 hG) rfl (by omega) (by decide) ?_
              rw [mI_30, pM_r30]
              refine gf_iconst (1) dX12_goesOn_356 rfl ?_
              exact gf_bret dX12_goesOn_357 rfl (by rw [show gsR M L (aT, eN, bD, bP, cD, wT, oP, bS, cS, wS) = (true, (s9 (dwQ (agS M L (aT, eN, bD, bP, cD, wT, oP, bS, cS, wS) 44) (tmP (agS M L (aT, eN, bD, bP, cD, wT, oP, bS, cS, wS) 44).2.2.2.2.2.2.2.1 (agS M L (aT, eN, bD, bP, cD, wT, oP, bS, cS, wS) 44).2.2.2.2.2.2.2.2.2)) (va_up ((dwQ (agS M L (aT, eN, bD, bP, cD, wT, oP, bS, cS, wS) 44) (tmP (agS M L (aT, eN, bD, bP, cD, wT, oP, bS, cS, wS) 44).2.2.2.2.2.2.2.1 (agS M L (aT, eN, bD, bP, cD, wT, oP, bS, cS, wS) 44).2.2.2.2.2.2.2.2.2)).2.2.2.2.2.2.2.2.2) ((dwQ (agS M L (aT, eN, bD, bP, cD, wT, oP, bS, cS, wS) 44) (tmP (agS M L (aT, eN, bD, bP, cD, wT, oP, bS, cS, wS) 44).2.2.2.2.2.2.2.1 (agS M L (aT, eN, bD, bP, cD, wT, oP, bS, cS, wS) 44).2.2.2.2.2.2.2.2.2)).2.2.2.2.2.1 - 1) (((dwQ (agS M L (aT, eN, bD, bP, cD, wT, oP, bS, cS, wS) 44) (tmP (agS M L (aT, eN, bD, bP, cD, wT, oP, bS, cS, wS) 44).2.2.2.2.2.2.2.1 (agS M L (aT, eN, bD, bP, cD, wT, oP, bS, cS, wS) 44).2.2.2.2.2.2.2.2.2)).2.2.2.2.2.2.2.2.2 ((dwQ (agS M L (aT, eN, bD, bP, cD, wT, oP, bS, cS, wS) 44) (tmP (agS M L (aT, eN, bD, bP, cD, wT, oP, bS, cS, wS) 44).2.2.2.2.2.2.2.1 (agS M L (aT, eN, bD, bP, cD, wT, oP, bS, cS, wS) 44).2.2.2.2.2.2.2.2.2)).2.2.2.2.2.1 - 1)) + 2)))) from (if_pos zc124).trans ((if_pos zc133).trans ((if_pos zc209).trans ((if_pos zc218).trans ((if_pos zc310).trans (if_pos zc332)))))]; rfl) (by rw [show gsR M L (aT, eN, bD, bP, cD, wT, oP, bS, cS, wS) = (true, (s9 (dwQ (agS M L (aT, eN, bD, bP, cD, wT, oP, bS, cS, wS) 44) (tmP (agS M L (aT, eN, bD, bP, cD, wT, oP, bS, cS, wS) 44).2.2.2.2.2.2.2.1 (agS M L (aT, eN, bD, bP, cD, wT, oP, bS, cS, wS) 44).2.2.2.2.2.2.2.2.2)) (va_up ((dwQ (agS M L (aT, eN, bD, bP, cD, wT, oP, bS, cS, wS) 44) (tmP (agS M L (aT, eN, bD, bP, cD, wT, oP, bS, cS, wS) 44).2.2.2.2.2.2.2.1 (agS M L (aT, eN, bD, bP, cD, wT, oP, bS, cS, wS) 44).2.2.2.2.2.2.2.2.2)).2.2.2.2.2.2.2.2.2) ((dwQ (agS M L (aT, eN, bD, bP, cD, wT, oP, bS, cS, wS) 44) (tmP (agS M L (aT, eN, bD, bP, cD, wT, oP, bS, cS, wS) 44).2.2.2.2.2.2.2.1 (agS M L (aT, eN, bD, bP, cD, wT, oP, bS, cS, wS) 44).2.2.2.2.2.2.2.2.2)).2.2.2.2.2.1 - 1) (((dwQ (agS M L (aT, eN, bD, bP, cD, wT, oP, bS, cS, wS) 44) (tmP (agS M L (aT, eN, bD, bP, cD, wT, oP, bS, cS, wS) 44).2.2.2.2.2.2.2.1 (agS M L (aT, eN, bD, bP, cD, wT, oP, bS, cS, wS) 44).2.2.2.2.2.2.2.2.2)).2.2.2.2.2.2.2.2.2 ((dwQ (agS M L (aT, eN, bD, bP, cD, wT, oP, bS, cS, wS) 44) (tmP (agS M L (aT, eN, bD, bP, cD, wT, oP, bS, cS, wS) 44).2.2.2.2.2.2.2.1 (agS M L (aT, eN, bD, bP, cD, wT, oP, bS, cS, wS) 44).2.2.2.2.2.2.2.2.2)).2.2.2.2.2.1 - 1)) + 2)))) from (if_pos zc124).trans ((if_pos zc133).trans ((if_pos zc209).trans ((if_pos zc218).trans ((if_pos zc310).trans (if_pos zc332)))))]; first | done | rfl)
            · refine gf_iconst (0) dX12_goesOn_335 rfl ?_
              exact gf_bret dX12_goesOn_336 rfl (by rw [show gsR M L (aT, eN, bD, bP, cD, wT, oP, bS, cS, wS) = (false, (agS M L (aT, eN, bD, bP, cD, wT, oP, bS, cS, wS) 44)) from (if_pos zc124).trans ((if_pos zc133).trans ((if_pos zc209).trans ((if_pos zc218).trans ((if_pos zc310).trans (if_neg zc332)))))]; rfl) (by rw [show gsR M L (aT, eN, bD, bP, cD, wT, oP, bS, cS, wS) = (false, (agS M L (aT, eN, bD, bP, cD, wT, oP, bS, cS, wS) 44)) from (if_pos zc124).trans ((if_pos zc133).trans ((if_pos zc209).trans ((if_pos zc218).trans ((if_pos zc310).trans (if_neg zc332)))))]; first | done | rfl)
          · refine gf_aload_n 0 dX12_goesOn_313 rfl rfl ?_
            refine gf_callV cmX12_mark lkX12_369 imX12_mark seX12_mark ⟨rfl, by decide⟩ dX12_goesOn_314 (d1 := d - 1) (by omega) (gt_247 hG) (e_X12_mark E (by omega) h hG M N aT eN bD bP cD wT oP bS cS wS (by omega) hbs) rfl rfl (Nat.le_of_ble_eq_true rfl) ?_
            refine gf_bipush (22) dX12_goesOn_317 rfl ?_
            refine gf_icmp_ne 358 dX12_goesOn_319 rfl (fun zc319 => ?_) (fun zc319 => ?_)
            · refine gf_aload_n 0 dX12_goesOn_358 rfl rfl ?_
              refine gf_callV cmX12_mark lkX12_369 imX12_mark seX12_mark ⟨rfl, by decide⟩ dX12_goesOn_359 (d1 := d - 1) (by omega) (gt_247 hG) (e_X12_mark E (by omega) h hG M N aT eN bD bP cD wT oP bS cS wS (by omega) hbs) rfl rfl (Nat.le_of_ble_eq_true rfl) ?_
              refine gf_iconst (-1) dX12_goesOn_362 rfl ?_
              refine gf_icmp_eq 382 dX12_goesOn_363 rfl (fun zc363 => ?_) (fun zc363 => ?_)
              · refine gf_iconst (0) dX12_goesOn_382 rfl ?_
                exact gf_bret dX12_goesOn_383 rfl (by rw [show gsR M L (aT, eN, bD, bP, cD, wT, oP, bS, cS, wS) = (false, (aT, eN, bD, bP, cD, wT, oP, bS, cS, wS)) from (if_pos zc124).trans ((if_pos zc133).trans ((if_pos zc209).trans ((if_pos zc218).trans ((if_neg zc310).trans ((if_neg zc319).trans (if_pos zc363))))))]; rfl) (by rw [show gsR M L (aT, eN, bD, bP, cD, wT, oP, bS, cS, wS) = (false, (aT, eN, bD, bP, cD, wT, oP, bS, cS, wS)) from (if_pos zc124).trans ((if_pos zc133).trans ((if_pos zc209).trans ((if_pos zc218).trans ((if_neg zc310).trans ((if_neg zc319).trans (if_pos zc363))))))]; first | done | rfl)
              · refine gf_aload_n 0 dX12_goesOn_366 rfl rfl ?_
                refine gf_getI flX12_285 rfl dX12_goesOn_367 (gt_247 hG) ?_
                rw [show hp_i (hm h (pM M (aT, eN, bD, bP, cD, wT, oP, bS, cS, wS)) N) 247 5 = bD from rfl]
                refine gf_if_ne 382 dX12_goesOn_370 rfl (fun zc370 => ?_) (fun zc370 => ?_)
                · refine gf_iconst (0) dX12_goesOn_382 rfl ?_
                  exact gf_bret dX12_goesOn_383 rfl (by rw [show gsR M L (aT, eN, bD, bP, cD, wT, oP, bS, cS, wS) = (false, (aT, eN, bD, bP, cD, wT, oP, bS, cS, wS)) from (if_pos zc124).trans ((if_pos zc133).trans ((if_pos zc209).trans ((if_pos zc218).trans ((if_neg zc310).trans ((if_neg zc319).trans ((if_neg zc363).trans (if_neg zc370)))))))]; rfl) (by rw [show gsR M L (aT, eN, bD, bP, cD, wT, oP, bS, cS, wS) = (false, (aT, eN, bD, bP, cD, wT, oP, bS, cS, wS)) from (if_pos zc124).trans ((if_pos zc133).trans ((if_pos zc209).trans ((if_pos zc218).trans ((if_neg zc310).trans ((if_neg zc319).trans ((if_neg zc363).trans (if_neg zc370)))))))]; first | done | rfl)
                · refine gf_aload_n 0 dX12_goesOn_373 rfl rfl ?_
                  refine gf_iconst (1) dX12_goesOn_374 rfl ?_
                  refine gf_aload_n 0 dX12_goesOn_375 rfl rfl ?_
                  refine gf_getI flX12_291 rfl dX12_goesOn_376 (gt_247 hG) ?_
                  rw [show hp_i (hm h (pM M (aT, eN, bD, bP, cD, wT, oP, bS, cS, wS)) N) 247 2 = (nI aT) from rfl]
                  refine gf_callV cmX12_fail lkX12_315 imX12_fail seX12_fail ⟨rfl, by decide⟩ dX12_goesOn_379 (d1 := d - 1) (by omega) (gt_247 hG) (e_X12_fail E 1 (nI aT) h hG M N aT eN bD bP cD wT oP bS cS wS) rfl rfl (Nat.le_of_ble_eq_true rfl) ?_
                  have hI5 : rI L (flS9 (aT, eN, bD, bP, cD, wT, oP, bS, cS, wS) 1 (nI aT)) := flS_I I0
                  have hA5 : (flS9 (aT, eN, bD, bP, cD, wT, oP, bS, cS, wS) 1 (nI aT)).1 ≤ L := hI5.1
                  have hB5 : (flS9 (aT, eN, bD, bP, cD, wT, oP, bS, cS, wS) 1 (nI aT)).2.2.2.2.1 + (flS9 (aT, eN, bD, bP, cD, wT, oP, bS, cS, wS) 1 (nI aT)).2.2.2.2.2.1 ≤ (flS9 (aT, eN, bD, bP, cD, wT, oP, bS, cS, wS) 1 (nI aT)).1 + 2 := hI5.2
                  refine gf_iconst (0) dX12_goesOn_382 rfl ?_
                  exact gf_bret dX12_goesOn_383 rfl (by rw [show gsR M L (aT, eN, bD, bP, cD, wT, oP, bS, cS, wS) = (false, (flS9 (aT, eN, bD, bP, cD, wT, oP, bS, cS, wS) 1 (nI aT))) from (if_pos zc124).trans ((if_pos zc133).trans ((if_pos zc209).trans ((if_pos zc218).trans ((if_neg zc310).trans ((if_neg zc319).trans ((if_neg zc363).trans (if_pos zc370)))))))]; rfl) (by rw [show gsR M L (aT, eN, bD, bP, cD, wT, oP, bS, cS, wS) = (false, (flS9 (aT, eN, bD, bP, cD, wT, oP, bS, cS, wS) 1 (nI aT))) from (if_pos zc124).trans ((if_pos zc133).trans ((if_pos zc209).trans ((if_pos zc218).trans ((if_neg zc310).trans ((if_neg zc319).trans ((if_neg zc363).trans (if_pos zc370)))))))]; first | done | rfl)
            · refine gf_aload_n 0 dX12_goesOn_322 rfl rfl ?_
              refine gf_bipush (44) dX12_goesOn_323 rfl ?_
              refine gf_callV cmX12_asksSign lkX12_358 imX12_asksSign seX12_asksSign ⟨rfl, by decide⟩ dX12_goesOn_325 (d1 := d - 1) (by omega) (gt_247 hG) (e_X12_asksSign E (by omega) h hG M N T aT eN bD bP cD wT oP bS cS wS 44 (by omega)) rfl rfl (Nat.le_of_ble_eq_true rfl) ?_
              have hI6 : rI L (agS M L (aT, eN, bD, bP, cD, wT, oP, bS, cS, wS) 44) := agS_I (by decide) I0
              have hA6 : (agS M L (aT, eN, bD, bP, cD, wT, oP, bS, cS, wS) 44).1 ≤ L := hI6.1
              have hB6 : (agS M L (aT, eN, bD, bP, cD, wT, oP, bS, cS, wS) 44).2.2.2.2.1 + (agS M L (aT, eN, bD, bP, cD, wT, oP, bS, cS, wS) 44).2.2.2.2.2.1 ≤ (agS M L (aT, eN, bD, bP, cD, wT, oP, bS, cS, wS) 44).1 + 2 := hI6.2
              refine gf_aload_n 0 dX12_goesOn_328 rfl rfl ?_
              refine gf_getI flX12_285 rfl dX12_goesOn_329 (gt_247 hG) ?_
              rw [show hp_i (hm h (pM M (agS M L (aT, eN, bD, bP, cD, wT, oP, bS, cS, wS) 44)) N) 247 5 = (agS M L (aT, eN, bD, bP, cD, wT, oP, bS, cS, wS) 44).2.2.1 from rfl]
              refine gf_if_eq 337 dX12_goesOn_332 rfl (fun zc332 => ?_) (fun zc332 => ?_)
              · have hag : (agS M L (aT, eN, bD, bP, cD, wT, oP, bS, cS, wS) 44).2.2.2.2 = (aT, eN, bD, bP, cD, wT, oP, bS, cS, wS).2.2.2.2 := agS_r
                have hbs2 : (agS M L (aT, eN, bD, bP, cD, wT, oP, bS, cS, wS) 44).2.2.2.2.2.2.2.1 < 1000 := by rw [hag]; exact hbs
                refine gf_aload_n 0 dX12_goesOn_337 rfl rfl ?_
                refine gf_callV cmX12_dropsToMark lkX12_372 imX12_dropsToMark seX12_dropsToMark ⟨rfl, by decide⟩ dX12_goesOn_338 (d1 := d - 1) (by omega) (gt_247 hG) (e_X12_dropsToMark E (by omega) h hG M N ((agS M L (aT, eN, bD, bP, cD, wT, oP, bS, cS, wS) 44).1) ((agS M L (aT, eN, bD, bP, cD, wT, oP, bS, cS, wS) 44).2.1) ((agS M L (aT, eN, bD, bP, cD, wT, oP, bS, cS, wS) 44).2.2.1) ((agS M L (aT, eN, bD, bP, cD, wT, oP, bS, cS, wS) 44).2.2.2.1) ((agS M L (aT, eN, bD, bP, cD, wT, oP, bS, cS, wS) 44).2.2.2.2.1) ((agS M L (aT, eN, bD, bP, cD, wT, oP, bS, cS, wS) 44).2.2.2.2.2.1) ((agS M L (aT, eN, bD, bP, cD, wT, oP, bS, cS, wS) 44).2.2.2.2.2.2.1) ((agS M L (aT, eN, bD, bP, cD, wT, oP, bS, cS, wS) 44).2.2.2.2.2.2.2.1) ((agS M L (aT, eN, bD, bP, cD, wT, oP, bS, cS, wS) 44).2.2.2.2.2.2.2.2.1) ((agS M L (aT, eN, bD, bP, cD, wT, oP, bS, cS, wS) 44).2.2.2.2.2.2.2.2.2) (by omega) (by omega) hbs2) rfl rfl (Nat.le_of_ble_eq_true rfl) ?_
                change gf _ _ _ _ _ _ (hm h (pM M (dwQ (agS M L (aT, eN, bD, bP, cD, wT, oP, bS, cS, wS) 44) (tmP (agS M L (aT, eN, bD, bP, cD, wT, oP, bS, cS, wS) 44).2.2.2.2.2.2.2.1 (agS M L (aT, eN, bD, bP, cD, wT, oP, bS, cS, wS) 44).2.2.2.2.2.2.2.2.2))) N) _ _
                have hI7 : rI L (dwQ (agS M L (aT, eN, bD, bP, cD, wT, oP, bS, cS, wS) 44) (tmP (agS M L (aT, eN, bD, bP, cD, wT, oP, bS, cS, wS) 44).2.2.2.2.2.2.2.1 (agS M L (aT, eN, bD, bP, cD, wT, oP, bS, cS, wS) 44).2.2.2.2.2.2.2.2.2)) := dwQ_I hI6
                have hA7 : (dwQ (agS M L (aT, eN, bD, bP, cD, wT, oP, bS, cS, wS) 44) (tmP (agS M L (aT, eN, bD, bP, cD, wT, oP, bS, cS, wS) 44).2.2.2.2.2.2.2.1 (agS M L (aT, eN, bD, bP, cD, wT, oP, bS, cS, wS) 44).2.2.2.2.2.2.2.2.2)).1 ≤ L := hI7.1
                have hB7 : (dwQ (agS M L (aT, eN, bD, bP, cD, wT, oP, bS, cS, wS) 44) (tmP (agS M L (aT, eN, bD, bP, cD, wT, oP, bS, cS, wS) 44).2.2.2.2.2.2.2.1 (agS M L (aT, eN, bD, bP, cD, wT, oP, bS, cS, wS) 44).2.2.2.2.2.2.2.2.2)).2.2.2.2.1 + (dwQ (agS M L (aT, eN, bD, bP, cD, wT, oP, bS, cS, wS) 44) (tmP (agS M L (aT, eN, bD, bP, cD, wT, oP, bS, cS, wS) 44).2.2.2.2.2.2.2.1 (agS M L (aT, eN, bD, bP, cD, wT, oP, bS, cS, wS) 44).2.2.2.2.2.2.2.2.2)).2.2.2.2.2.1 ≤ (dwQ (agS M L (aT, eN, bD, bP, cD, wT, oP, bS, cS, wS) 44) (tmP (agS M L (aT, eN, bD, bP, cD, wT, oP, bS, cS, wS) 44).2.2.2.2.2.2.2.1 (agS M L (aT, eN, bD, bP, cD, wT, oP, bS, cS, wS) 44).2.2.2.2.2.2.2.2.2)).1 + 2 := hI7.2
                refine gf_aload_n 0 dX12_goesOn_341 rfl rfl ?_
                refine gf_getR flX12_103 rfl dX12_goesOn_342 (gt_247 hG) (gp_247_38 hG) ?_
                refine gf_aload_n 0 dX12_goesOn_345 rfl rfl ?_
                refine gf_getI flX12_335 rfl dX12_goesOn_346 (gt_247 hG) ?_
                rw [show hp_i (hm h (pM M (dwQ (agS M L (aT, eN, bD, bP, cD, wT, oP, bS, cS, wS) 44) (tmP (agS M L (aT, eN, bD, bP, cD, wT, oP, bS, cS, wS) 44).2.2.2.2.2.2.2.1 (agS M L (aT, eN, bD, bP, cD, wT, oP, bS, cS, wS) 44).2.2.2.2.2.2.2.2.2))) N) 247 39 = (nI ((dwQ (agS M L (aT, eN, bD, bP, cD, wT, oP, bS, cS, wS) 44) (tmP (agS M L (aT, eN, bD, bP, cD, wT, oP, bS, cS, wS) 44).2.2.2.2.2.2.2.1 (agS M L (aT, eN, bD, bP, cD, wT, oP, bS, cS, wS) 44).2.2.2.2.2.2.2.2.2)).2.2.2.2.2.1)) from rfl]
                refine gf_iconst (1) dX12_goesOn_349 rfl ?_
                refine gf_isub dX12_goesOn_350 ?_
                obtain ⟨m9, hm1, hm2, hm3, hm4⟩ := mk_dw (ws := wS) (b := bS) (v := 22) (by decide) wT cD cS (show mkF wS bS wT = 22 from zc319)
                have hw0 : (dwQ (agS M L (aT, eN, bD, bP, cD, wT, oP, bS, cS, wS) 44) (tmP (agS M L (aT, eN, bD, bP, cD, wT, oP, bS, cS, wS) 44).2.2.2.2.2.2.2.1 (agS M L (aT, eN, bD, bP, cD, wT, oP, bS, cS, wS) 44).2.2.2.2.2.2.2.2.2)).2.2.2.2.2.1 = m9 + 1 := by show (dwS (agS M L (aT, eN, bD, bP, cD, wT, oP, bS, cS, wS) 44).2.2.2.2.2.2.2.2.2 (tmP (agS M L (aT, eN, bD, bP, cD, wT, oP, bS, cS, wS) 44).2.2.2.2.2.2.2.1 (agS M L (aT, eN, bD, bP, cD, wT, oP, bS, cS, wS) 44).2.2.2.2.2.2.2.2.2) (agS M L (aT, eN, bD, bP, cD, wT, oP, bS, cS, wS) 44).2.2.2.2.2.1 (agS M L (aT, eN, bD, bP, cD, wT, oP, bS, cS, wS) 44).2.2.2.2.1 (agS M L (aT, eN, bD, bP, cD, wT, oP, bS, cS, wS) 44).2.2.2.2.2.2.2.2.1).1 = m9 + 1; rw [hag]; exact hm1
                have hw1 : 1 ≤ (dwQ (agS M L (aT, eN, bD, bP, cD, wT, oP, bS, cS, wS) 44) (tmP (agS M L (aT, eN, bD, bP, cD, wT, oP, bS, cS, wS) 44).2.2.2.2.2.2.2.1 (agS M L (aT, eN, bD, bP, cD, wT, oP, bS, cS, wS) 44).2.2.2.2.2.2.2.2.2)).2.2.2.2.2.1 := by omega
                rw [show nI ((dwQ (agS M L (aT, eN, bD, bP, cD, wT, oP, bS, cS, wS) 44) (tmP (agS M L (aT, eN, bD, bP, cD, wT, oP, bS, cS, wS) 44).2.2.2.2.2.2.2.1 (agS M L (aT, eN, bD, bP, cD, wT, oP, bS, cS, wS) 44).2.2.2.2.2.2.2.2.2)).2.2.2.2.2.1) - 1 = nI ((dwQ (agS M L (aT, eN, bD, bP, cD, wT, oP, bS, cS, wS) 44) (tmP (agS M L (aT, eN, bD, bP, cD, wT, oP, bS, cS, wS) 44).2.2.2.2.2.2.2.1 (agS M L (aT, eN, bD, bP, cD, wT, oP, bS, cS, wS) 44).2.2.2.2.2.2.2.2.2)).2.2.2.2.2.1 - 1) from pk_sub (b := 1) hw1]
                refine gf_dup2 dX12_goesOn_351 rfl rfl ?_
                refine gf_iald 700 dX12_goesOn_352 (gt_277 hG) (gl_277 hG) rfl (by omega) (by decide) ?_
                refine gf_iconst (2) dX12_goesOn_353 rfl ?_
                refine gf_iadd dX12_goesOn_354 ?_
                refine gf_iast 700 dX12_goesOn_355 (gt_277 hG) (gl_277 hG) rfl (by omega) (by decide) ?_
                rw [mI_30, pM_r30]
                refine gf_iconst (1) dX12_goesOn_356 rfl ?_
                exact gf_bret dX12_goesOn_357 rfl (by rw [show gsR M L (aT, eN, bD, bP, cD, wT, oP, bS, cS, wS) = (true, (s9 (dwQ (agS M L (aT, eN, bD, bP, cD, wT, oP, bS, cS, wS) 44) (tmP (agS M L (aT, eN, bD, bP, cD, wT, oP, bS, cS, wS) 44).2.2.2.2.2.2.2.1 (agS M L (aT, eN, bD, bP, cD, wT, oP, bS, cS, wS) 44).2.2.2.2.2.2.2.2.2)) (va_up ((dwQ (agS M L (aT, eN, bD, bP, cD, wT, oP, bS, cS, wS) 44) (tmP (agS M L (aT, eN, bD, bP, cD, wT, oP, bS, cS, wS) 44).2.2.2.2.2.2.2.1 (agS M L (aT, eN, bD, bP, cD, wT, oP, bS, cS, wS) 44).2.2.2.2.2.2.2.2.2)).2.2.2.2.2.2.2.2.2) ((dwQ (agS M L (aT, eN, bD, bP, cD, wT, oP, bS, cS, wS) 44) (tmP (agS M L (aT, eN, bD, bP, cD, wT, oP, bS, cS, wS) 44).2.2.2.2.2.2.2.1 (agS M L (aT, eN, bD, bP, cD, wT, oP, bS, cS, wS) 44).2.2.2.2.2.2.2.2.2)).2.2.2.2.2.1 - 1) (((dwQ (agS M L (aT, eN, bD, bP, cD, wT, oP, bS, cS, wS) 44) (tmP (agS M L (aT, eN, bD, bP, cD, wT, oP, bS, cS, wS) 44).2.2.2.2.2.2.2.1 (agS M L (aT, eN, bD, bP, cD, wT, oP, bS, cS, wS) 44).2.2.2.2.2.2.2.2.2)).2.2.2.2.2.2.2.2.2 ((dwQ (agS M L (aT, eN, bD, bP, cD, wT, oP, bS, cS, wS) 44) (tmP (agS M L (aT, eN, bD, bP, cD, wT, oP, bS, cS, wS) 44).2.2.2.2.2.2.2.1 (agS M L (aT, eN, bD, bP, cD, wT, oP, bS, cS, wS) 44).2.2.2.2.2.2.2.2.2)).2.2.2.2.2.1 - 1)) + 2)))) from (if_pos zc124).trans ((if_pos zc133).trans ((if_pos zc209).trans ((if_pos zc218).trans ((if_neg zc310).trans ((if_pos zc319).trans (if_pos zc332))))))]; rfl) (by rw [show gsR M L (aT, eN, bD, bP, cD, wT, oP, bS, cS, wS) = (true, (s9 (dwQ (agS M L (aT, eN, bD, bP, cD, wT, oP, bS, cS, wS) 44) (tmP (agS M L (aT, eN, bD, bP, cD, wT, oP, bS, cS, wS) 44).2.2.2.2.2.2.2.1 (agS M L (aT, eN, bD, bP, cD, wT, oP, bS, cS, wS) 44).2.2.2.2.2.2.2.2.2)) (va_up ((dwQ (agS M L (aT, eN, bD, bP, cD, wT, oP, bS, cS, wS) 44) (tmP (agS M L (aT, eN, bD, bP, cD, wT, oP, bS, cS, wS) 44).2.2.2.2.2.2.2.1 (agS M L (aT, eN, bD, bP, cD, wT, oP, bS, cS, wS) 44).2.2.2.2.2.2.2.2.2)).2.2.2.2.2.2.2.2.2) ((dwQ (agS M L (aT, eN, bD, bP, cD, wT, oP, bS, cS, wS) 44) (tmP (agS M L (aT, eN, bD, bP, cD, wT, oP, bS, cS, wS) 44).2.2.2.2.2.2.2.1 (agS M L (aT, eN, bD, bP, cD, wT, oP, bS, cS, wS) 44).2.2.2.2.2.2.2.2.2)).2.2.2.2.2.1 - 1) (((dwQ (agS M L (aT, eN, bD, bP, cD, wT, oP, bS, cS, wS) 44) (tmP (agS M L (aT, eN, bD, bP, cD, wT, oP, bS, cS, wS) 44).2.2.2.2.2.2.2.1 (agS M L (aT, eN, bD, bP, cD, wT, oP, bS, cS, wS) 44).2.2.2.2.2.2.2.2.2)).2.2.2.2.2.2.2.2.2 ((dwQ (agS M L (aT, eN, bD, bP, cD, wT, oP, bS, cS, wS) 44) (tmP (agS M L (aT, eN, bD, bP, cD, wT, oP, bS, cS, wS) 44).2.2.2.2.2.2.2.1 (agS M L (aT, eN, bD, bP, cD, wT, oP, bS, cS, wS) 44).2.2.2.2.2.2.2.2.2)).2.2.2.2.2.1 - 1)) + 2)))) from (if_pos zc124).trans ((if_pos zc133).trans ((if_pos zc209).trans ((if_pos zc218).trans ((if_neg zc310).trans ((if_pos zc319).trans (if_pos zc332))))))]; first | done | rfl)
              · refine gf_iconst (0) dX12_goesOn_335 rfl ?_
                exact gf_bret dX12_goesOn_336 rfl (by rw [show gsR M L (aT, eN, bD, bP, cD, wT, oP, bS, cS, wS) = (false, (agS M L (aT, eN, bD, bP, cD, wT, oP, bS, cS, wS) 44)) from (if_pos zc124).trans ((if_pos zc133).trans ((if_pos zc209).trans ((if_pos zc218).trans ((if_neg zc310).trans ((if_pos zc319).trans (if_neg zc332))))))]; rfl) (by rw [show gsR M L (aT, eN, bD, bP, cD, wT, oP, bS, cS, wS) = (false, (agS M L (aT, eN, bD, bP, cD, wT, oP, bS, cS, wS) 44)) from (if_pos zc124).trans ((if_pos zc133).trans ((if_pos zc209).trans ((if_pos zc218).trans ((if_neg zc310).trans ((if_pos zc319).trans (if_neg zc332))))))]; first | done | rfl)
        · have hq9 : tgQ M L (aT, eN, bD, bP, cD, wT, oP, bS, cS, wS) 45 = true := bI_t zc218
          have hc9 : lkV M L aT = 45 := of_decide_eq_true ((if_pos zb0).symm.trans hq9)
          rw [show (tgS M L (aT, eN, bD, bP, cD, wT, oP, bS, cS, wS) 45) = ((aT + 1), eN, bD, bP, cD, wT, oP, bS, cS, wS) from by rw [(tgS_P hq9).1]; show (skb M L aT + 1, _) = _; rw [hs]]
          have hlt : aT < L := by have := lkV_lt (by decide) hc9; omega
          have hm9 : M 1 aT = 45 := by unfold lkV at hc9; rw [hs, if_pos hlt] at hc9; exact hc9
          have hIs1 : rI L ((aT + 1), eN, bD, bP, cD, wT, oP, bS, cS, wS) := ⟨hlt, by show cD + wT ≤ aT + 1 + 2; omega⟩
          have hAs1 : aT + 1 ≤ L := hlt
          have hBs1 : cD + wT ≤ aT + 1 + 2 := hIs1.2
          refine gf_aload_n 0 dX12_goesOn_221 rfl rfl ?_
          refine gf_getR flX12_7 rfl dX12_goesOn_222 (gt_247 hG) (gp_247_0 hG) ?_
          refine gf_aload_n 0 dX12_goesOn_225 rfl rfl ?_
          refine gf_getI flX12_291 rfl dX12_goesOn_226 (gt_247 hG) ?_
          rw [show hp_i (hm h (pM M ((aT + 1), eN, bD, bP, cD, wT, oP, bS, cS, wS)) N) 247 2 = (nI (aT + 1)) from rfl]
          refine gf_iconst (1) dX12_goesOn_229 rfl ?_
          refine gf_isub dX12_goesOn_230 ?_
          rw [nI_pred]
          refine gf_iald 600 dX12_goesOn_231 (gt_248 hG) (gl_248 hG) rfl (by omega) (by decide) ?_
          refine gf_bipush (43) dX12_goesOn_232 rfl ?_
          refine gf_icmp_ne 241 dX12_goesOn_234 rfl (fun _ => ?_) (fun q => absurd q ((by show ¬ M 1 aT = 43; rw [hm9]; decide)))
          refine gf_iconst (2) dX12_goesOn_241 rfl ?_
          refine gf_istore_n 1 dX12_goesOn_242 rfl (Nat.le_of_ble_eq_true rfl) ?_
          refine gf_lw (l_das E (by omega) h hG M N (aT + 1) eN bD bP oP bS wS 2 (r := dwS wS (fun i => decide (wS i = 3) || decide (wS i = 4) || decide (wS i = 1) || decide (wS i = 2)) wT cD cS) ?_ wT cD cS (by omega) (by omega) rfl) ⟨rfl, rfl, trivial⟩
          change gf _ _ _ _ _ _ (hm h (pM M (dwQ ((aT + 1), eN, bD, bP, cD, wT, oP, bS, cS, wS) (fun i => decide (wS i = 3) || decide (wS i = 4) || decide (wS i = 1) || decide (wS i = 2)))) N) _ _
          have hI8 : rI L (dwQ ((aT + 1), eN, bD, bP, cD, wT, oP, bS, cS, wS) (fun i => decide (wS i = 3) || decide (wS i = 4) || decide (wS i = 1) || decide (wS i = 2))) := dwQ_I hIs1
          have hA8 : (dwQ ((aT + 1), eN, bD, bP, cD, wT, oP, bS, cS, wS) (fun i => decide (wS i = 3) || decide (wS i = 4) || decide (wS i = 1) || decide (wS i = 2))).1 ≤ L := hI8.1
          have hB8 : (dwQ ((aT + 1), eN, bD, bP, cD, wT, oP, bS, cS, wS) (fun i => decide (wS i = 3) || decide (wS i = 4) || decide (wS i = 1) || decide (wS i = 2))).2.2.2.2.1 + (dwQ ((aT + 1), eN, bD, bP, cD, wT, oP, bS, cS, wS) (fun i => decide (wS i = 3) || decide (wS i = 4) || decide (wS i = 1) || decide (wS i = 2))).2.2.2.2.2.1 ≤ (dwQ ((aT + 1), eN, bD, bP, cD, wT, oP, bS, cS, wS) (fun i => decide (wS i = 3) || decide (wS i = 4) || decide (wS i = 1) || decide (wS i = 2))).1 + 2 := hI8.2
          refine gf_lw (lv' := [(0, .ref (E.1 + 247)), (1, .int 2)]) ?_ ⟨rfl, rfl, trivial⟩
          refine gf_aload_n 0 dX12_goesOn_282 rfl rfl ?_
          refine gf_getR flX12_103 rfl dX12_goesOn_283 (gt_247 hG) (gp_247_38 hG) ?_
          refine gf_aload_n 0 dX12_goesOn_286 rfl rfl ?_
          refine gf_getI flX12_335 rfl dX12_goesOn_287 (gt_247 hG) ?_
          rw [show hp_i (hm h (pM M (dwQ ((aT + 1), eN, bD, bP, cD, wT, oP, bS, cS, wS) (fun i => decide (wS i = 3) || decide (wS i = 4) || decide (wS i = 1) || decide (wS i = 2)))) N) 247 39 = (nI ((dwQ ((aT + 1), eN, bD, bP, cD, wT, oP, bS, cS, wS) (fun i => decide (wS i = 3) || decide (wS i = 4) || decide (wS i = 1) || decide (wS i = 2))).2.2.2.2.2.1)) from rfl]
          refine gf_iload_n 1 dX12_goesOn_290 rfl rfl ?_
          refine gf_iast 700 dX12_goesOn_291 (gt_277 hG) (gl_277 hG) rfl (by omega) (by decide) ?_
          rw [mI_30, pM_r30]
          refine gf_aload_n 0 dX12_goesOn_292 rfl rfl ?_
          refine gf_dup dX12_goesOn_293 rfl ?_
          refine gf_getI flX12_335 rfl dX12_goesOn_294 (gt_247 hG) ?_
          rw [show hp_i (hm h (pM M (s9 (dwQ ((aT + 1), eN, bD, bP, cD, wT, oP, bS, cS, wS) (fun i => decide (wS i = 3) || decide (wS i = 4) || decide (wS i = 1) || decide (wS i = 2))) (va_up ((dwQ ((aT + 1), eN, bD, bP, cD, wT, oP, bS, cS, wS) (fun i => decide (wS i = 3) || decide (wS i = 4) || decide (wS i = 1) || decide (wS i = 2))).2.2.2.2.2.2.2.2.2) ((dwQ ((aT + 1), eN, bD, bP, cD, wT, oP, bS, cS, wS) (fun i => decide (wS i = 3) || decide (wS i = 4) || decide (wS i = 1) || decide (wS i = 2))).2.2.2.2.2.1) 2))) N) 247 39 = (nI ((dwQ ((aT + 1), eN, bD, bP, cD, wT, oP, bS, cS, wS) (fun i => decide (wS i = 3) || decide (wS i = 4) || decide (wS i = 1) || decide (wS i = 2))).2.2.2.2.2.1)) from rfl]
          refine gf_iconst (1) dX12_goesOn_297 rfl ?_
          refine gf_iadd dX12_goesOn_298 ?_
          rw [nI_1 ((dwQ ((aT + 1), eN, bD, bP, cD, wT, oP, bS, cS, wS) (fun i => decide (wS i = 3) || decide (wS i = 4) || decide (wS i = 1) || decide (wS i = 2))).2.2.2.2.2.1)]
          refine gf_putI flX12_335 rfl rfl dX12_goesOn_299 (gt_247 hG) ⟨rfl, rfl⟩ ?_
          rw [mI_0, pM_39]
          refine gf_iconst (1) dX12_goesOn_302 rfl ?_
          exact gf_bret dX12_goesOn_303 rfl (by rw [show gsR M L (aT, eN, bD, bP, cD, wT, oP, bS, cS, wS) = (true, (s9 (s5 (dwQ ((aT + 1), eN, bD, bP, cD, wT, oP, bS, cS, wS) (fun i => decide (wS i = 3) || decide (wS i = 4) || decide (wS i = 1) || decide (wS i = 2))) (((dwQ ((aT + 1), eN, bD, bP, cD, wT, oP, bS, cS, wS) (fun i => decide (wS i = 3) || decide (wS i = 4) || decide (wS i = 1) || decide (wS i = 2))).2.2.2.2.2.1) + 1)) (va_up ((dwQ ((aT + 1), eN, bD, bP, cD, wT, oP, bS, cS, wS) (fun i => decide (wS i = 3) || decide (wS i = 4) || decide (wS i = 1) || decide (wS i = 2))).2.2.2.2.2.2.2.2.2) ((dwQ ((aT + 1), eN, bD, bP, cD, wT, oP, bS, cS, wS) (fun i => decide (wS i = 3) || decide (wS i = 4) || decide (wS i = 1) || decide (wS i = 2))).2.2.2.2.2.1) 2))) from (if_pos zc124).trans ((if_pos zc133).trans ((if_pos zc209).trans (if_neg zc218)))]; rfl) (by rw [show gsR M L (aT, eN, bD, bP, cD, wT, oP, bS, cS, wS) = (true, (s9 (s5 (dwQ ((aT + 1), eN, bD, bP, cD, wT, oP, bS, cS, wS) (fun i => decide (wS i = 3) || decide (wS i = 4) || decide (wS i = 1) || decide (wS i = 2))) (((dwQ ((aT + 1), eN, bD, bP, cD, wT, oP, bS, cS, wS) (fun i => decide (wS i = 3) || decide (wS i = 4) || decide (wS i = 1) || decide (wS i = 2))).2.2.2.2.2.1) + 1)) (va_up ((dwQ ((aT + 1), eN, bD, bP, cD, wT, oP, bS, cS, wS) (fun i => decide (wS i = 3) || decide (wS i = 4) || decide (wS i = 1) || decide (wS i = 2))).2.2.2.2.2.2.2.2.2) ((dwQ ((aT + 1), eN, bD, bP, cD, wT, oP, bS, cS, wS) (fun i => decide (wS i = 3) || decide (wS i = 4) || decide (wS i = 1) || decide (wS i = 2))).2.2.2.2.2.1) 2))) from (if_pos zc124).trans ((if_pos zc133).trans ((if_pos zc209).trans (if_neg zc218)))]; first | done | rfl)
    · have hq9 : tgQ M L (aT, eN, bD, bP, cD, wT, oP, bS, cS, wS) 47 = true := bI_t zc133
      have hc9 : lkV M L aT = 47 := of_decide_eq_true ((if_pos zb0).symm.trans hq9)
      rw [show (tgS M L (aT, eN, bD, bP, cD, wT, oP, bS, cS, wS) 47) = ((aT + 1), eN, bD, bP, cD, wT, oP, bS, cS, wS) from by rw [(tgS_P hq9).1]; show (skb M L aT + 1, _) = _; rw [hs]]
      have hlt : aT < L := by have := lkV_lt (by decide) hc9; omega
      have hm9 : M 1 aT = 47 := by unfold lkV at hc9; rw [hs, if_pos hlt] at hc9; exact hc9
      have hIs1 : rI L ((aT + 1), eN, bD, bP, cD, wT, oP, bS, cS, wS) := ⟨hlt, by show cD + wT ≤ aT + 1 + 2; omega⟩
      have hAs1 : aT + 1 ≤ L := hlt
      have hBs1 : cD + wT ≤ aT + 1 + 2 := hIs1.2
      refine gf_aload_n 0 dX12_goesOn_136 rfl rfl ?_
      refine gf_getR flX12_7 rfl dX12_goesOn_137 (gt_247 hG) (gp_247_0 hG) ?_
      refine gf_aload_n 0 dX12_goesOn_140 rfl rfl ?_
      refine gf_getI flX12_291 rfl dX12_goesOn_141 (gt_247 hG) ?_
      rw [show hp_i (hm h (pM M ((aT + 1), eN, bD, bP, cD, wT, oP, bS, cS, wS)) N) 247 2 = (nI (aT + 1)) from rfl]
      refine gf_iconst (1) dX12_goesOn_144 rfl ?_
      refine gf_isub dX12_goesOn_145 ?_
      rw [nI_pred]
      refine gf_iald 600 dX12_goesOn_146 (gt_248 hG) (gl_248 hG) rfl (by omega) (by decide) ?_
      refine gf_bipush (42) dX12_goesOn_147 rfl ?_
      refine gf_icmp_ne 156 dX12_goesOn_149 rfl (fun _ => ?_) (fun q => absurd q ((by show ¬ M 1 aT = 42; rw [hm9]; decide)))
      refine gf_iconst (4) dX12_goesOn_156 rfl ?_
      refine gf_istore_n 1 dX12_goesOn_157 rfl (Nat.le_of_ble_eq_true rfl) ?_
      refine gf_lw (l_dts E (by omega) h hG M N (aT + 1) eN bD bP oP bS wS 4 (r := dwS wS (fun i => decide (wS i = 3) || decide (wS i = 4)) wT cD cS) ?_ wT cD cS (by omega) (by omega) rfl) ⟨rfl, rfl, trivial⟩
      change gf _ _ _ _ _ _ (hm h (pM M (dwQ ((aT + 1), eN, bD, bP, cD, wT, oP, bS, cS, wS) (fun i => decide (wS i = 3) || decide (wS i = 4)))) N) _ _
      have hI9 : rI L (dwQ ((aT + 1), eN, bD, bP, cD, wT, oP, bS, cS, wS) (fun i => decide (wS i = 3) || decide (wS i = 4))) := dwQ_I hIs1
      have hA9 : (dwQ ((aT + 1), eN, bD, bP, cD, wT, oP, bS, cS, wS) (fun i => decide (wS i = 3) || decide (wS i = 4))).1 ≤ L := hI9.1
      have hB9 : (dwQ ((aT + 1), eN, bD, bP, cD, wT, oP, bS, cS, wS) (fun i => decide (wS i = 3) || decide (wS i = 4))).2.2.2.2.1 + (dwQ ((aT + 1), eN, bD, bP, cD, wT, oP, bS, cS, wS) (fun i => decide (wS i = 3) || decide (wS i = 4))).2.2.2.2.2.1 ≤ (dwQ ((aT + 1), eN, bD, bP, cD, wT, oP, bS, cS, wS) (fun i => decide (wS i = 3) || decide (wS i = 4))).1 + 2 := hI9.2
      refine gf_lw (lv' := [(0, .ref (E.1 + 247)), (1, .int 4)]) ?_ ⟨rfl, rfl, trivial⟩
      refine gf_aload_n 0 dX12_goesOn_181 rfl rfl ?_
      refine gf_getR flX12_103 rfl dX12_goesOn_182 (gt_247 hG) (gp_247_38 hG) ?_
      refine gf_aload_n 0 dX12_goesOn_185 rfl rfl ?_
      refine gf_getI flX12_335 rfl dX12_goesOn_186 (gt_247 hG) ?_
      rw [show hp_i (hm h (pM M (dwQ ((aT + 1), eN, bD, bP, cD, wT, oP, bS, cS, wS) (fun i => decide (wS i = 3) || decide (wS i = 4)))) N) 247 39 = (nI ((dwQ ((aT + 1), eN, bD, bP, cD, wT, oP, bS, cS, wS) (fun i => decide (wS i = 3) || decide (wS i = 4))).2.2.2.2.2.1)) from rfl]
      refine gf_iload_n 1 dX12_goesOn_189 rfl rfl ?_
      refine gf_iast 700 dX12_goesOn_190 (gt_277 hG) (gl_277 hG) rfl (by omega) (by decide) ?_
      rw [mI_30, pM_r30]
      refine gf_aload_n 0 dX12_goesOn_191 rfl rfl ?_
      refine gf_dup dX12_goesOn_192 rfl ?_
      refine gf_getI flX12_335 rfl dX12_goesOn_193 (gt_247 hG) ?_
      rw [show hp_i (hm h (pM M (s9 (dwQ ((aT + 1), eN, bD, bP, cD, wT, oP, bS, cS, wS) (fun i => decide (wS i = 3) || decide (wS i = 4))) (va_up ((dwQ ((aT + 1), eN, bD, bP, cD, wT, oP, bS, cS, wS) (fun i => decide (wS i = 3) || decide (wS i = 4))).2.2.2.2.2.2.2.2.2) ((dwQ ((aT + 1), eN, bD, bP, cD, wT, oP, bS, cS, wS) (fun i => decide (wS i = 3) || decide (wS i = 4))).2.2.2.2.2.1) 4))) N) 247 39 = (nI ((dwQ ((aT + 1), eN, bD, bP, cD, wT, oP, bS, cS, wS) (fun i => decide (wS i = 3) || decide (wS i = 4))).2.2.2.2.2.1)) from rfl]
      refine gf_iconst (1) dX12_goesOn_196 rfl ?_
      refine gf_iadd dX12_goesOn_197 ?_
      rw [nI_1 ((dwQ ((aT + 1), eN, bD, bP, cD, wT, oP, bS, cS, wS) (fun i => decide (wS i = 3) || decide (wS i = 4))).2.2.2.2.2.1)]
      refine gf_putI flX12_335 rfl rfl dX12_goesOn_198 (gt_247 hG) ⟨rfl, rfl⟩ ?_
      rw [mI_0, pM_39]
      refine gf_iconst (1) dX12_goesOn_201 rfl ?_
      exact gf_bret dX12_goesOn_202 rfl (by rw [show gsR M L (aT, eN, bD, bP, cD, wT, oP, bS, cS, wS) = (true, (s9 (s5 (dwQ ((aT + 1), eN, bD, bP, cD, wT, oP, bS, cS, wS) (fun i => decide (wS i = 3) || decide (wS i = 4))) (((dwQ ((aT + 1), eN, bD, bP, cD, wT, oP, bS, cS, wS) (fun i => decide (wS i = 3) || decide (wS i = 4))).2.2.2.2.2.1) + 1)) (va_up ((dwQ ((aT + 1), eN, bD, bP, cD, wT, oP, bS, cS, wS) (fun i => decide (wS i = 3) || decide (wS i = 4))).2.2.2.2.2.2.2.2.2) ((dwQ ((aT + 1), eN, bD, bP, cD, wT, oP, bS, cS, wS) (fun i => decide (wS i = 3) || decide (wS i = 4))).2.2.2.2.2.1) 4))) from (if_pos zc124).trans (if_neg zc133)]; rfl) (by rw [show gsR M L (aT, eN, bD, bP, cD, wT, oP, bS, cS, wS) = (true, (s9 (s5 (dwQ ((aT + 1), eN, bD, bP, cD, wT, oP, bS, cS, wS) (fun i => decide (wS i = 3) || decide (wS i = 4))) (((dwQ ((aT + 1), eN, bD, bP, cD, wT, oP, bS, cS, wS) (fun i => decide (wS i = 3) || decide (wS i = 4))).2.2.2.2.2.1) + 1)) (va_up ((dwQ ((aT + 1), eN, bD, bP, cD, wT, oP, bS, cS, wS) (fun i => decide (wS i = 3) || decide (wS i = 4))).2.2.2.2.2.2.2.2.2) ((dwQ ((aT + 1), eN, bD, bP, cD, wT, oP, bS, cS, wS) (fun i => decide (wS i = 3) || decide (wS i = 4))).2.2.2.2.2.1) 4))) from (if_pos zc124).trans (if_neg zc133)]; first | done | rfl)
def gonQ (M : mM) (L : Nat) (q : pS) : Bool × pS := gsR M L (gcF M L 700 q)
theorem e_X12_goesOn (E : gE) {d : Nat} (hd : 4 ≤ d) {L : Nat} (h : hp_T) (hG : gr h) (M : mM) (N : mN) (T : tpI M L) (q : pS) (I0 : rI L q) (hbs : q.2.2.2.2.2.2.2.1 < 1000) (zb0 : q.2.2.1 = 0) : ev E mX12_goesOn d [.ref (E.1 + 247)] (hm h (pM M q) N) (some (.int (bI (gonQ M L q).1))) (hm h (pM M (gonQ M L q).2) N) := by
  refine ev_of rfl (fun q => absurd q (by decide)) (Nat.le_of_ble_eq_true rfl) ?_
  have hL6 := T.2.1
  refine l_gc E hd h hG M N T hbs (r := gcF M L 700 q) (fun Ir hs hb h0 => ?_) 700 q I0 rfl zb0 (by omega) rfl
  exact l_gsR E hd h hG M N T _ _ _ _ _ _ _ _ _ _ Ir (by rw [← hb] at hbs; exact hbs) h0 hs
