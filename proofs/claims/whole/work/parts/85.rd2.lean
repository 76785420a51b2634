/-! ===== the reference's reader: codes, what waits ===== -/
theorem gf_ldcw {E : gE} {M : gM} {d pc : Nat} {lv : List (Nat × Value)} {rest : List Value} {h h' : hp_T} {v : Option Value} {idx : Nat} (w : Int32) (hc : Cond.constant M.1.cls idx w ∈ tt) (hdg : decode M.2.1 pc = .ok (.ldc_w idx, 3)) (k : gf E M d (pc + 3) lv (.int w :: rest) h v h') : gf E M d pc lv rest h v h' := gf_pure (fun hA hl kk => lv_ldcw hA.1 hA.2.1 hA.2.2.2.2.1 (hA.2.2.2.2.2.1 _ hc) hdg (kk _ hl)) k
def cdS (q : pS) (v : Int32) : pS := (q.1, q.2.1, q.2.2.1, q.2.2.2.1, q.2.2.2.2.1 + 1, q.2.2.2.2.2.1, q.2.2.2.2.2.2.1, q.2.2.2.2.2.2.2.1, va_up q.2.2.2.2.2.2.2.2.1 q.2.2.2.2.1 v, q.2.2.2.2.2.2.2.2.2)
def psS (q : pS) (v : Int32) : pS := (q.1, q.2.1, q.2.2.1, q.2.2.2.1, q.2.2.2.2.1, q.2.2.2.2.2.1 + 1, q.2.2.2.2.2.2.1, q.2.2.2.2.2.2.2.1, q.2.2.2.2.2.2.2.2.1, va_up q.2.2.2.2.2.2.2.2.2 q.2.2.2.2.2.1 v)
def opS (q : pS) (v p : Int32) : pS := if q.2.2.2.2.2.2.1 = 6 then flS9 q 3 p else psS (q.1, q.2.1, q.2.2.1, q.2.2.2.1, q.2.2.2.2.1, q.2.2.2.2.2.1, q.2.2.2.2.2.2.1 + 1, q.2.2.2.2.2.2.2) v
def onV (ws : Nat → Int32) : Nat → Int32 → Bool
  | 0, _ => false
  | w + 1, x => decide (ws w = x)
def onQ (q : pS) (x : Int32) : Bool := onV q.2.2.2.2.2.2.2.2.2 q.2.2.2.2.2.1 x
def dr1 (q : pS) : pS := (q.1, q.2.1, q.2.2.1, q.2.2.2.1, q.2.2.2.2.1 + 1, q.2.2.2.2.2.1 - 1, q.2.2.2.2.2.2.1, q.2.2.2.2.2.2.2.1, va_up q.2.2.2.2.2.2.2.2.1 q.2.2.2.2.1 (q.2.2.2.2.2.2.2.2.2 (q.2.2.2.2.2.1 - 1)), q.2.2.2.2.2.2.2.2.2)
abbrev isMk (v : Int32) : Prop := 20 ≤ v ∧ v ≤ 24
def mkF (ws : Nat → Int32) (b : Nat) : Nat → Int32
  | 0 => -1
  | w + 1 => if w < b then -1 else if isMk (ws w) then ws w else mkF ws b w
def mkV (q : pS) : Int32 := mkF q.2.2.2.2.2.2.2.2.2 q.2.2.2.2.2.2.2.1 q.2.2.2.2.2.1
/-- the top ones are dropped while p -/
def dwS (ws : Nat → Int32) (p : Nat → Bool) : Nat → Nat → (Nat → Int32) → Nat × Nat × (Nat → Int32)
  | 0, c, s => (0, c, s)
  | w + 1, c, s => if p w = true then dwS ws p w (c + 1) (va_up s c (ws w)) else (w + 1, c, s)
def dwQ (q : pS) (p : Nat → Bool) : pS := (q.1, q.2.1, q.2.2.1, q.2.2.2.1, (dwS q.2.2.2.2.2.2.2.2.2 p q.2.2.2.2.2.1 q.2.2.2.2.1 q.2.2.2.2.2.2.2.2.1).2.1, (dwS q.2.2.2.2.2.2.2.2.2 p q.2.2.2.2.2.1 q.2.2.2.2.1 q.2.2.2.2.2.2.2.2.1).1, q.2.2.2.2.2.2.1, q.2.2.2.2.2.2.2.1, (dwS q.2.2.2.2.2.2.2.2.2 p q.2.2.2.2.2.1 q.2.2.2.2.1 q.2.2.2.2.2.2.2.2.1).2.2, q.2.2.2.2.2.2.2.2.2)
theorem dwS_le (ws : Nat → Int32) (p : Nat → Bool) : ∀ w c s, (dwS ws p w c s).1 + (dwS ws p w c s).2.1 = w + c
  | 0, _, _ => rfl
  | w + 1, c, s => by
    unfold dwS
    split
    · rw [dwS_le ws p w (c + 1)]
      omega
    · rfl
theorem e_X12_code (E : gE) {d : Nat} (v : Int32) (h : hp_T) (hG : gr h) (M : mM) (N : mN) (aT : Nat) (eN bD bP : Int32) (cD wT : Nat) (oP : Int32) (bS : Nat) (cS wS : Nat → Int32) (hc : cD < 128640) : ev E mX12_code d [.ref (E.1 + 247), .int v] (hm h (pM M (aT, eN, bD, bP, cD, wT, oP, bS, cS, wS)) N) none (hm h (pM M (cdS (aT, eN, bD, bP, cD, wT, oP, bS, cS, wS) v)) N) := by
  refine ev_of rfl (fun q => absurd q (by decide)) (Nat.le_of_ble_eq_true rfl) ?_
  refine gf_aload_n 0 dX12_code_0 rfl rfl ?_
  refine gf_getR flX12_100 rfl dX12_code_1 (gt_247 hG) (gp_247_36 hG) ?_
  refine gf_iconst (0) dX12_code_4 rfl ?_
  refine gf_aload_n 0 dX12_code_5 rfl rfl ?_
  refine gf_getI flX12_329 rfl dX12_code_6 (gt_247 hG) ?_
  rw [show hp_i (hm h (pM M (aT, eN, bD, bP, cD, wT, oP, bS, cS, wS)) N) 247 37 = (nI cD) from rfl]
  refine gf_iadd dX12_code_9 ?_
  refine gf_iload_n 1 dX12_code_10 rfl rfl ?_
  refine gf_iast 128640 dX12_code_11 (gt_276 hG) (gl_276 hG) (show (0 : Int32) + nI cD = nI cD from Int32.zero_add _) (by omega) (by decide) ?_
  rw [mI_29, pM_r29]
  refine gf_aload_n 0 dX12_code_12 rfl rfl ?_
  refine gf_dup dX12_code_13 rfl ?_
  refine gf_getI flX12_329 rfl dX12_code_14 (gt_247 hG) ?_
  rw [show hp_i (hm h (pM M (aT, eN, bD, bP, cD, wT, oP, bS, (va_up cS cD v), wS)) N) 247 37 = (nI cD) from rfl]
  refine gf_iconst (1) dX12_code_17 rfl ?_
  refine gf_iadd dX12_code_18 ?_
  rw [nI_1 cD]
  refine gf_putI flX12_329 rfl rfl dX12_code_19 (gt_247 hG) ⟨rfl, rfl⟩ ?_
  rw [mI_0, pM_37]
  exact gf_vretE dX12_code_22 rfl (rfl)
theorem e_X12_opens (E : gE) {d : Nat} (hd : 1 ≤ d) (v p : Int32) (h : hp_T) (hG : gr h) (M : mM) (N : mN) (aT : Nat) (eN bD bP : Int32) (cD wT : Nat) (oP : Int32) (bS : Nat) (cS wS : Nat → Int32) (hw : wT < 700) : ev E mX12_opens d [.ref (E.1 + 247), .int v, .int p] (hm h (pM M (aT, eN, bD, bP, cD, wT, oP, bS, cS, wS)) N) none (hm h (pM M (opS (aT, eN, bD, bP, cD, wT, oP, bS, cS, wS) v p)) N) := by
  refine ev_of rfl (fun q => absurd q (by decide)) (Nat.le_of_ble_eq_true rfl) ?_
  refine gf_aload_n 0 dX12_opens_0 rfl rfl ?_
  refine gf_getI flX12_332 rfl dX12_opens_1 (gt_247 hG) ?_
  rw [show hp_i (hm h (pM M (aT, eN, bD, bP, cD, wT, oP, bS, cS, wS)) N) 247 40 = oP from rfl]
  refine gf_bipush (6) dX12_opens_4 rfl ?_
  refine gf_icmp_ne 16 dX12_opens_6 rfl (fun zc6 => ?_) (fun zc6 => ?_)
  · refine gf_aload_n 0 dX12_opens_16 rfl rfl ?_
    refine gf_dup dX12_opens_17 rfl ?_
    refine gf_getI flX12_332 rfl dX12_opens_18 (gt_247 hG) ?_
    rw [show hp_i (hm h (pM M (aT, eN, bD, bP, cD, wT, oP, bS, cS, wS)) N) 247 40 = oP from rfl]
    refine gf_iconst (1) dX12_opens_21 rfl ?_
    refine gf_iadd dX12_opens_22 ?_
    refine gf_putI flX12_332 rfl rfl dX12_opens_23 (gt_247 hG) ⟨rfl, rfl⟩ ?_
    rw [mI_0, pM_40]
    refine gf_aload_n 0 dX12_opens_26 rfl rfl ?_
    refine gf_getR flX12_103 rfl dX12_opens_27 (gt_247 hG) (gp_247_38 hG) ?_
    refine gf_aload_n 0 dX12_opens_30 rfl rfl ?_
    refine gf_getI flX12_335 rfl dX12_opens_31 (gt_247 hG) ?_
    rw [show hp_i (hm h (pM M (aT, eN, bD, bP, cD, wT, (oP + 1), bS, cS, wS)) N) 247 39 = (nI wT) from rfl]
    refine gf_iload_n 1 dX12_opens_34 rfl rfl ?_
    refine gf_iast 700 dX12_opens_35 (gt_277 hG) (gl_277 hG) rfl (by omega) (by decide) ?_
    rw [mI_30, pM_r30]
    refine gf_aload_n 0 dX12_opens_36 rfl rfl ?_
    refine gf_dup dX12_opens_37 rfl ?_
    refine gf_getI flX12_335 rfl dX12_opens_38 (gt_247 hG) ?_
    rw [show hp_i (hm h (pM M (aT, eN, bD, bP, cD, wT, (oP + 1), bS, cS, (va_up wS wT v))) N) 247 39 = (nI wT) from rfl]
    refine gf_iconst (1) dX12_opens_41 rfl ?_
    refine gf_iadd dX12_opens_42 ?_
    rw [nI_1 wT]
    refine gf_putI flX12_335 rfl rfl dX12_opens_43 (gt_247 hG) ⟨rfl, rfl⟩ ?_
    rw [mI_0, pM_39]
    exact gf_vretE dX12_opens_46 rfl (by rw [show opS (aT, eN, bD, bP, cD, wT, oP, bS, cS, wS) v p = (aT, eN, bD, bP, cD, (wT + 1), (oP + 1), bS, cS, (va_up wS wT v)) from if_neg zc6])
  · refine gf_aload_n 0 dX12_opens_9 rfl rfl ?_
    refine gf_iconst (3) dX12_opens_10 rfl ?_
    refine gf_iload_n 2 dX12_opens_11 rfl rfl ?_
    refine gf_callV cmX12_fail lkX12_315 imX12_fail seX12_fail ⟨rfl, by decide⟩ dX12_opens_12 (d1 := d - 1) (by omega) (gt_247 hG) (e_X12_fail E 3 p h hG M N aT eN bD bP cD wT oP bS cS wS) rfl rfl (Nat.le_of_ble_eq_true rfl) ?_
    exact gf_vretE dX12_opens_15 rfl (by rw [show opS (aT, eN, bD, bP, cD, wT, oP, bS, cS, wS) v p = (flS9 (aT, eN, bD, bP, cD, wT, oP, bS, cS, wS) 3 p) from if_pos zc6])
theorem e_X12_isOn (E : gE) {d : Nat} (x : Int32) (h : hp_T) (hG : gr h) (M : mM) (N : mN) (aT : Nat) (eN bD bP : Int32) (cD wT : Nat) (oP : Int32) (bS : Nat) (cS wS : Nat → Int32) (hw : wT ≤ 700) : ev E mX12_isOn d [.ref (E.1 + 247), .int x] (hm h (pM M (aT, eN, bD, bP, cD, wT, oP, bS, cS, wS)) N) (some (.int (bI (onQ (aT, eN, bD, bP, cD, wT, oP, bS, cS, wS) x)))) (hm h (pM M (aT, eN, bD, bP, cD, wT, oP, bS, cS, wS)) N) := by
  refine ev_of rfl (fun q => absurd q (by decide)) (Nat.le_of_ble_eq_true rfl) ?_
  cases wT with
  | zero =>
    skip
    refine gf_aload_n 0 dX12_isOn_0 rfl rfl ?_
    refine gf_getI flX12_335 rfl dX12_isOn_1 (gt_247 hG) ?_
    rw [show hp_i (hm h (pM M (aT, eN, bD, bP, cD, 0, oP, bS, cS, wS)) N) 247 39 = (nI 0) from rfl]
    refine gf_if_le 26 dX12_isOn_4 rfl (fun _ => ?_) (fun q => absurd (Int32.le_refl _) q)
    refine gf_iconst (0) dX12_isOn_26 rfl ?_
    exact gf_bret dX12_isOn_27 rfl (rfl) (rfl)
  | succ w =>
    skip
    refine gf_aload_n 0 dX12_isOn_0 rfl rfl ?_
    refine gf_getI flX12_335 rfl dX12_isOn_1 (gt_247 hG) ?_
    rw [show hp_i (hm h (pM M (aT, eN, bD, bP, cD, (w + 1), oP, bS, cS, wS)) N) 247 39 = (nI (w + 1)) from rfl]
    refine gf_if_le 26 dX12_isOn_4 rfl (fun q => absurd q (nI_nle (by omega) (by omega))) (fun _ => ?_)
    refine gf_aload_n 0 dX12_isOn_7 rfl rfl ?_
    refine gf_getR flX12_103 rfl dX12_isOn_8 (gt_247 hG) (gp_247_38 hG) ?_
    refine gf_aload_n 0 dX12_isOn_11 rfl rfl ?_
    refine gf_getI flX12_335 rfl dX12_isOn_12 (gt_247 hG) ?_
    rw [show hp_i (hm h (pM M (aT, eN, bD, bP, cD, (w + 1), oP, bS, cS, wS)) N) 247 39 = (nI (w + 1)) from rfl]
    refine gf_iconst (1) dX12_isOn_15 rfl ?_
    refine gf_isub dX12_isOn_16 ?_
    rw [nI_pred]
    refine gf_iald 700 dX12_isOn_17 (gt_277 hG) (gl_277 hG) rfl (by omega) (by decide) ?_
    refine gf_iload_n 1 dX12_isOn_18 rfl rfl ?_
    refine gf_icmp_ne 26 dX12_isOn_19 rfl (fun zc19 => ?_) (fun zc19 => ?_)
    · refine gf_iconst (0) dX12_isOn_26 rfl ?_
      exact gf_bret dX12_isOn_27 rfl (by rw [show onQ (aT, eN, bD, bP, cD, (w + 1), oP, bS, cS, wS) x = false from decide_eq_false zc19]; rfl) (rfl)
    · refine gf_iconst (1) dX12_isOn_22 rfl ?_
      refine gf_goto 27 dX12_isOn_23 rfl ?_
      exact gf_bret dX12_isOn_27 rfl (by rw [show onQ (aT, eN, bD, bP, cD, (w + 1), oP, bS, cS, wS) x = true from decide_eq_true zc19]; rfl) (rfl)
theorem e_X12_drops (E : gE) {d : Nat} (hd : 1 ≤ d) (h : hp_T) (hG : gr h) (M : mM) (N : mN) (aT : Nat) (eN bD bP : Int32) (cD wT : Nat) (oP : Int32) (bS : Nat) (cS wS : Nat → Int32) (hw : 1 ≤ wT) (hw7 : wT ≤ 700) (hc : cD < 128640) : ev E mX12_drops d [.ref (E.1 + 247)] (hm h (pM M (aT, eN, bD, bP, cD, wT, oP, bS, cS, wS)) N) none (hm h (pM M (dr1 (aT, eN, bD, bP, cD, wT, oP, bS, cS, wS))) N) := by
  refine ev_of rfl (fun q => absurd q (by decide)) (Nat.le_of_ble_eq_true rfl) ?_
  refine gf_aload_n 0 dX12_drops_0 rfl rfl ?_
  refine gf_dup dX12_drops_1 rfl ?_
  refine gf_getI flX12_335 rfl dX12_drops_2 (gt_247 hG) ?_
  rw [show hp_i (hm h (pM M (aT, eN, bD, bP, cD, wT, oP, bS, cS, wS)) N) 247 39 = (nI wT) from rfl]
  refine gf_iconst (1) dX12_drops_5 rfl ?_
  refine gf_isub dX12_drops_6 ?_
  rw [show nI wT - 1 = nI (wT - 1) from pk_sub (b := 1) hw]
  refine gf_putI flX12_335 rfl rfl dX12_drops_7 (gt_247 hG) ⟨rfl, rfl⟩ ?_
  rw [mI_0, pM_39]
  refine gf_aload_n 0 dX12_drops_10 rfl rfl ?_
  refine gf_aload_n 0 dX12_drops_11 rfl rfl ?_
  refine gf_getR flX12_103 rfl dX12_drops_12 (gt_247 hG) (gp_247_38 hG) ?_
  refine gf_aload_n 0 dX12_drops_15 rfl rfl ?_
  refine gf_getI flX12_335 rfl dX12_drops_16 (gt_247 hG) ?_
  rw [show hp_i (hm h (pM M (aT, eN, bD, bP, cD, (wT - 1), oP, bS, cS, wS)) N) 247 39 = (nI (wT - 1)) from rfl]
  refine gf_iald 700 dX12_drops_19 (gt_277 hG) (gl_277 hG) rfl (by omega) (by decide) ?_
  refine gf_callV cmX12_code lkX12_338 imX12_code seX12_code ⟨rfl, by decide⟩ dX12_drops_20 (d1 := d - 1) (by omega) (gt_247 hG) (e_X12_code E (wS (wT - 1)) h hG M N aT eN bD bP cD (wT - 1) oP bS cS wS (by omega)) rfl rfl (Nat.le_of_ble_eq_true rfl) ?_
  exact gf_vretE dX12_drops_23 rfl (rfl)
theorem e_X12_isMark (E : gE) {d : Nat} (c : Int32) (h : hp_T) : ev E mX12_isMark d [.ref (E.1 + 247), .int c] h (some (.int (zb (isMk c)))) h := by
  refine ev_of rfl (fun q => absurd q (by decide)) (Nat.le_of_ble_eq_true rfl) ?_
  refine gf_iload_n 1 dX12_isMark_0 rfl rfl ?_
  refine gf_bipush (20) dX12_isMark_1 rfl ?_
  refine gf_icmp_lt 16 dX12_isMark_3 rfl (fun zc3 => ?_) (fun zc3 => ?_)
  · refine gf_iconst (0) dX12_isMark_16 rfl ?_
    exact gf_zretE dX12_isMark_17 rfl (rfl) ((zb_f (fun w => by have q := zc3; rw [fa_lt] at q; have w1 := w.1; rw [fa_le] at w1; omega)).symm) (rfl)
  · refine gf_iload_n 1 dX12_isMark_6 rfl rfl ?_
    refine gf_bipush (24) dX12_isMark_7 rfl ?_
    refine gf_icmp_gt 16 dX12_isMark_9 rfl (fun zc9 => ?_) (fun zc9 => ?_)
    · refine gf_iconst (0) dX12_isMark_16 rfl ?_
      exact gf_zretE dX12_isMark_17 rfl (rfl) ((zb_f (fun w => by have q := zc9; rw [fa_lt] at q; have w1 := w.2; rw [fa_le] at w1; omega)).symm) (rfl)
    · refine gf_iconst (1) dX12_isMark_12 rfl ?_
      refine gf_goto 17 dX12_isMark_13 rfl ?_
      exact gf_zretE dX12_isMark_17 rfl (rfl) ((zb_t ⟨by rw [fa_le]; have q := zc3; rw [fa_lt] at q; omega, by rw [fa_le]; have q := zc9; rw [fa_lt] at q; omega⟩).symm) (rfl)
theorem l_mark (E : gE) {d : Nat} (hd : 1 ≤ d) (h : hp_T) (hG : gr h) (M : mM) (N : mN) (aT : Nat) (eN bD bP : Int32) (cD wT : Nat) (oP : Int32) (bS : Nat) (cS wS : Nat → Int32) (hb : bS < 1000) : ∀ kz : Nat, kz ≤ 700 → gf E mX12_mark d 7 [(0, .ref (E.1 + 247)), (1, .int (nI kz - 1))] [] (hm h (pM M (aT, eN, bD, bP, cD, wT, oP, bS, cS, wS)) N) (some (.int (mkF wS bS kz))) (hm h (pM M (aT, eN, bD, bP, cD, wT, oP, bS, cS, wS)) N) := by
  intro kz
  induction kz with
  | zero =>
    intro _
    refine gf_iload_n 1 dX12_mark_7 rfl rfl ?_
    refine gf_aload_n 0 dX12_mark_8 rfl rfl ?_
    refine gf_getI flX12_342 rfl dX12_mark_9 (gt_247 hG) ?_
    rw [show hp_i (hm h (pM M (aT, eN, bD, bP, cD, wT, oP, bS, cS, wS)) N) 247 41 = (nI bS) from rfl]
    refine gf_icmp_lt 34 dX12_mark_12 rfl (fun _ => ?_) (fun q => absurd ((by rw [fa_lt, nI_toInt (by omega), show ((nI 0 : Int32) - 1).toInt = -1 from by decide]; omega)) q)
    refine gf_iload_n 1 dX12_mark_34 rfl rfl ?_
    refine gf_aload_n 0 dX12_mark_35 rfl rfl ?_
    refine gf_getI flX12_342 rfl dX12_mark_36 (gt_247 hG) ?_
    rw [show hp_i (hm h (pM M (aT, eN, bD, bP, cD, wT, oP, bS, cS, wS)) N) 247 41 = (nI bS) from rfl]
    refine gf_icmp_lt 51 dX12_mark_39 rfl (fun _ => ?_) (fun q => absurd ((by rw [fa_lt, nI_toInt (by omega), show ((nI 0 : Int32) - 1).toInt = -1 from by decide]; omega)) q)
    refine gf_iconst (-1) dX12_mark_51 rfl ?_
    exact gf_iretE dX12_mark_52 rfl (rfl) (rfl)
  | succ kz ih =>
    intro hk
    rw [show ((nI (kz + 1) : Int32) - 1) = nI kz from nI_pred kz]
    by_cases hl : kz < bS
    · skip
      refine gf_iload_n 1 dX12_mark_7 rfl rfl ?_
      refine gf_aload_n 0 dX12_mark_8 rfl rfl ?_
      refine gf_getI flX12_342 rfl dX12_mark_9 (gt_247 hG) ?_
      rw [show hp_i (hm h (pM M (aT, eN, bD, bP, cD, wT, oP, bS, cS, wS)) N) 247 41 = (nI bS) from rfl]
      refine gf_icmp_lt 34 dX12_mark_12 rfl (fun _ => ?_) (fun q => absurd (nI_lt hl (by omega)) q)
      refine gf_iload_n 1 dX12_mark_34 rfl rfl ?_
      refine gf_aload_n 0 dX12_mark_35 rfl rfl ?_
      refine gf_getI flX12_342 rfl dX12_mark_36 (gt_247 hG) ?_
      rw [show hp_i (hm h (pM M (aT, eN, bD, bP, cD, wT, oP, bS, cS, wS)) N) 247 41 = (nI bS) from rfl]
      refine gf_icmp_lt 51 dX12_mark_39 rfl (fun _ => ?_) (fun q => absurd (nI_lt hl (by omega)) q)
      refine gf_iconst (-1) dX12_mark_51 rfl ?_
      exact gf_iretE dX12_mark_52 rfl ((if_pos hl : mkF wS bS (kz + 1) = _).symm) (rfl)
    · skip
      refine gf_iload_n 1 dX12_mark_7 rfl rfl ?_
      refine gf_aload_n 0 dX12_mark_8 rfl rfl ?_
      refine gf_getI flX12_342 rfl dX12_mark_9 (gt_247 hG) ?_
      rw [show hp_i (hm h (pM M (aT, eN, bD, bP, cD, wT, oP, bS, cS, wS)) N) 247 41 = (nI bS) from rfl]
      refine gf_icmp_lt 34 dX12_mark_12 rfl (fun q => absurd q (nI_nlt (by omega) (by omega))) (fun _ => ?_)
      refine gf_aload_n 0 dX12_mark_15 rfl rfl ?_
      refine gf_aload_n 0 dX12_mark_16 rfl rfl ?_
      refine gf_getR flX12_103 rfl dX12_mark_17 (gt_247 hG) (gp_247_38 hG) ?_
      refine gf_iload_n 1 dX12_mark_20 rfl rfl ?_
      refine gf_iald 700 dX12_mark_21 (gt_277 hG) (gl_277 hG) rfl (by omega) (by decide) ?_
      refine gf_callV cmX12_isMark lkX12_345 imX12_isMark seX12_isMark ⟨rfl, by decide⟩ dX12_mark_22 (d1 := d - 1) (by omega) (gt_247 hG) (e_X12_isMark E (wS kz) _) rfl rfl (Nat.le_of_ble_eq_true rfl) ?_
      refine gf_if_ne 34 dX12_mark_25 rfl (fun zc25 => ?_) (fun zc25 => ?_)
      · refine gf_iload_n 1 dX12_mark_34 rfl rfl ?_
        refine gf_aload_n 0 dX12_mark_35 rfl rfl ?_
        refine gf_getI flX12_342 rfl dX12_mark_36 (gt_247 hG) ?_
        rw [show hp_i (hm h (pM M (aT, eN, bD, bP, cD, wT, oP, bS, cS, wS)) N) 247 41 = (nI bS) from rfl]
        refine gf_icmp_lt 51 dX12_mark_39 rfl (fun q => absurd q (nI_nlt (by omega) (by omega))) (fun _ => ?_)
        refine gf_aload_n 0 dX12_mark_42 rfl rfl ?_
        refine gf_getR flX12_103 rfl dX12_mark_43 (gt_247 hG) (gp_247_38 hG) ?_
        refine gf_iload_n 1 dX12_mark_46 rfl rfl ?_
        refine gf_iald 700 dX12_mark_47 (gt_277 hG) (gl_277 hG) rfl (by omega) (by decide) ?_
        refine gf_goto 52 dX12_mark_48 rfl ?_
        exact gf_iretE dX12_mark_52 rfl (((if_neg hl).trans (if_pos (zb_1.mp zc25)) : mkF wS bS (kz + 1) = _).symm) (rfl)
      · refine gf_iinc (-1) dX12_mark_28 rfl rfl (Nat.le_of_ble_eq_true rfl) ?_
        refine gf_goto 7 dX12_mark_31 rfl ?_
        rw [show mkF wS bS (kz + 1) = mkF wS bS kz from (if_neg hl).trans (if_neg (zb_0.mp zc25))]
        exact gf_lw (ih (by omega)) ⟨rfl, lvE (show nI kz + (-1) = nI kz - 1 from (Int32.sub_eq_add_neg _ _).symm), trivial⟩
theorem e_X12_mark (E : gE) {d : Nat} (hd : 1 ≤ d) (h : hp_T) (hG : gr h) (M : mM) (N : mN) (aT : Nat) (eN bD bP : Int32) (cD wT : Nat) (oP : Int32) (bS : Nat) (cS wS : Nat → Int32) (hw : wT ≤ 700) (hb : bS < 1000) : ev E mX12_mark d [.ref (E.1 + 247)] (hm h (pM M (aT, eN, bD, bP, cD, wT, oP, bS, cS, wS)) N) (some (.int (mkV (aT, eN, bD, bP, cD, wT, oP, bS, cS, wS)))) (hm h (pM M (aT, eN, bD, bP, cD, wT, oP, bS, cS, wS)) N) := by
  refine ev_of rfl (fun q => absurd q (by decide)) (Nat.le_of_ble_eq_true rfl) ?_
  refine gf_aload_n 0 dX12_mark_0 rfl rfl ?_
  refine gf_getI flX12_335 rfl dX12_mark_1 (gt_247 hG) ?_
  rw [show hp_i (hm h (pM M (aT, eN, bD, bP, cD, wT, oP, bS, cS, wS)) N) 247 39 = (nI wT) from rfl]
  refine gf_iconst (1) dX12_mark_4 rfl ?_
  refine gf_isub dX12_mark_5 ?_
  refine gf_istore_n 1 dX12_mark_6 rfl (Nat.le_of_ble_eq_true rfl) ?_
  exact gf_lw (l_mark E hd h hG M N aT eN bD bP cD wT oP bS cS wS hb wT hw) ⟨rfl, rfl, trivial⟩
theorem l_dtm (E : gE) {d : Nat} (hd : 2 ≤ d) (h : hp_T) (hG : gr h) (M : mM) (N : mN) (aT : Nat) (eN bD bP oP : Int32) (bS : Nat) (wS : Nat → Int32) (hb : bS < 1000) {v : Option Value} {hz : hp_T} {r : Nat × Nat × (Nat → Int32)} (K : gf E mX12_dropsToMark d 36 [(0, .ref (E.1 + 247))] [] (hm h (pM M (aT, eN, bD, bP, r.2.1, r.1, oP, bS, r.2.2, wS)) N) v hz) : ∀ (w c : Nat) (s : Nat → Int32), w ≤ 700 → w + c ≤ 100000 → (dwS wS (fun i => decide (bS ≤ i) && !decide (isMk (wS i))) w c s) = r → gf E mX12_dropsToMark d 0 [(0, .ref (E.1 + 247))] [] (hm h (pM M (aT, eN, bD, bP, c, w, oP, bS, s, wS)) N) v hz := by
  intro w
  induction w with
  | zero =>
    intro c s _ _ hr
    subst hr
    refine gf_aload_n 0 dX12_dropsToMark_0 rfl rfl ?_
    refine gf_getI flX12_335 rfl dX12_dropsToMark_1 (gt_247 hG) ?_
    rw [show hp_i (hm h (pM M (aT, eN, bD, bP, c, 0, oP, bS, s, wS)) N) 247 39 = (nI 0) from rfl]
    refine gf_aload_n 0 dX12_dropsToMark_4 rfl rfl ?_
    refine gf_getI flX12_342 rfl dX12_dropsToMark_5 (gt_247 hG) ?_
    rw [show hp_i (hm h (pM M (aT, eN, bD, bP, c, 0, oP, bS, s, wS)) N) 247 41 = (nI bS) from rfl]
    refine gf_icmp_le 36 dX12_dropsToMark_8 rfl (fun _ => ?_) (fun q => absurd (nI_le (by omega) (by omega)) q)
    exact gf_lw K ⟨rfl, trivial⟩
  | succ w ih =>
    intro c s hw hc hr
    refine gf_aload_n 0 dX12_dropsToMark_0 rfl rfl ?_
    refine gf_getI flX12_335 rfl dX12_dropsToMark_1 (gt_247 hG) ?_
    rw [show hp_i (hm h (pM M (aT, eN, bD, bP, c, (w + 1), oP, bS, s, wS)) N) 247 39 = (nI (w + 1)) from rfl]
    refine gf_aload_n 0 dX12_dropsToMark_4 rfl rfl ?_
    refine gf_getI flX12_342 rfl dX12_dropsToMark_5 (gt_247 hG) ?_
    rw [show hp_i (hm h (pM M (aT, eN, bD, bP, c, (w + 1), oP, bS, s, wS)) N) 247 41 = (nI bS) from rfl]
    refine gf_icmp_le 36 dX12_dropsToMark_8 rfl (fun zc8 => ?_) (fun zc8 => ?_)
    · rw [show dwS wS (fun i => decide (bS ≤ i) && !decide (isMk (wS i))) (w + 1) c s = (w + 1, c, s) from if_neg (by show ¬ (decide (bS ≤ w) && !decide (isMk (wS w))) = true; rw [decide_eq_false (show ¬ bS ≤ w from fun q => nI_ge (a := bS) (b := w + 1) (by omega) (by omega) zc8)]; exact fun q => Bool.noConfusion (show false = true from q))] at hr
      subst hr
      exact gf_lw K ⟨rfl, trivial⟩
    · refine gf_aload_n 0 dX12_dropsToMark_11 rfl rfl ?_
      refine gf_aload_n 0 dX12_dropsToMark_12 rfl rfl ?_
      refine gf_getR flX12_103 rfl dX12_dropsToMark_13 (gt_247 hG) (gp_247_38 hG) ?_
      refine gf_aload_n 0 dX12_dropsToMark_16 rfl rfl ?_
      refine gf_getI flX12_335 rfl dX12_dropsToMark_17 (gt_247 hG) ?_
      rw [show hp_i (hm h (pM M (aT, eN, bD, bP, c, (w + 1), oP, bS, s, wS)) N) 247 39 = (nI (w + 1)) from rfl]
      refine gf_iconst (1) dX12_dropsToMark_20 rfl ?_
      refine gf_isub dX12_dropsToMark_21 ?_
      rw [nI_pred]
      refine gf_iald 700 dX12_dropsToMark_22 (gt_277 hG) (gl_277 hG) rfl (by omega) (by decide) ?_
      refine gf_callV cmX12_isMark lkX12_345 imX12_isMark seX12_isMark ⟨rfl, by decide⟩ dX12_dropsToMark_23 (d1 := d - 1) (by omega) (gt_247 hG) (e_X12_isMark E (wS w) _) rfl rfl (Nat.le_of_ble_eq_true rfl) ?_
      refine gf_if_ne 36 dX12_dropsToMark_26 rfl (fun zc26 => ?_) (fun zc26 => ?_)
      · rw [show dwS wS (fun i => decide (bS ≤ i) && !decide (isMk (wS i))) (w + 1) c s = (w + 1, c, s) from if_neg (by show ¬ (decide (bS ≤ w) && !decide (isMk (wS w))) = true; rw [decide_eq_true (zb_1.mp zc26), Bool.not_true, Bool.and_false]; decide)] at hr
        subst hr
        exact gf_lw K ⟨rfl, trivial⟩
      · refine gf_aload_n 0 dX12_dropsToMark_29 rfl rfl ?_
        refine gf_callV cmX12_drops lkX12_348 imX12_drops seX12_drops ⟨rfl, by decide⟩ dX12_dropsToMark_30 (d1 := d - 1) (by omega) (gt_247 hG) (e_X12_drops E (by omega) h hG M N aT eN bD bP c (w + 1) oP bS s wS (by omega) (by omega) (by omega)) rfl rfl (Nat.le_of_ble_eq_true rfl) ?_
        refine gf_goto 0 dX12_dropsToMark_33 rfl ?_
        rw [show dwS wS (fun i => decide (bS ≤ i) && !decide (isMk (wS i))) (w + 1) c s = dwS wS (fun i => decide (bS ≤ i) && !decide (isMk (wS i))) w (c + 1) (va_up s c (wS w)) from if_pos (by show (decide (bS ≤ w) && !decide (isMk (wS w))) = true; rw [decide_eq_true (show bS ≤ w by rcases Nat.lt_or_ge w bS with q | q; exact absurd (nI_le (show w + 1 ≤ bS by omega) (by omega)) zc8; exact q), decide_eq_false (zb_0.mp zc26)]; rfl)] at hr
        exact gf_lw (ih (c + 1) (va_up s c (wS w)) (by omega) (by omega) hr) ⟨rfl, trivial⟩
theorem e_X12_dropsToMark (E : gE) {d : Nat} (hd : 2 ≤ d) (h : hp_T) (hG : gr h) (M : mM) (N : mN) (aT : Nat) (eN bD bP : Int32) (cD wT : Nat) (oP : Int32) (bS : Nat) (cS wS : Nat → Int32) (hw : wT ≤ 700) (hc : wT + cD ≤ 100000) (hb : bS < 1000) : ev E mX12_dropsToMark d [.ref (E.1 + 247)] (hm h (pM M (aT, eN, bD, bP, cD, wT, oP, bS, cS, wS)) N) none (hm h (pM M (dwQ (aT, eN, bD, bP, cD, wT, oP, bS, cS, wS) (fun i => decide (bS ≤ i) && !decide (isMk (wS i))))) N) := by
  refine ev_of rfl (fun q => absurd q (by decide)) (Nat.le_of_ble_eq_true rfl) ?_
  refine l_dtm E (by omega) h hG M N aT eN bD bP oP bS wS hb ?_ wT cD cS hw hc rfl
  exact gf_vretE dX12_dropsToMark_36 rfl rfl
def dnF (ws : Nat → Int32) : Nat → Nat → Int32 → (Nat → Int32) → Nat × Nat × Int32 × (Nat → Int32)
  | 0, c, o, s => (0, c, o, s)
  | w + 1, c, o, s => if ws w = 16 then dnF ws w (c + 1) (o - 1) (va_up s c (ws w)) else (w + 1, c, o, s)
def dnQ (q : pS) : pS := if q.2.2.1 = 0 then (q.1, q.2.1, q.2.2.1, q.2.2.2.1, (dnF q.2.2.2.2.2.2.2.2.2 q.2.2.2.2.2.1 q.2.2.2.2.1 q.2.2.2.2.2.2.1 q.2.2.2.2.2.2.2.2.1).2.1, (dnF q.2.2.2.2.2.2.2.2.2 q.2.2.2.2.2.1 q.2.2.2.2.1 q.2.2.2.2.2.2.1 q.2.2.2.2.2.2.2.2.1).1, (dnF q.2.2.2.2.2.2.2.2.2 q.2.2.2.2.2.1 q.2.2.2.2.1 q.2.2.2.2.2.2.1 q.2.2.2.2.2.2.2.2.1).2.2.1, q.2.2.2.2.2.2.2.1, (dnF q.2.2.2.2.2.2.2.2.2 q.2.2.2.2.2.1 q.2.2.2.2.1 q.2.2.2.2.2.2.1 q.2.2.2.2.2.2.2.2.1).2.2.2, q.2.2.2.2.2.2.2.2.2) else q
theorem dnF_le (ws : Nat → Int32) : ∀ w c o s, (dnF ws w c o s).1 + (dnF ws w c o s).2.1 = w + c
  | 0, _, _, _ => rfl
  | w + 1, c, o, s => by
    unfold dnF
    split
    · rw [dnF_le ws w (c + 1)]
      omega
    · rfl
theorem l_dn (E : gE) {d : Nat} (hd : 2 ≤ d) (h : hp_T) (hG : gr h) (M : mM) (N : mN) (aT : Nat) (eN bD bP : Int32) (bS : Nat) (wS : Nat → Int32) (hb0 : bD = 0) : ∀ (w c : Nat) (o : Int32) (s : Nat → Int32), w ≤ 700 → w + c ≤ 100000 → gf E mX12_dropsNots d 0 [(0, .ref (E.1 + 247))] [] (hm h (pM M (aT, eN, bD, bP, c, w, o, bS, s, wS)) N) none (hm h (pM M (aT, eN, bD, bP, (dnF wS w c o s).2.1, (dnF wS w c o s).1, (dnF wS w c o s).2.2.1, bS, (dnF wS w c o s).2.2.2, wS)) N) := by
  intro w
  induction w with
  | zero =>
    intro c o s _ _
    refine gf_aload_n 0 dX12_dropsNots_0 rfl rfl ?_
    refine gf_getI flX12_285 rfl dX12_dropsNots_1 (gt_247 hG) ?_
    rw [show hp_i (hm h (pM M (aT, eN, bD, bP, c, 0, o, bS, s, wS)) N) 247 5 = bD from rfl]
    refine gf_if_ne 33 dX12_dropsNots_4 rfl (fun q => absurd (hb0) q) (fun _ => ?_)
    refine gf_aload_n 0 dX12_dropsNots_7 rfl rfl ?_
    refine gf_bipush (16) dX12_dropsNots_8 rfl ?_
    refine gf_callV cmX12_isOn lkX12_375 imX12_isOn seX12_isOn ⟨rfl, by decide⟩ dX12_dropsNots_10 (d1 := d - 1) (by omega) (gt_247 hG) (e_X12_isOn E 16 h hG M N aT eN bD bP c 0 o bS s wS (by omega)) rfl rfl (Nat.le_of_ble_eq_true rfl) ?_
    refine gf_if_eq 33 dX12_dropsNots_13 rfl (fun _ => ?_) (fun q => absurd (rfl) q)
    exact gf_vretE dX12_dropsNots_33 rfl (rfl)
  | succ w ih =>
    intro c o s hw hc
    refine gf_aload_n 0 dX12_dropsNots_0 rfl rfl ?_
    refine gf_getI flX12_285 rfl dX12_dropsNots_1 (gt_247 hG) ?_
    rw [show hp_i (hm h (pM M (aT, eN, bD, bP, c, (w + 1), o, bS, s, wS)) N) 247 5 = bD from rfl]
    refine gf_if_ne 33 dX12_dropsNots_4 rfl (fun q => absurd (hb0) q) (fun _ => ?_)
    refine gf_aload_n 0 dX12_dropsNots_7 rfl rfl ?_
    refine gf_bipush (16) dX12_dropsNots_8 rfl ?_
    refine gf_callV cmX12_isOn lkX12_375 imX12_isOn seX12_isOn ⟨rfl, by decide⟩ dX12_dropsNots_10 (d1 := d - 1) (by omega) (gt_247 hG) (e_X12_isOn E 16 h hG M N aT eN bD bP c (w + 1) o bS s wS (by omega)) rfl rfl (Nat.le_of_ble_eq_true rfl) ?_
    refine gf_if_eq 33 dX12_dropsNots_13 rfl (fun zc13 => ?_) (fun zc13 => ?_)
    · exact gf_vretE dX12_dropsNots_33 rfl (by rw [show dnF wS (w + 1) c o s = (w + 1, c, o, s) from if_neg (of_decide_eq_false (show decide (wS w = 16) = false from bI_f zc13))])
    · refine gf_aload_n 0 dX12_dropsNots_16 rfl rfl ?_
      refine gf_dup dX12_dropsNots_17 rfl ?_
      refine gf_getI flX12_332 rfl dX12_dropsNots_18 (gt_247 hG) ?_
      rw [show hp_i (hm h (pM M (aT, eN, bD, bP, c, (w + 1), o, bS, s, wS)) N) 247 40 = o from rfl]
      refine gf_iconst (1) dX12_dropsNots_21 rfl ?_
      refine gf_isub dX12_dropsNots_22 ?_
      refine gf_putI flX12_332 rfl rfl dX12_dropsNots_23 (gt_247 hG) ⟨rfl, rfl⟩ ?_
      rw [mI_0, pM_40]
      refine gf_aload_n 0 dX12_dropsNots_26 rfl rfl ?_
      refine gf_callV cmX12_drops lkX12_348 imX12_drops seX12_drops ⟨rfl, by decide⟩ dX12_dropsNots_27 (d1 := d - 1) (by omega) (gt_247 hG) (e_X12_drops E (by omega) h hG M N aT eN bD bP c (w + 1) (o - 1) bS s wS (by omega) (by omega) (by omega)) rfl rfl (Nat.le_of_ble_eq_true rfl) ?_
      refine gf_goto 0 dX12_dropsNots_30 rfl ?_
      rw [show dnF wS (w + 1) c o s = dnF wS w (c + 1) (o - 1) (va_up s c (wS w)) from if_pos (of_decide_eq_true (show decide (wS w = 16) = true from bI_t zc13))]
      exact gf_lw (ih (c + 1) (o - 1) (va_up s c (wS w)) (by omega) (by omega)) ⟨rfl, trivial⟩
theorem e_X12_dropsNots (E : gE) {d : Nat} (hd : 2 ≤ d) (h : hp_T) (hG : gr h) (M : mM) (N : mN) (aT : Nat) (eN bD bP : Int32) (cD wT : Nat) (oP : Int32) (bS : Nat) (cS wS : Nat → Int32) (hw : wT ≤ 700) (hc : wT + cD ≤ 100000) : ev E mX12_dropsNots d [.ref (E.1 + 247)] (hm h (pM M (aT, eN, bD, bP, cD, wT, oP, bS, cS, wS)) N) none (hm h (pM M (dnQ (aT, eN, bD, bP, cD, wT, oP, bS, cS, wS))) N) := by
  refine ev_of rfl (fun q => absurd q (by decide)) (Nat.le_of_ble_eq_true rfl) ?_
  by_cases hb0 : bD = 0
  · rw [show dnQ (aT, eN, bD, bP, cD, wT, oP, bS, cS, wS) = _ from if_pos hb0]
    exact l_dn E hd h hG M N aT eN bD bP bS wS hb0 wT cD oP cS hw hc
  · rw [show dnQ (aT, eN, bD, bP, cD, wT, oP, bS, cS, wS) = (aT, eN, bD, bP, cD, wT, oP, bS, cS, wS) from if_neg hb0]
    refine gf_aload_n 0 dX12_dropsNots_0 rfl rfl ?_
    refine gf_getI flX12_285 rfl dX12_dropsNots_1 (gt_247 hG) ?_
    rw [show hp_i (hm h (pM M (aT, eN, bD, bP, cD, wT, oP, bS, cS, wS)) N) 247 5 = bD from rfl]
    refine gf_if_ne 33 dX12_dropsNots_4 rfl (fun _ => ?_) (fun q => absurd q (hb0))
    exact gf_vretE dX12_dropsNots_33 rfl (rfl)
def hsV (q : pS) : Bool := anyb (fun k => decide (q.2.2.2.2.2.2.2.2.2 k = 25)) q.2.2.2.2.2.1
theorem l_hsq (E : gE) {d : Nat} (h : hp_T) (hG : gr h) (M : mM) (N : mN) (aT : Nat) (eN bD bP : Int32) (cD wT : Nat) (oP : Int32) (bS : Nat) (cS wS : Nat → Int32) (hw : wT ≤ 700) : ∀ (kz jz : Nat), jz + kz = wT → (∀ i, i < jz → decide (wS i = 25) = false) → gf E mX12_hasSquare d 2 [(0, .ref (E.1 + 247)), (1, .int (nI jz))] [] (hm h (pM M (aT, eN, bD, bP, cD, wT, oP, bS, cS, wS)) N) (some (.int (bI (anyb (fun k => decide (wS k = 25)) wT)))) (hm h (pM M (aT, eN, bD, bP, cD, wT, oP, bS, cS, wS)) N) := by
  intro kz
  induction kz with
  | zero =>
    intro jz hj hno
    have hj : wT = jz := by omega
    subst hj
    refine gf_iload_n 1 dX12_hasSquare_2 rfl rfl ?_
    refine gf_aload_n 0 dX12_hasSquare_3 rfl rfl ?_
    refine gf_getI flX12_335 rfl dX12_hasSquare_4 (gt_247 hG) ?_
    rw [show hp_i (hm h (pM M (aT, eN, bD, bP, cD, wT, oP, bS, cS, wS)) N) 247 39 = (nI wT) from rfl]
    refine gf_icmp_ge 29 dX12_hasSquare_7 rfl (fun _ => ?_) (fun q => absurd (Int32.le_refl _) q)
    refine gf_iconst (0) dX12_hasSquare_29 rfl ?_
    exact gf_bret dX12_hasSquare_30 rfl (by rw [anyb_no hno]; rfl) (rfl)
  | succ kz ih =>
    intro jz hj hno
    refine gf_iload_n 1 dX12_hasSquare_2 rfl rfl ?_
    refine gf_aload_n 0 dX12_hasSquare_3 rfl rfl ?_
    refine gf_getI flX12_335 rfl dX12_hasSquare_4 (gt_247 hG) ?_
    rw [show hp_i (hm h (pM M (aT, eN, bD, bP, cD, wT, oP, bS, cS, wS)) N) 247 39 = (nI wT) from rfl]
    refine gf_icmp_ge 29 dX12_hasSquare_7 rfl (fun q => absurd q (nI_ge (by omega) (by omega))) (fun _ => ?_)
    refine gf_aload_n 0 dX12_hasSquare_10 rfl rfl ?_
    refine gf_getR flX12_103 rfl dX12_hasSquare_11 (gt_247 hG) (gp_247_38 hG) ?_
    refine gf_iload_n 1 dX12_hasSquare_14 rfl rfl ?_
    refine gf_iald 700 dX12_hasSquare_15 (gt_277 hG) (gl_277 hG) rfl (by omega) (by decide) ?_
    refine gf_bipush (25) dX12_hasSquare_16 rfl ?_
    refine gf_icmp_ne 23 dX12_hasSquare_18 rfl (fun zc18 => ?_) (fun zc18 => ?_)
    · refine gf_iinc (1) dX12_hasSquare_23 rfl rfl (Nat.le_of_ble_eq_true rfl) ?_
      rw [nI_1 jz]
      refine gf_goto 2 dX12_hasSquare_26 rfl ?_
      exact gf_lw (ih (jz + 1) (by omega) (fun i hi => by rcases Nat.lt_succ_iff_lt_or_eq.mp hi with w9 | w9; exact hno i w9; rw [w9]; exact decide_eq_false zc18)) ⟨rfl, rfl, trivial⟩
    · refine gf_iconst (1) dX12_hasSquare_21 rfl ?_
      exact gf_bret dX12_hasSquare_22 rfl (by rw [anyb_in (k := jz) (by omega) (decide_eq_true (show wS jz = 25 from zc18))]; rfl) (rfl)
theorem e_X12_hasSquare (E : gE) {d : Nat} (h : hp_T) (hG : gr h) (M : mM) (N : mN) (aT : Nat) (eN bD bP : Int32) (cD wT : Nat) (oP : Int32) (bS : Nat) (cS wS : Nat → Int32) (hw : wT ≤ 700) : ev E mX12_hasSquare d [.ref (E.1 + 247)] (hm h (pM M (aT, eN, bD, bP, cD, wT, oP, bS, cS, wS)) N) (some (.int (bI (hsV (aT, eN, bD, bP, cD, wT, oP, bS, cS, wS))))) (hm h (pM M (aT, eN, bD, bP, cD, wT, oP, bS, cS, wS)) N) := by
  refine ev_of rfl (fun q => absurd q (by decide)) (Nat.le_of_ble_eq_true rfl) ?_
  refine gf_iconst (0) dX12_hasSquare_0 rfl ?_
  refine gf_istore_n 1 dX12_hasSquare_1 rfl (Nat.le_of_ble_eq_true rfl) ?_
  exact gf_lw (l_hsq E h hG M N aT eN bD bP cD wT oP bS cS wS hw wT 0 (by omega) (fun i hi => absurd hi (Nat.not_lt_zero i))) ⟨rfl, rfl, trivial⟩
def npS (M : mM) (L : Nat) (q : pS) : pS := if (nbV M L q 0 99999).2.2.2.1 = 0 then cdS (nbV M L q 0 99999).2 (1000 + (nbV M L q 0 99999).1) else (nbV M L q 0 99999).2
theorem flS_c (q : pS) (k p : Int32) : (flS9 q k p).1 = q.1 ∧ (flS9 q k p).2.2.2.2 = q.2.2.2.2 := by
  unfold flS9
  split <;> exact ⟨rfl, rfl⟩
theorem nbV_r {M : mM} {L : Nat} {q : pS} {lo hi : Int32} : (nbV M L q lo hi).2.2.2.2.2 = q.2.2.2.2 := by
  unfold nbV
  repeat' split
  all_goals first | rfl | exact (flS_c _ _ _).2
theorem nbV_c {M : mM} {L : Nat} {q : pS} {lo hi : Int32} : (nbV M L q lo hi).2.2.2.2.2.1 = q.2.2.2.2.1 := congrArg (fun z => z.1) nbV_r
theorem nbV_w {M : mM} {L : Nat} {q : pS} {lo hi : Int32} : (nbV M L q lo hi).2.2.2.2.2.2.1 = q.2.2.2.2.2.1 := congrArg (fun z => z.2.1) nbV_r
theorem e_X12_numberPart (E : gE) {d : Nat} (hd : 2 ≤ d) {L : Nat} (h : hp_T) (hG : gr h) (M : mM) (N : mN) (T : tpI M L) (aT : Nat) (eN bD bP : Int32) (cD wT : Nat) (oP : Int32) (bS : Nat) (cS wS : Nat → Int32) (ha : aT ≤ L) (hc : cD < 100000) : ev E mX12_numberPart d [.ref (E.1 + 247)] (hm h (pM M (aT, eN, bD, bP, cD, wT, oP, bS, cS, wS)) N) none (hm h (pM M (npS M L (aT, eN, bD, bP, cD, wT, oP, bS, cS, wS))) N) := by
  refine ev_of rfl (fun q => absurd q (by decide)) (Nat.le_of_ble_eq_true rfl) ?_
  refine gf_aload_n 0 dX12_numberPart_0 rfl rfl ?_
  refine gf_iconst (0) dX12_numberPart_1 rfl ?_
  refine gf_ldcw (99999) kcX12_364 dX12_numberPart_2 ?_
  refine gf_callV cmX12_number lkX12_365 imX12_number seX12_number ⟨rfl, by decide⟩ dX12_numberPart_5 (d1 := d - 1) (by omega) (gt_247 hG) (e_X12_number E (by omega) h hG M N T aT eN bD bP cD wT oP bS cS wS 0 99999 (by omega)) rfl rfl (Nat.le_of_ble_eq_true rfl) ?_
  refine gf_istore_n 1 dX12_numberPart_8 rfl (Nat.le_of_ble_eq_true rfl) ?_
  refine gf_aload_n 0 dX12_numberPart_9 rfl rfl ?_
  refine gf_getI flX12_285 rfl dX12_numberPart_10 (gt_247 hG) ?_
  rw [show hp_i (hm h (pM M ((nbV M L (aT, eN, bD, bP, cD, wT, oP, bS, cS, wS) 0 99999).2)) N) 247 5 = ((nbV M L (aT, eN, bD, bP, cD, wT, oP, bS, cS, wS) 0 99999).2).2.2.1 from rfl]
  refine gf_if_ne 25 dX12_numberPart_13 rfl (fun zc13 => ?_) (fun zc13 => ?_)
  · exact gf_vretE dX12_numberPart_25 rfl (by rw [show npS M L (aT, eN, bD, bP, cD, wT, oP, bS, cS, wS) = ((nbV M L (aT, eN, bD, bP, cD, wT, oP, bS, cS, wS) 0 99999).2) from if_neg zc13])
  · refine gf_aload_n 0 dX12_numberPart_16 rfl rfl ?_
    refine gf_sipush (1000) dX12_numberPart_17 rfl ?_
    refine gf_iload_n 1 dX12_numberPart_20 rfl rfl ?_
    refine gf_iadd dX12_numberPart_21 ?_
    refine gf_callV cmX12_code lkX12_338 imX12_code seX12_code ⟨rfl, by decide⟩ dX12_numberPart_22 (d1 := d - 1) (by omega) (gt_247 hG) (e_X12_code E (1000 + (nbV M L (aT, eN, bD, bP, cD, wT, oP, bS, cS, wS) 0 99999).1) h hG M N (((nbV M L (aT, eN, bD, bP, cD, wT, oP, bS, cS, wS) 0 99999).2).1) (((nbV M L (aT, eN, bD, bP, cD, wT, oP, bS, cS, wS) 0 99999).2).2.1) (((nbV M L (aT, eN, bD, bP, cD, wT, oP, bS, cS, wS) 0 99999).2).2.2.1) (((nbV M L (aT, eN, bD, bP, cD, wT, oP, bS, cS, wS) 0 99999).2).2.2.2.1) (((nbV M L (aT, eN, bD, bP, cD, wT, oP, bS, cS, wS) 0 99999).2).2.2.2.2.1) (((nbV M L (aT, eN, bD, bP, cD, wT, oP, bS, cS, wS) 0 99999).2).2.2.2.2.2.1) (((nbV M L (aT, eN, bD, bP, cD, wT, oP, bS, cS, wS) 0 99999).2).2.2.2.2.2.2.1) (((nbV M L (aT, eN, bD, bP, cD, wT, oP, bS, cS, wS) 0 99999).2).2.2.2.2.2.2.2.1) (((nbV M L (aT, eN, bD, bP, cD, wT, oP, bS, cS, wS) 0 99999).2).2.2.2.2.2.2.2.2.1) (((nbV M L (aT, eN, bD, bP, cD, wT, oP, bS, cS, wS) 0 99999).2).2.2.2.2.2.2.2.2.2) (by have q9 : (nbV M L (aT, eN, bD, bP, cD, wT, oP, bS, cS, wS) 0 99999).2.2.2.2.2.1 = cD := nbV_c; omega)) rfl rfl (Nat.le_of_ble_eq_true rfl) ?_
    exact gf_vretE dX12_numberPart_25 rfl (by rw [show npS M L (aT, eN, bD, bP, cD, wT, oP, bS, cS, wS) = (cdS ((nbV M L (aT, eN, bD, bP, cD, wT, oP, bS, cS, wS) 0 99999).2) (1000 + (nbV M L (aT, eN, bD, bP, cD, wT, oP, bS, cS, wS) 0 99999).1)) from if_pos zc13])
