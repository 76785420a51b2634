/-! ===== the class: run, worst, place ===== -/
def brnI (F : Nat → Nat → Int32) (w g m : Nat) : Prop := m ≤ 12 ∧ F 145 0 = nI m ∧ (∀ e, e < m → ∃ k, k ≤ 9 ∧ F 148 e = nI k) ∧ (∀ e, e < m → ∃ a, a < w * g ∧ F 147 e = nI a) ∧ (∀ c, c < 120 → ∃ k, k < 4 ∧ F 3 c = nI k) ∧ (∀ c, c < 120 → ∃ k, k < 6 ∧ F 4 c = nI k) ∧ (∀ c, c < 120 → F 2 c = 0 ∨ F 2 c = 1)
/-- the heap with a fire, its claims, and what is known -/
def hq (h : hp_T) (f : Nat) (X : Nat → Nat → Int32) (b : Nat) (Y : Nat → Nat → Int32) (R : Nat → Int64) (S : kS) : hp_T := hk (hcl (hb h f 12 X) b Y R) S
theorem hq_0 (h : hp_T) (f b : Nat) (S : kS) : hk h S = hq h f (fun o => hp_i h (f + o)) b (fun o => hp_i h (b + o)) (hp_l h (b + 6)) S := by
  unfold hq
  rw [hb_id, hcl_id]
theorem cty_k {h : hp_T} {b w g : Nat} (Y : Nat → Nat → Int32) (R : Nat → Int64) (S : kS) (hb1 : 130 ≤ b) (C : cty (hp_i h) w g) : cty (hp_i (hk (hcl h b Y R) S)) w g := by
  refine cty_of (fun x hx => ?_) C
  show (if 165 ≤ x ∧ x < 165 + 9 then _ else (if b ≤ x ∧ x < b + 6 then _ else hp_i h x)) = _
  rw [if_neg (by omega), if_neg (by omega)]
theorem hl0_row (h : hp_T) (w g : Nat) (S : kS) (c : Nat) {r : Nat} (h6 : r ≠ 6) (h7 : r ≠ 7) : (hlS0 h w g S c).1 r = S.1 r :=
  (takS_row _ _ _ _ h7).trans ((up2_row h6).trans ((up2_row h7).trans ((up2_row h7).trans ((up2_row h7).trans (up2_row h7)))))
theorem fhB_row (h : hp_T) (w g : Nat) (S : kS) (c : Nat) {r : Nat} (h5 : r ≠ 5) (h6 : r ≠ 6) (h7 : r ≠ 7) (h8 : r ≠ 8) : (fhB h w g S c).1 r = S.1 r := by
  unfold fhB
  split
  · exact up2_row h5
  · exact (up2_row h5).trans ((kR_row _ _ h8).trans (hl0_row h w g S c h6 h7))
theorem fh_row (h : hp_T) (w g : Nat) (S : kS) {r : Nat} (h5 : r ≠ 5) (h6 : r ≠ 6) (h7 : r ≠ 7) (h8 : r ≠ 8) : ∀ n, (itN (fhB h w g) S n).1 r = S.1 r
  | 0 => rfl
  | n + 1 => (fhB_row h w g _ n h5 h6 h7 h8).trans (fh_row h w g S h5 h6 h7 h8 n)
theorem lrn_row (h : hp_T) (w g s : Nat) {r : Nat} (h5 : r ≠ 5) (h6 : r ≠ 6) (h7 : r ≠ 7) (h8 : r ≠ 8) : (lrn h w g s).1 r = (kn h s).1 r := by
  unfold lrn
  exact fh_row h w g _ h5 h6 h7 h8 _
theorem lrn_2 (h : hp_T) (w g s : Nat) : (lrn h w g s).2 = (kn h s).2 := by
  unfold lrn
  exact fh_2 h w g _ _
/-- how many policies are known -/
def pn (h : hp_T) (s : Nat) : Nat := ((kn h s).1 0 0).toNatClampNeg
theorem kn_p {h : hp_T} {w g n s : Nat} (K : actK h w g n s) : pn h s ≤ s ∧ knI h (pn h s) (kn h s) := by
  obtain ⟨p, p1, p2⟩ := kn_I K
  have hp := p2.2.1
  have e : pn h s = p := by unfold pn; rw [p2.1, nI_clamp (by omega)]
  rw [e]
  exact ⟨p1, p2⟩
theorem saS_row (h : hp_T) (w g p : Nat) (L : Nat → Int32) (Z : cS) {r : Nat} (h6 : r ≠ 6) (h7 : r ≠ 7) (h8 : r ≠ 8) : (saS h w g p L Z).2.1 r = Z.2.1 r := by
  unfold saS
  dsimp only
  exact saZ_row h w g p L Z h6 h7 h8
theorem saS_2 (h : hp_T) (w g p : Nat) (L : Nat → Int32) (Z : cS) : (saS h w g p L Z).2.2 = Z.2.2 := by
  unfold saS
  dsimp only
  exact saZ_2 h w g p L Z
theorem sam_hb (h : hp_T) {b n : Nat} (X : Nat → Nat → Int32) (hb1 : b + n ≤ 333) : samT h (hb h b n X) := fun a ha => ⟨if_neg (by omega), rfl, rfl, rfl⟩
theorem lt_ne0 {x : Int32} (h : 0 < x) : ¬ x = 0 := fun q => by rw [q] at h; exact absurd h (by decide)
theorem hq_174 (h : hp_T) (X Y : Nat → Nat → Int32) (R : Nat → Int64) (S : kS) : hq h 174 X 186 Y R S = hb (hk (hcl h 186 Y R) S) 174 12 X := by
  unfold hq hcl hk hrl hrr hb
  refine congrArg (fun z => (h.1, h.2.1, h.2.2.1, h.2.2.2.1, z, (fun x => if x = 186 + 6 then R else h.2.2.2.2.2.1 x), (fun x => if x = 166 then S.2 else h.2.2.2.2.2.2 x))) ?_
  funext x
  by_cases h1 : 186 ≤ x ∧ x < 186 + 6
  · have h2 : ¬ (165 ≤ x ∧ x < 165 + 9) := by omega
    have h3 : ¬ (174 ≤ x ∧ x < 174 + 12) := by omega
    simp only [h1, h2, h3, if_true, if_false, and_self]
  · by_cases h2 : 165 ≤ x ∧ x < 165 + 9
    · have h3 : ¬ (174 ≤ x ∧ x < 174 + 12) := by omega
      simp only [h1, h2, h3, if_true, if_false, and_self]
    · simp only [h1, h2, if_false]
theorem e_burn_174 (E : gE) {d : Nat} (hd : 4 ≤ d) {T m c : Nat} (h : hp_T) (hG : gr h) (X : Nat → Nat → Int32) {w g : Nat} (C : cty (hp_i h) w g) (I : brnI (hp_i h) w g m) (hT : T ≤ 120) (hc : c < 120) : ev E mX5_burn d [.ref (E.1 + 174), .int (nI c), .int (nI T), .ref (E.1 + 170)] (hb h 174 12 X) none (hb h 174 12 (brnX (hp_i h) w g m c T X)) := e_X5_burn_174 E hd h hG X C I.1 hT hc I.2.2.1 I.2.2.2.2.1 I.2.2.2.2.2.1 I.2.2.2.2.2.2 I.2.1 I.2.2.2.1
theorem hq_193 (h : hp_T) (X Y : Nat → Nat → Int32) (R : Nat → Int64) (S : kS) : hq h 193 X 205 Y R S = hb (hk (hcl h 205 Y R) S) 193 12 X := by
  unfold hq hcl hk hrl hrr hb
  refine congrArg (fun z => (h.1, h.2.1, h.2.2.1, h.2.2.2.1, z, (fun x => if x = 205 + 6 then R else h.2.2.2.2.2.1 x), (fun x => if x = 166 then S.2 else h.2.2.2.2.2.2 x))) ?_
  funext x
  by_cases h1 : 205 ≤ x ∧ x < 205 + 6
  · have h2 : ¬ (165 ≤ x ∧ x < 165 + 9) := by omega
    have h3 : ¬ (193 ≤ x ∧ x < 193 + 12) := by omega
    simp only [h1, h2, h3, if_true, if_false, and_self]
  · by_cases h2 : 165 ≤ x ∧ x < 165 + 9
    · have h3 : ¬ (193 ≤ x ∧ x < 193 + 12) := by omega
      simp only [h1, h2, h3, if_true, if_false, and_self]
    · simp only [h1, h2, if_false]
theorem e_burn_193 (E : gE) {d : Nat} (hd : 4 ≤ d) {T m c : Nat} (h : hp_T) (hG : gr h) (X : Nat → Nat → Int32) {w g : Nat} (C : cty (hp_i h) w g) (I : brnI (hp_i h) w g m) (hT : T ≤ 120) (hc : c < 120) : ev E mX5_burn d [.ref (E.1 + 193), .int (nI c), .int (nI T), .ref (E.1 + 170)] (hb h 193 12 X) none (hb h 193 12 (brnX (hp_i h) w g m c T X)) := e_X5_burn_193 E hd h hG X C I.1 hT hc I.2.2.1 I.2.2.2.2.1 I.2.2.2.2.2.1 I.2.2.2.2.2.2 I.2.1 I.2.2.2.1
def rX0 (h : hp_T) : Nat → Nat → Int32 := fun o => hp_i h (174 + o)
def rY0 (h : hp_T) : Nat → Nat → Int32 := fun o => hp_i h (186 + o)
def runX (h : hp_T) (w g m s c T : Nat) : Nat → Nat → Int32 := brnX (hp_i (hk (hcl h 186 (rY0 h) (hp_l h 192)) (lrn h w g s))) w g m c T (rX0 h)
def runZ (h : hp_T) (w g m s c T : Nat) : cS := saS (hb h 174 12 (runX h w g m s c T)) w g (pn h s) (hp_i (hb h 174 12 (runX h w g m s c T)) 176) ((rY0 h, hp_l h 192), lrn h w g s)
def runH (h : hp_T) (w g m s c T : Nat) : hp_T := hq h 174 (runX h w g m s c T) 186 (runZ h w g m s c T).1.1 (runZ h w g m s c T).1.2 (runZ h w g m s c T).2
abbrev isM (t : Int32) (k : Nat) : Prop := 1 ≤ t ∧ t ≤ nI k
theorem isM_n {t : Int32} {k : Nat} (hk : k < 2147483648) (h : isM t k) : ∃ T, T ≤ k ∧ t = nI T ∧ 1 ≤ T := by
  have h1 := h.1
  have h2 := h.2
  rw [fa_le, ti_1] at h1
  rw [fa_le, nI_toInt (by omega)] at h2
  have e := ix_nI (c := t) (by omega)
  have e3 := ix_lt (c := t) (n := k + 1) (by omega) (by omega)
  refine ⟨t.toNatClampNeg, by omega, e, ?_⟩
  rw [e, nI_toInt (by omega)] at h1
  omega
theorem e_X11_run (E : gE) {d : Nat} (hd : 8 ≤ d) (t u : Int32) {w g n s m : Nat} (h : hp_T) (hG : gr h) (K : actK h w g n s) (C : cty (hp_i h) w g) (I : brnI (hp_i h) w g m) : ev E mX11_run d [.ref (E.1 + 0), .int t, .int u] h (some (.int (if isH h t ∧ isM u 120 then nI (fa_cnt (mk (runX h w g m s t.toNatClampNeg u.toNatClampNeg 3)) (w * g)) else -1))) (if isH h t ∧ isM u 120 then runH h w g m s t.toNatClampNeg u.toNatClampNeg else h) := by
  refine ev_of rfl (fun q => absurd q (by decide)) (Nat.le_of_ble_eq_true rfl) ?_
  have hn := cty_n C
  by_cases hP : isH h t ∧ isM u 120
  · rw [if_pos hP, if_pos hP]
    obtain ⟨c, hc, ec⟩ := isH_n C hP.1
    obtain ⟨T, hT, eT, -⟩ := isM_n (by omega) hP.2
    subst ec
    subst eT
    rw [nI_clamp (by omega), nI_clamp (by omega)]
    obtain ⟨hps, Kp⟩ := kn_p K
    have KpL : knI h (pn h s) (lrn h w g s) := knI_row Kp (lrn_row h w g s (by decide) (by decide) (by decide) (by decide)) (lrn_row h w g s (by decide) (by decide) (by decide) (by decide))
    refine gf_aload_n 0 dX11_run_0 rfl rfl ?_
    refine gf_getR flX11_10 rfl dX11_run_1 (gt_0 (by first | exact hG | exact gr_k _ hG)) (gp_0_0 (by first | exact hG | exact gr_k _ hG)) ?_
    refine gf_iload_n 1 dX11_run_4 rfl rfl ?_
    refine gf_callV cmX1_hasHouse lkX11_178 imX1_hasHouse seX1_hasHouse ⟨rfl, by decide⟩ dX11_run_5 (d1 := d - 1) (by omega) (gt_1 (by first | exact hG | exact gr_k _ hG)) (e_X1_hasHouse E (by omega) (nI c) h hG C) rfl rfl (Nat.le_of_ble_eq_true rfl) ?_
    refine gf_if_eq 21 dX11_run_8 rfl (fun q => absurd q (fun q => zb_0.mp q hP.1)) (fun _ => ?_)
    refine gf_iload_n 2 dX11_run_11 rfl rfl ?_
    refine gf_iconst (1) dX11_run_12 rfl ?_
    refine gf_bipush (120) dX11_run_13 rfl ?_
    refine gf_callS cmX11_within lkX11_105 stX11_within dX11_run_15 (d1 := d - 1) (by omega) (e_X11_within E (by omega) (nI T) 1 120 h) rfl rfl (Nat.le_of_ble_eq_true rfl) ?_
    refine gf_if_ne 23 dX11_run_18 rfl (fun _ => ?_) (fun q => absurd q (fun q => zb_0.mp q hP.2))
    refine gf_aload_n 0 dX11_run_23 rfl rfl ?_
    refine gf_callV cmX11_learn lkX11_244 imX11_learn seX11_learn ⟨rfl, by decide⟩ dX11_run_24 (d1 := d - 1) (by omega) (gt_0 (by first | exact hG | exact gr_k _ hG)) (e_X11_learn E (by omega) h hG K C) rfl rfl (Nat.le_of_ble_eq_true rfl) ?_
    rw [hq_0 h 174 186 (lrn h w g s), hq_174]
    have hG0 := hG
    refine gf_aload_n 0 dX11_run_27 rfl rfl ?_
    refine gf_getR flX11_58 rfl dX11_run_28 (gt_0 (by first | exact hG | exact gr_k _ hG)) (gp_0_6 (by first | exact hG | exact gr_k _ hG)) ?_
    refine gf_iload_n 1 dX11_run_31 rfl rfl ?_
    refine gf_iload_n 2 dX11_run_32 rfl rfl ?_
    refine gf_aload_n 0 dX11_run_33 rfl rfl ?_
    refine gf_getR flX11_40 rfl dX11_run_34 (gt_0 (by first | exact hG | exact gr_k _ hG)) (gp_0_4 (by first | exact hG | exact gr_k _ hG)) ?_
    refine gf_getR flX11_247 rfl dX11_run_37 (gt_165 (by first | exact hG | exact gr_k _ hG)) (gp_165_5 (by first | exact hG | exact gr_k _ hG)) ?_
    refine gf_callV cmX5_burn lkX11_250 imX5_burn seX5_burn ⟨rfl, by decide⟩ dX11_run_40 (d1 := d - 1) (by omega) (gt_174 (by first | exact hG | exact gr_k _ hG)) (e_burn_174 E (by omega) (m := m) (T := T) (c := c) (hk (hcl h 186 (rY0 h) (hp_l h 192)) (lrn h w g s)) (gr_k _ hG0) (rX0 h) (cty_k _ _ _ (by decide) C) I hT (by omega)) rfl rfl (Nat.le_of_ble_eq_true rfl) ?_
    rw [show brnX (hp_i (hk (hcl h 186 (rY0 h) (hp_l h 192)) (lrn h w g s))) w g m c T (rX0 h) = runX h w g m s c T from rfl]
    change gf _ _ _ _ _ _ (hb (hk (hcl h 186 (rY0 h) (hp_l h 192)) (lrn h w g s)) 174 12 (runX h w g m s c T)) _ _
    rw [← hq_174]
    unfold hq
    refine gf_aload_n 0 dX11_run_43 rfl rfl ?_
    refine gf_getR flX11_67 rfl dX11_run_44 (gt_0 (by first | exact hG | exact gr_k _ hG)) (gp_0_7 (by first | exact hG | exact gr_k _ hG)) ?_
    refine gf_aload_n 0 dX11_run_47 rfl rfl ?_
    refine gf_getR flX11_58 rfl dX11_run_48 (gt_0 (by first | exact hG | exact gr_k _ hG)) (gp_0_6 (by first | exact hG | exact gr_k _ hG)) ?_
    refine gf_callV cmX2_settleAll lkX11_254 imX2_settleAll seX2_settleAll ⟨rfl, by decide⟩ dX11_run_51 (d1 := d - 1) (by omega) (gt_186 (by first | exact hG | exact gr_k _ hG)) (e_X2_settleAll_186 E (by omega) (hb h 174 12 (runX h w g m s c T)) hG0 (cty_hb _ (by decide) C) (rY0 h) (hp_l h 192) (lrn h w g s) (fun o ho b hb => sam_tOK (sam_hb h _ (by decide)) (kn_T K o ho b (by rw [← lrn_2 h w g s]; exact hb))) KpL (fun c hc h4 => kn_M K (by omega) c hc (fun q => lt_ne0 h4 (by rw [lrn_row h w g s (by decide) (by decide) (by decide) (by decide)]; exact q)))) rfl rfl (Nat.le_of_ble_eq_true rfl) ?_
    change gf _ _ _ _ _ _ (runH h w g m s c T) _ _
    unfold runH
    rw [hq_174]
    refine gf_aload_n 0 dX11_run_54 rfl rfl ?_
    refine gf_getR flX11_58 rfl dX11_run_55 (gt_0 (by first | exact hG | exact gr_k _ hG)) (gp_0_6 (by first | exact hG | exact gr_k _ hG)) ?_
    refine gf_callV cmX5_touched lkX11_258 imX5_touched seX5_touched ⟨rfl, by decide⟩ dX11_run_58 (d1 := d - 1) (by omega) (gt_174 (by first | exact hG | exact gr_k _ hG)) (e_X5_touched_174 E (by omega) (hk (hcl h 186 (runZ h w g m s c T).1.1 (runZ h w g m s c T).1.2) (runZ h w g m s c T).2) (gr_k _ hG0) (runX h w g m s c T) (w := w) (g := g) (show hp_i h 1 2 = nI (w * g) from C.2.2.2.1) hn.2) rfl rfl (Nat.le_of_ble_eq_true rfl) ?_
    exact gf_iretE dX11_run_61 rfl (rfl) (rfl)
  · rw [if_neg hP, if_neg hP]
    refine gf_aload_n 0 dX11_run_0 rfl rfl ?_
    refine gf_getR flX11_10 rfl dX11_run_1 (gt_0 hG) (gp_0_0 hG) ?_
    refine gf_iload_n 1 dX11_run_4 rfl rfl ?_
    refine gf_callV cmX1_hasHouse lkX11_178 imX1_hasHouse seX1_hasHouse ⟨rfl, by decide⟩ dX11_run_5 (d1 := d - 1) (by omega) (gt_1 hG) (e_X1_hasHouse E (by omega) t h hG C) rfl rfl (Nat.le_of_ble_eq_true rfl) ?_
    refine gf_if_eq 21 dX11_run_8 rfl (fun zc8 => ?_) (fun zc8 => ?_)
    · refine gf_iconst (-1) dX11_run_21 rfl ?_
      exact gf_iretE dX11_run_22 rfl (rfl) (rfl)
    · refine gf_iload_n 2 dX11_run_11 rfl rfl ?_
      refine gf_iconst (1) dX11_run_12 rfl ?_
      refine gf_bipush (120) dX11_run_13 rfl ?_
      refine gf_callS cmX11_within lkX11_105 stX11_within dX11_run_15 (d1 := d - 1) (by omega) (e_X11_within E (by omega) u 1 120 h) rfl rfl (Nat.le_of_ble_eq_true rfl) ?_
      refine gf_if_ne 23 dX11_run_18 rfl (fun zc18 => ?_) (fun zc18 => ?_)
      · exact absurd ⟨zb_1.mp zc8, zb_1.mp zc18⟩ hP
      · refine gf_iconst (-1) dX11_run_21 rfl ?_
        exact gf_iretE dX11_run_22 rfl (rfl) (rfl)
abbrev woT : Type := (Nat → Nat → Int32) × cS × Int32 × Int32
def woX (h : hp_T) (w g m T : Nat) (z : woT) (c : Nat) : Nat → Nat → Int32 := brnX (hp_i (hk (hcl h 205 z.2.1.1.1 z.2.1.1.2) z.2.1.2)) w g m c T z.1
def woZ (h : hp_T) (w g m p T : Nat) (z : woT) (c : Nat) : cS := saS (hb h 193 12 (woX h w g m T z c)) w g p (hp_i (hb h 193 12 (woX h w g m T z c)) 195) ((z.2.1.1.1, z.2.1.1.2), z.2.1.2)
theorem woZ_row (h : hp_T) (w g m p T : Nat) (z : woT) (c : Nat) {r : Nat} (h6 : r ≠ 6) (h7 : r ≠ 7) (h8 : r ≠ 8) : (woZ h w g m p T z c).2.1 r = z.2.1.2.1 r := by
  unfold woZ
  exact saS_row _ w g p _ _ h6 h7 h8
theorem woZ_2 (h : hp_T) (w g m p T : Nat) (z : woT) (c : Nat) : (woZ h w g m p T z c).2.2 = z.2.1.2.2 := by
  unfold woZ
  exact saS_2 _ w g p _ _
def woB (h : hp_T) (w g m p T o : Nat) (z : woT) (c : Nat) : woT :=
  if hp_i h 2 c = 0 then z
  else if z.2.2.1 < (woZ h w g m p T z c).1.1 4 o then (woX h w g m T z c, woZ h w g m p T z c, (woZ h w g m p T z c).1.1 4 o, nI c)
  else (woX h w g m T z c, woZ h w g m p T z c, z.2.2.1, z.2.2.2)
theorem woB_row (h : hp_T) (w g m p T o : Nat) (z : woT) (c : Nat) {r : Nat} (h6 : r ≠ 6) (h7 : r ≠ 7) (h8 : r ≠ 8) : (woB h w g m p T o z c).2.1.2.1 r = z.2.1.2.1 r := by
  unfold woB
  split
  · rfl
  · split
    · dsimp only
      exact woZ_row h w g m p T z c h6 h7 h8
    · dsimp only
      exact woZ_row h w g m p T z c h6 h7 h8
theorem woB_2 (h : hp_T) (w g m p T o : Nat) (z : woT) (c : Nat) : (woB h w g m p T o z c).2.1.2.2 = z.2.1.2.2 := by
  unfold woB
  split
  · rfl
  · split
    · dsimp only
      exact woZ_2 h w g m p T z c
    · dsimp only
      exact woZ_2 h w g m p T z c
theorem wo_row (h : hp_T) (w g m p T o : Nat) (z : woT) {r : Nat} (h6 : r ≠ 6) (h7 : r ≠ 7) (h8 : r ≠ 8) : ∀ n, (itN (woB h w g m p T o) z n).2.1.2.1 r = z.2.1.2.1 r
  | 0 => rfl
  | n + 1 => (woB_row h w g m p T o _ n h6 h7 h8).trans (wo_row h w g m p T o z h6 h7 h8 n)
theorem wo_2 (h : hp_T) (w g m p T o : Nat) (z : woT) : ∀ n, (itN (woB h w g m p T o) z n).2.1.2.2 = z.2.1.2.2
  | 0 => rfl
  | n + 1 => (woB_2 h w g m p T o _ n).trans (wo_2 h w g m p T o z n)
def woH (h : hp_T) (z : woT) : hp_T := hq h 193 z.1 205 z.2.1.1.1 z.2.1.1.2 z.2.1.2
def wo0 (h : hp_T) (w g s : Nat) : woT := (fun o => hp_i h (193 + o), ((fun o => hp_i h (205 + o), hp_l h 211), lrn h w g s), 0, -1)
def woS (h : hp_T) (w g m s T o : Nat) : woT := itN (woB h w g m (pn h s) T o) (wo0 h w g s) (w * g)
theorem l_X11_worst (E : gE) {d : Nat} (hd : 8 ≤ d) {w g m p T o : Nat} (h : hp_T) (hG : gr h) (C : cty (hp_i h) w g) (I : brnI (hp_i h) w g m) (hT : T ≤ 120) (ho : o < 9) (z0 : woT) (hTT : ∀ o, o < 9 → ∀ b, z0.2.1.2.2 o = some b → tOK h b) (Kp : knI h p z0.2.1.2) (hM : ∀ c, c < 120 → ¬ z0.2.1.2.1 4 c = 0 → c < w * g) : ∀ (kz jz : Nat), jz + kz = w * g → gf E mX11_worst d 31 [(0, .ref (E.1 + 0)), (1, .int (nI o)), (2, .int (nI T)), (3, .int (itN (woB h w g m p T o) z0 (jz)).2.2.1), (4, .int (itN (woB h w g m p T o) z0 (jz)).2.2.2), (5, .int (nI (jz)))] [] (woH h (itN (woB h w g m p T o) z0 (jz))) (some (.int (itN (woB h w g m p T o) z0 (w * g)).2.2.2)) (woH h (itN (woB h w g m p T o) z0 (w * g))) := by
  have hn := cty_n C
  intro kz
  induction kz with
  | zero =>
    intro jz hj
    have hj : w * g = jz := by omega
    rw [hj]
    refine gf_iload dX11_worst_31 rfl ?_
    refine gf_aload_n 0 dX11_worst_33 rfl rfl ?_
    refine gf_getR flX11_10 rfl dX11_worst_34 (gt_0 (gr_k _ hG)) (gp_0_0 (gr_k _ hG)) ?_
    refine gf_getI flX11_302 rfl dX11_worst_37 (gt_1 (gr_k _ hG)) ?_
    refine gf_icmp_ge 117 dX11_worst_40 rfl (fun _ => ?_) (fun q => absurd (by rw [show hp_i (woH h (itN (woB h w g m p T o) z0 (jz))) 1 2 = nI (w * g) from C.2.2.2.1]; exact nI_le (by omega) (by omega)) q)
    refine gf_iload dX11_worst_117 rfl ?_
    exact gf_iretE dX11_worst_119 rfl (rfl) (rfl)
  | succ kz ih =>
    intro jz hj
    have ih1 := ih (jz + 1) (by omega)
    rw [itN_s] at ih1
    have hr0 : (itN (woB h w g m p T o) z0 (jz)).2.1.2.1 0 = z0.2.1.2.1 0 := wo_row h w g m p T o z0 (by decide) (by decide) (by decide) jz
    have hr2 : (itN (woB h w g m p T o) z0 (jz)).2.1.2.1 2 = z0.2.1.2.1 2 := wo_row h w g m p T o z0 (by decide) (by decide) (by decide) jz
    have hr4 : (itN (woB h w g m p T o) z0 (jz)).2.1.2.1 4 = z0.2.1.2.1 4 := wo_row h w g m p T o z0 (by decide) (by decide) (by decide) jz
    have hrT : (itN (woB h w g m p T o) z0 (jz)).2.1.2.2 = z0.2.1.2.2 := wo_2 h w g m p T o z0 jz
    generalize (itN (woB h w g m p T o) z0 (jz)) = z at ih1 hr0 hr2 hr4 hrT ⊢
    have KpZ : knI h p z.2.1.2 := knI_row Kp hr0 hr2
    refine gf_iload dX11_worst_31 rfl ?_
    refine gf_aload_n 0 dX11_worst_33 rfl rfl ?_
    refine gf_getR flX11_10 rfl dX11_worst_34 (gt_0 (gr_k _ hG)) (gp_0_0 (gr_k _ hG)) ?_
    refine gf_getI flX11_302 rfl dX11_worst_37 (gt_1 (gr_k _ hG)) ?_
    refine gf_icmp_ge 117 dX11_worst_40 rfl (fun q => absurd q (by rw [show hp_i (woH h z) 1 2 = nI (w * g) from C.2.2.2.1]; exact nI_ge (by omega) (by omega))) (fun _ => ?_)
    refine gf_aload_n 0 dX11_worst_43 rfl rfl ?_
    refine gf_getR flX11_10 rfl dX11_worst_44 (gt_0 (gr_k _ hG)) (gp_0_0 (gr_k _ hG)) ?_
    refine gf_getR flX11_305 rfl dX11_worst_47 (gt_1 (gr_k _ hG)) (gp_1_3 (gr_k _ hG)) ?_
    refine gf_iload dX11_worst_50 rfl ?_
    refine gf_zald 120 dX11_worst_52 (gt_2 (gr_k _ hG)) (gl_2 (gr_k _ hG)) rfl (by omega) (by decide) ?_
    refine gf_if_eq 111 dX11_worst_53 rfl (fun zc53 => ?_) (fun zc53 => ?_)
    · refine gf_iinc (1) dX11_worst_111 rfl rfl (Nat.le_of_ble_eq_true rfl) ?_
      refine gf_goto 31 dX11_worst_114 rfl ?_
      rw [show woB h w g m p T o z jz = z from if_pos zc53] at ih1
      exact gf_lw ih1 ⟨rfl, rfl, rfl, rfl, rfl, lvE (nI_1 jz), trivial⟩
    · unfold woH
      rw [hq_193]
      refine gf_aload_n 0 dX11_worst_56 rfl rfl ?_
      refine gf_getR flX11_71 rfl dX11_worst_57 (gt_0 (gr_k _ hG)) (gp_0_8 (gr_k _ hG)) ?_
      refine gf_iload dX11_worst_60 rfl ?_
      refine gf_iload_n 2 dX11_worst_62 rfl rfl ?_
      refine gf_aload_n 0 dX11_worst_63 rfl rfl ?_
      refine gf_getR flX11_40 rfl dX11_worst_64 (gt_0 (gr_k _ hG)) (gp_0_4 (gr_k _ hG)) ?_
      refine gf_getR flX11_247 rfl dX11_worst_67 (gt_165 (gr_k _ hG)) (gp_165_5 (gr_k _ hG)) ?_
      refine gf_callV cmX5_burn lkX11_250 imX5_burn seX5_burn ⟨rfl, by decide⟩ dX11_worst_70 (d1 := d - 1) (by omega) (gt_193 (gr_k _ hG)) (e_burn_193 E (by omega) (m := m) (T := T) (c := jz) (hk (hcl h 205 z.2.1.1.1 z.2.1.1.2) z.2.1.2) (gr_k _ hG) z.1 (cty_k _ _ _ (by decide) C) I hT (by omega)) rfl rfl (Nat.le_of_ble_eq_true rfl) ?_
      change gf _ _ _ _ _ _ (hb (hk (hcl h 205 z.2.1.1.1 z.2.1.1.2) z.2.1.2) 193 12 (woX h w g m T z jz)) _ _
      rw [← hq_193]
      unfold hq
      refine gf_aload_n 0 dX11_worst_73 rfl rfl ?_
      refine gf_getR flX11_74 rfl dX11_worst_74 (gt_0 (gr_k _ hG)) (gp_0_9 (gr_k _ hG)) ?_
      refine gf_aload_n 0 dX11_worst_77 rfl rfl ?_
      refine gf_getR flX11_71 rfl dX11_worst_78 (gt_0 (gr_k _ hG)) (gp_0_8 (gr_k _ hG)) ?_
      refine gf_callV cmX2_settleAll lkX11_254 imX2_settleAll seX2_settleAll ⟨rfl, by decide⟩ dX11_worst_81 (d1 := d - 1) (by omega) (gt_205 (gr_k _ hG)) (e_X2_settleAll_205 E (by omega) (hb h 193 12 (woX h w g m T z jz)) hG (cty_hb _ (by decide) C) z.2.1.1.1 z.2.1.1.2 z.2.1.2 (fun o ho b hb => sam_tOK (sam_hb h _ (by decide)) (hTT o ho b (by rw [← hrT]; exact hb))) KpZ (fun c hc h4 => hM c hc (fun q => lt_ne0 h4 (by rw [hr4]; exact q)))) rfl rfl (Nat.le_of_ble_eq_true rfl) ?_
      change gf _ _ _ _ _ _ (hk (hcl (hb h 193 12 (woX h w g m T z jz)) 205 (woZ h w g m p T z jz).1.1 (woZ h w g m p T z jz).1.2) (woZ h w g m p T z jz).2) _ _
      refine gf_aload_n 0 dX11_worst_84 rfl rfl ?_
      refine gf_getR flX11_74 rfl dX11_worst_85 (gt_0 (gr_k _ hG)) (gp_0_9 (gr_k _ hG)) ?_
      refine gf_getR flX11_286 rfl dX11_worst_88 (gt_205 (gr_k _ hG)) (gp_205_3 (gr_k _ hG)) ?_
      refine gf_iload_n 1 dX11_worst_91 rfl rfl ?_
      refine gf_iald 9 dX11_worst_92 (gt_209 (gr_k _ hG)) (gl_209 (gr_k _ hG)) rfl ho (by decide) ?_
      rw [show hp_i (hk (hcl (hb h 193 12 (woX h w g m T z jz)) 205 (woZ h w g m p T z jz).1.1 (woZ h w g m p T z jz).1.2) (woZ h w g m p T z jz).2) 209 o = (woZ h w g m p T z jz).1.1 4 o from rfl]
      refine gf_iload_n 3 dX11_worst_93 rfl rfl ?_
      refine gf_icmp_le 111 dX11_worst_94 rfl (fun zc94 => ?_) (fun zc94 => ?_)
      · refine gf_iinc (1) dX11_worst_111 rfl rfl (Nat.le_of_ble_eq_true rfl) ?_
        refine gf_goto 31 dX11_worst_114 rfl ?_
        rw [show woB h w g m p T o z jz = ((woX h w g m T z jz), (woZ h w g m p T z jz), z.2.2.1, z.2.2.2) from ((if_neg zc53).trans (if_neg (fun q => by have w1 := zc94; rw [fa_le] at w1; rw [fa_lt] at q; omega)))] at ih1
        exact gf_lw ih1 ⟨rfl, rfl, rfl, rfl, rfl, lvE (nI_1 jz), trivial⟩
      · refine gf_aload_n 0 dX11_worst_97 rfl rfl ?_
        refine gf_getR flX11_74 rfl dX11_worst_98 (gt_0 (gr_k _ hG)) (gp_0_9 (gr_k _ hG)) ?_
        refine gf_getR flX11_286 rfl dX11_worst_101 (gt_205 (gr_k _ hG)) (gp_205_3 (gr_k _ hG)) ?_
        refine gf_iload_n 1 dX11_worst_104 rfl rfl ?_
        refine gf_iald 9 dX11_worst_105 (gt_209 (gr_k _ hG)) (gl_209 (gr_k _ hG)) rfl ho (by decide) ?_
        rw [show hp_i (hk (hcl (hb h 193 12 (woX h w g m T z jz)) 205 (woZ h w g m p T z jz).1.1 (woZ h w g m p T z jz).1.2) (woZ h w g m p T z jz).2) 209 o = (woZ h w g m p T z jz).1.1 4 o from rfl]
        refine gf_istore_n 3 dX11_worst_106 rfl (Nat.le_of_ble_eq_true rfl) ?_
        refine gf_iload dX11_worst_107 rfl ?_
        refine gf_istore dX11_worst_109 (Nat.le_of_ble_eq_true rfl) ?_
        refine gf_iinc (1) dX11_worst_111 rfl rfl (Nat.le_of_ble_eq_true rfl) ?_
        refine gf_goto 31 dX11_worst_114 rfl ?_
        rw [show woB h w g m p T o z jz = ((woX h w g m T z jz), (woZ h w g m p T z jz), (woZ h w g m p T z jz).1.1 4 o, nI jz) from ((if_neg zc53).trans (if_pos (by have w1 := zc94; rw [fa_le] at w1; rw [fa_lt]; omega)))] at ih1
        exact gf_lw ih1 ⟨rfl, rfl, rfl, rfl, rfl, lvE (nI_1 jz), trivial⟩
theorem e_X11_worst (E : gE) {d : Nat} (hd : 9 ≤ d) (t u : Int32) {w g n s m : Nat} (h : hp_T) (hG : gr h) (K : actK h w g n s) (C : cty (hp_i h) w g) (I : brnI (hp_i h) w g m) : ev E mX11_worst d [.ref (E.1 + 0), .int t, .int u] h (some (.int (if isO t ∧ isM u 60 then (woS h w g m s u.toNatClampNeg t.toNatClampNeg).2.2.2 else -1))) (if isO t ∧ isM u 60 then woH h (woS h w g m s u.toNatClampNeg t.toNatClampNeg) else h) := by
  refine ev_of rfl (fun q => absurd q (by decide)) (Nat.le_of_ble_eq_true rfl) ?_
  have hn := cty_n C
  by_cases hP : isO t ∧ isM u 60
  · rw [if_pos hP, if_pos hP]
    obtain ⟨c, hc, ec⟩ := isO_n hP.1
    obtain ⟨T, hT, eT, -⟩ := isM_n (by omega) hP.2
    subst ec
    subst eT
    rw [nI_clamp (by omega), nI_clamp (by omega)]
    obtain ⟨hps, Kp⟩ := kn_p K
    have KpL : knI h (pn h s) (lrn h w g s) := knI_row Kp (lrn_row h w g s (by decide) (by decide) (by decide) (by decide)) (lrn_row h w g s (by decide) (by decide) (by decide) (by decide))
    refine gf_iload_n 1 dX11_worst_0 rfl rfl ?_
    refine gf_callS cmX11_isOffice lkX11_143 stX11_isOffice dX11_worst_1 (d1 := d - 1) (by omega) (e_X11_isOffice E (by omega) (nI c) h) rfl rfl (Nat.le_of_ble_eq_true rfl) ?_
    refine gf_if_eq 17 dX11_worst_4 rfl (fun q => absurd q (fun q => zb_0.mp q hP.1)) (fun _ => ?_)
    refine gf_iload_n 2 dX11_worst_7 rfl rfl ?_
    refine gf_iconst (1) dX11_worst_8 rfl ?_
    refine gf_bipush (60) dX11_worst_9 rfl ?_
    refine gf_callS cmX11_within lkX11_105 stX11_within dX11_worst_11 (d1 := d - 1) (by omega) (e_X11_within E (by omega) (nI T) 1 60 h) rfl rfl (Nat.le_of_ble_eq_true rfl) ?_
    refine gf_if_ne 19 dX11_worst_14 rfl (fun _ => ?_) (fun q => absurd q (fun q => zb_0.mp q hP.2))
    refine gf_aload_n 0 dX11_worst_19 rfl rfl ?_
    refine gf_callV cmX11_learn lkX11_244 imX11_learn seX11_learn ⟨rfl, by decide⟩ dX11_worst_20 (d1 := d - 1) (by omega) (gt_0 hG) (e_X11_learn E (by omega) h hG K C) rfl rfl (Nat.le_of_ble_eq_true rfl) ?_
    rw [hq_0 h 193 205 (lrn h w g s)]
    refine gf_iconst (0) dX11_worst_23 rfl ?_
    refine gf_istore_n 3 dX11_worst_24 rfl (Nat.le_of_ble_eq_true rfl) ?_
    refine gf_iconst (-1) dX11_worst_25 rfl ?_
    refine gf_istore dX11_worst_26 (Nat.le_of_ble_eq_true rfl) ?_
    refine gf_iconst (0) dX11_worst_28 rfl ?_
    refine gf_istore dX11_worst_29 (Nat.le_of_ble_eq_true rfl) ?_
    unfold woS
    change gf _ _ _ _ _ _ (woH h (wo0 h w g s)) _ _
    exact gf_lw (l_X11_worst E (by omega) (m := m) h hG C I (by omega) hc (wo0 h w g s) (fun o ho b hb => kn_T K o ho b (by rw [← lrn_2 h w g s]; exact hb)) KpL (fun c hc h4 => kn_M K (by omega) c hc (fun q => h4 (by show (lrn h w g s).1 4 c = 0; rw [lrn_row h w g s (by decide) (by decide) (by decide) (by decide)]; exact q))) (w * g) 0 (by omega)) ⟨rfl, rfl, rfl, rfl, rfl, rfl, trivial⟩
  · rw [if_neg hP, if_neg hP]
    refine gf_iload_n 1 dX11_worst_0 rfl rfl ?_
    refine gf_callS cmX11_isOffice lkX11_143 stX11_isOffice dX11_worst_1 (d1 := d - 1) (by omega) (e_X11_isOffice E (by omega) t h) rfl rfl (Nat.le_of_ble_eq_true rfl) ?_
    refine gf_if_eq 17 dX11_worst_4 rfl (fun zc4 => ?_) (fun zc4 => ?_)
    · refine gf_iconst (-1) dX11_worst_17 rfl ?_
      exact gf_iretE dX11_worst_18 rfl (rfl) (rfl)
    · refine gf_iload_n 2 dX11_worst_7 rfl rfl ?_
      refine gf_iconst (1) dX11_worst_8 rfl ?_
      refine gf_bipush (60) dX11_worst_9 rfl ?_
      refine gf_callS cmX11_within lkX11_105 stX11_within dX11_worst_11 (d1 := d - 1) (by omega) (e_X11_within E (by omega) u 1 60 h) rfl rfl (Nat.le_of_ble_eq_true rfl) ?_
      refine gf_if_ne 19 dX11_worst_14 rfl (fun zc14 => ?_) (fun zc14 => ?_)
      · exact absurd ⟨zb_1.mp zc4, zb_1.mp zc14⟩ hP
      · refine gf_iconst (-1) dX11_worst_17 rfl ?_
        exact gf_iretE dX11_worst_18 rfl (rfl) (rfl)
