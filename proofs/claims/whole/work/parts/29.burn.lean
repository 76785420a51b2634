/-! ===== the class's Fire: a fire burns ===== -/
theorem itN_row {f : (Nat → Nat → Int32) → Nat → (Nat → Nat → Int32)} {r : Nat} (hf : ∀ X c, f X c r = X r) (X : Nat → Nat → Int32) : ∀ kx, itN f X kx r = X r
  | 0 => rfl
  | kx + 1 => (hf _ kx).trans (itN_row hf X kx)
theorem up2_row {X : Nat → Nat → Int32} {a c r : Nat} {v : Int32} (h : r ≠ a) : up2 X a c v r = X r := hp_upne h
theorem conX_row {fu : Nat → Int32} {r : Nat} (h3 : r ≠ 3) (h5 : r ≠ 5) (h6 : r ≠ 6) (X : Nat → Nat → Int32) (c : Nat) : conX fu X c r = X r := by
  unfold conX
  repeat' split
  all_goals (first | rfl | simp only [up2_row h3, up2_row h5, up2_row h6])
theorem kinX_row {r : Nat} (h3 : r ≠ 3) (h5 : r ≠ 5) (h7 : r ≠ 7) (X : Nat → Nat → Int32) (c : Nat) (t : Int32) : kinX X c t r = X r := by
  unfold kinX
  split
  · rw [up2_row h7, up2_row h5, up2_row h3]
  · rw [up2_row h5, up2_row h3]
theorem wrmB_row {w g cc : Nat} {wy sg wm : Int32} {r : Nat} (h4 : r ≠ 4) (X : Nat → Nat → Int32) (way : Nat) : wrmB w g cc wy sg wm X way r = X r := by
  cases hq : nbo w g cc way with
  | none => simp only [wrmB, hq]
  | some x =>
    by_cases pq : ¬ X 1 x = 0 ∧ X 3 x = 0
    · simp only [wrmB, hq, if_pos pq, up2_row h4]
    · simp only [wrmB, hq, if_neg pq]
theorem sprX_row (F : Nat → Nat → Int32) (w g t : Nat) {r : Nat} (h3 : r ≠ 3) (h4 : r ≠ 4) (h5 : r ≠ 5) (h7 : r ≠ 7) (X : Nat → Nat → Int32) : sprX F w g t X r = X r := by
  unfold sprX
  rw [itN_row (f := sp3 (rsW (F 3)) (nI t)), itN_row (f := sp2 F w g (F 132 t) (F 133 t)), itN_row (f := sp1)]
  · intro X c
    unfold sp1
    split
    · exact up2_row h4
    · rfl
  · intro X c
    unfold sp2
    split
    · exact itN_row (fun X c => wrmB_row h4 X c) X 8
    · rfl
  · intro X c
    unfold sp3
    split
    · split
      · rfl
      · exact kinX_row h3 h5 h7 X c (nI t)
    · rfl
theorem drvI_row {m n : Nat} {X Y : Nat → Nat → Int32} (e0 : Y 0 = X 0) (e9 : Y 9 = X 9) (e10 : Y 10 = X 10) (I : drvI m n X) : drvI m n Y := by
  refine ⟨by rw [e0]; exact I.1, fun e he => ?_⟩
  rw [e9, e10]
  exact I.2 e he
/-- a minute -/
def mnB (F : Nat → Nat → Int32) (w g m : Nat) (X : Nat → Nat → Int32) (kx : Nat) : Nat → Nat → Int32 :=
  if nI (kx + 1) < 3 then sprX F w g (kx + 1) (itN (conX (fuW (F 3))) X (w * g)) else itN (drvB F w g (nI (kx + 1))) (sprX F w g (kx + 1) (itN (conX (fuW (F 3))) X (w * g))) m
theorem mn_I0 {F : Nat → Nat → Int32} {m w g : Nat} {X : Nat → Nat → Int32} (t : Nat) (I : drvI m (w * g) X) : drvI m (w * g) (sprX F w g t (itN (conX (fuW (F 3))) X (w * g))) :=
  drvI_row ((sprX_row F w g t (by decide) (by decide) (by decide) (by decide) _).trans (itN_row (conX_row (by decide) (by decide) (by decide)) X _)) ((sprX_row F w g t (by decide) (by decide) (by decide) (by decide) _).trans (itN_row (conX_row (by decide) (by decide) (by decide)) X _)) ((sprX_row F w g t (by decide) (by decide) (by decide) (by decide) _).trans (itN_row (conX_row (by decide) (by decide) (by decide)) X _)) I
theorem mn_I {F : Nat → Nat → Int32} {m w g : Nat} (C : cty F w g) (hgo : ∀ e, e < m → ∃ k, k ≤ 9 ∧ F 148 e = nI k) {X : Nat → Nat → Int32} (I : drvI m (w * g) X) : ∀ kx, drvI m (w * g) (itN (mnB F w g m) X kx)
  | 0 => I
  | kx + 1 => by
    have ih := mn_I C hgo I kx
    show drvI m (w * g) (mnB F w g m _ kx)
    unfold mnB
    split
    · exact mn_I0 (kx + 1) ih
    · exact drvB_I C hgo (nI (kx + 1)) (mn_I0 (kx + 1) ih) m (Nat.le_refl m)
theorem rdyE_at (F : Nat → Nat → Int32) (X : Nat → Nat → Int32) : ∀ kx e, e < kx → itN (rdyE F) X kx 9 e = F 147 e ∧ itN (rdyE F) X kx 10 e = -1
  | 0, e, h => absurd h (Nat.not_lt_zero e)
  | kx + 1, e, h => by
    show rdyE F (itN (rdyE F) X kx) kx 9 e = _ ∧ rdyE F (itN (rdyE F) X kx) kx 10 e = _
    unfold rdyE
    by_cases q : e = kx
    · subst q
      exact ⟨by rw [up2_a _ _ (by decide), up2_a _ _ (by decide), up2_s], by rw [up2_a _ _ (by decide), up2_s]⟩
    · have ih := rdyE_at F X kx e (by omega)
      exact ⟨by rw [up2_a _ _ (by decide), up2_a _ _ (by decide), up2_k _ _ q]; exact ih.1, by rw [up2_a _ _ (by decide), up2_k _ _ q]; exact ih.2⟩
theorem rdyX_I {F : Nat → Nat → Int32} {w g m : Nat} (X : Nat → Nat → Int32) (hm : F 145 0 = nI m) (hho : ∀ e, e < m → ∃ a, a < w * g ∧ F 147 e = nI a) : drvI m (w * g) (rdyX F w g m X) := by
  refine ⟨?_, fun e he => ?_⟩
  · unfold rdyX
    rw [itN_row (f := rdyE F) (fun X c => by unfold rdyE; rw [up2_row (by decide), up2_row (by decide), up2_row (by decide)])]
    rw [up2_s]
    exact hm
  · obtain ⟨e1, e2⟩ := rdyE_at F (up2 (itN (rdyB F w g) (up2 X 0 0 1) (w * g)) 0 1 (F 145 0)) m e he
    have e1 : rdyX F w g m X 9 e = F 147 e := e1
    have e2 : rdyX F w g m X 10 e = -1 := e2
    rw [e1, e2]
    exact ⟨hho e he, Or.inl rfl⟩
def brnX (F : Nat → Nat → Int32) (w g m c T : Nat) (X : Nat → Nat → Int32) : Nat → Nat → Int32 := itN (tlyB F) (up2 (itN (mnB F w g m) (kinX (rdyX F w g m X) c 0) T) 0 2 0) (w * g)
theorem l_X5_burn_174 (E : gE) {d : Nat} (hd : 4 ≤ d) {T m c : Nat} (h : hp_T) (hG : gr h) (X : Nat → Nat → Int32) {w g : Nat} (C : cty (hp_i h) w g) (hm : m ≤ 12) (hT : T ≤ 120) (I : drvI m (w * g) X) (hgo : ∀ e, e < m → ∃ k, k ≤ 9 ∧ hp_i h 148 e = nI k) (hwl : ∀ c, c < 120 → ∃ k, k < 4 ∧ hp_i h 3 c = nI k) (htr : ∀ c, c < 120 → ∃ k, k < 6 ∧ hp_i h 4 c = nI k) {v : Option Value} {hz : hp_T} (K : gf E mX5_burn d 48 [(0, .ref (E.1 + 174)), (1, .int (nI c)), (2, .int (nI T)), (3, .ref (E.1 + 170)), (4, .int (nI (T + 1)))] [] (hb h 174 12 (itN (mnB (hp_i h) w g m) X (T))) v hz) : ∀ (kz jz : Nat), jz + kz = T → gf E mX5_burn d 13 [(0, .ref (E.1 + 174)), (1, .int (nI c)), (2, .int (nI T)), (3, .ref (E.1 + 170)), (4, .int (nI (jz + 1)))] [] (hb h 174 12 (itN (mnB (hp_i h) w g m) X (jz))) v hz := by
  have hn := cty_n C
  intro kz
  induction kz with
  | zero =>
    intro jz hj
    have hj : T = jz := by omega
    subst hj
    refine gf_iload dX5_burn_13 rfl ?_
    refine gf_iload_n 2 dX5_burn_15 rfl rfl ?_
    refine gf_icmp_gt 48 dX5_burn_16 rfl (fun _ => ?_) (fun q => absurd (nI_lt (by omega) (by omega)) q)
    exact gf_lw K ⟨rfl, rfl, rfl, rfl, rfl, trivial⟩
  | succ kz ih =>
    intro jz hj
    have I1 := mn_I C hgo I jz
    have I2 := mn_I0 (F := hp_i h) (jz + 1) I1
    refine gf_iload dX5_burn_13 rfl ?_
    refine gf_iload_n 2 dX5_burn_15 rfl rfl ?_
    refine gf_icmp_gt 48 dX5_burn_16 rfl (fun q => absurd q (nI_nlt (by omega) (by omega))) (fun _ => ?_)
    refine gf_aload_n 0 dX5_burn_19 rfl rfl ?_
    refine gf_callV cmX5_consume lkX5_61 imX5_consume seX5_consume ⟨rfl, by decide⟩ dX5_burn_20 (d1 := d - 1) (by omega) (gt_174 hG) (e_X5_consume_174 E (by omega) h hG (itN (mnB (hp_i h) w g m) X (jz)) C.2.2.2.1 hn.2 hwl) rfl rfl (Nat.le_of_ble_eq_true rfl) ?_
    refine gf_aload_n 0 dX5_burn_23 rfl rfl ?_
    refine gf_iload dX5_burn_24 rfl ?_
    refine gf_callV cmX5_spread lkX5_64 imX5_spread seX5_spread ⟨rfl, by decide⟩ dX5_burn_26 (d1 := d - 1) (by omega) (gt_174 hG) (e_X5_spread_174 E (by omega) (t0 := jz + 1) h hG (itN (conX (fuW (hp_i h 3))) (itN (mnB (hp_i h) w g m) X (jz)) (w * g)) C ⟨by omega, by omega⟩ hwl htr) rfl rfl (Nat.le_of_ble_eq_true rfl) ?_
    refine gf_iload dX5_burn_29 rfl ?_
    refine gf_iconst (3) dX5_burn_31 rfl ?_
    refine gf_icmp_lt 42 dX5_burn_32 rfl (fun zc32 => ?_) (fun zc32 => ?_)
    · refine gf_iinc (1) dX5_burn_42 rfl rfl (Nat.le_of_ble_eq_true rfl) ?_
      refine gf_goto 13 dX5_burn_45 rfl ?_
      exact gf_hE (congrArg (hb h 174 12) (show _ = mnB (hp_i h) w g m (itN (mnB (hp_i h) w g m) X (jz)) jz from (if_pos zc32).symm)) (gf_lw (ih (jz + 1) (by omega)) ⟨rfl, rfl, rfl, rfl, lvE (nI_1 (jz + 1)), trivial⟩)
    · refine gf_aload_n 0 dX5_burn_35 rfl rfl ?_
      refine gf_iload dX5_burn_36 rfl ?_
      refine gf_aload_n 3 dX5_burn_38 rfl rfl ?_
      refine gf_callV cmX5_drive lkX5_68 imX5_drive seX5_drive ⟨rfl, by decide⟩ dX5_burn_39 (d1 := d - 1) (by omega) (gt_174 hG) (e_X5_drive_174 E (by omega) (t0 := jz + 1) h hG (sprX (hp_i h) w g (jz + 1) (itN (conX (fuW (hp_i h 3))) (itN (mnB (hp_i h) w g m) X (jz)) (w * g))) C hm I2 hgo) rfl rfl (Nat.le_of_ble_eq_true rfl) ?_
      refine gf_iinc (1) dX5_burn_42 rfl rfl (Nat.le_of_ble_eq_true rfl) ?_
      refine gf_goto 13 dX5_burn_45 rfl ?_
      exact gf_hE (congrArg (hb h 174 12) (show _ = mnB (hp_i h) w g m (itN (mnB (hp_i h) w g m) X (jz)) jz from (if_neg zc32).symm)) (gf_lw (ih (jz + 1) (by omega)) ⟨rfl, rfl, rfl, rfl, lvE (nI_1 (jz + 1)), trivial⟩)
theorem e_X5_burn_174 (E : gE) {d : Nat} (hd : 4 ≤ d) {T m c : Nat} (h : hp_T) (hG : gr h) (X : Nat → Nat → Int32) {w g : Nat} (C : cty (hp_i h) w g) (hm : m ≤ 12) (hT : T ≤ 120) (hc : c < 120) (hgo : ∀ e, e < m → ∃ k, k ≤ 9 ∧ hp_i h 148 e = nI k) (hwl : ∀ c, c < 120 → ∃ k, k < 4 ∧ hp_i h 3 c = nI k) (htr : ∀ c, c < 120 → ∃ k, k < 6 ∧ hp_i h 4 c = nI k) (hst : ∀ c, c < 120 → hp_i h 2 c = 0 ∨ hp_i h 2 c = 1) (hE : hp_i h 145 0 = nI m) (hho : ∀ e, e < m → ∃ a, a < w * g ∧ hp_i h 147 e = nI a) : ev E mX5_burn d [.ref (E.1 + 174), .int (nI c), .int (nI T), .ref (E.1 + 170)] (hb h 174 12 (X)) (none) (hb h 174 12 (brnX (hp_i h) w g m c T X)) := by
  refine ev_of rfl (fun q => absurd q (by decide)) (Nat.le_of_ble_eq_true rfl) ?_
  refine gf_aload_n 0 dX5_burn_0 rfl rfl ?_
  refine gf_callV cmX5_makeReady lkX5_54 imX5_makeReady seX5_makeReady ⟨rfl, by decide⟩ dX5_burn_1 (d1 := d - 1) (by omega) (gt_174 hG) (e_X5_makeReady_174 E (by omega) h hG X C hst hE hm) rfl rfl (Nat.le_of_ble_eq_true rfl) ?_
  refine gf_aload_n 0 dX5_burn_4 rfl rfl ?_
  refine gf_iload_n 1 dX5_burn_5 rfl rfl ?_
  refine gf_iconst (0) dX5_burn_6 rfl ?_
  refine gf_callV cmX5_kindle lkX5_57 imX5_kindle seX5_kindle ⟨rfl, by decide⟩ dX5_burn_7 (d1 := d - 1) (by omega) (gt_174 hG) (e_X5_kindle_174 E (by omega) (c := c) 0 h hG (rdyX (hp_i h) w g m X) hc) rfl rfl (Nat.le_of_ble_eq_true rfl) ?_
  refine gf_iconst (1) dX5_burn_10 rfl ?_
  refine gf_istore dX5_burn_11 (Nat.le_of_ble_eq_true rfl) ?_
  refine l_X5_burn_174 E hd h hG (kinX (rdyX (hp_i h) w g m X) c 0) C hm hT (drvI_row (kinX_row (by decide) (by decide) (by decide) _ c 0) (kinX_row (by decide) (by decide) (by decide) _ c 0) (kinX_row (by decide) (by decide) (by decide) _ c 0) (rdyX_I X hE hho)) hgo hwl htr ?_ T 0 (by omega)
  refine gf_aload_n 0 dX5_burn_48 rfl rfl ?_
  refine gf_callV cmX5_tally lkX5_72 imX5_tally seX5_tally ⟨rfl, by decide⟩ dX5_burn_49 (d1 := d - 1) (by omega) (gt_174 hG) (e_X5_tally_174 E (by omega) h hG (itN (mnB (hp_i h) w g m) (kinX (rdyX (hp_i h) w g m X) c 0) T) C hwl) rfl rfl (Nat.le_of_ble_eq_true rfl) ?_
  exact gf_vretE dX5_burn_52 rfl (rfl)
theorem l_X5_burn_193 (E : gE) {d : Nat} (hd : 4 ≤ d) {T m c : Nat} (h : hp_T) (hG : gr h) (X : Nat → Nat → Int32) {w g : Nat} (C : cty (hp_i h) w g) (hm : m ≤ 12) (hT : T ≤ 120) (I : drvI m (w * g) X) (hgo : ∀ e, e < m → ∃ k, k ≤ 9 ∧ hp_i h 148 e = nI k) (hwl : ∀ c, c < 120 → ∃ k, k < 4 ∧ hp_i h 3 c = nI k) (htr : ∀ c, c < 120 → ∃ k, k < 6 ∧ hp_i h 4 c = nI k) {v : Option Value} {hz : hp_T} (K : gf E mX5_burn d 48 [(0, .ref (E.1 + 193)), (1, .int (nI c)), (2, .int (nI T)), (3, .ref (E.1 + 170)), (4, .int (nI (T + 1)))] [] (hb h 193 12 (itN (mnB (hp_i h) w g m) X (T))) v hz) : ∀ (kz jz : Nat), jz + kz = T → gf E mX5_burn d 13 [(0, .ref (E.1 + 193)), (1, .int (nI c)), (2, .int (nI T)), (3, .ref (E.1 + 170)), (4, .int (nI (jz + 1)))] [] (hb h 193 12 (itN (mnB (hp_i h) w g m) X (jz))) v hz := by
  have hn := cty_n C
  intro kz
  induction kz with
  | zero =>
    intro jz hj
    have hj : T = jz := by omega
    subst hj
    refine gf_iload dX5_burn_13 rfl ?_
    refine gf_iload_n 2 dX5_burn_15 rfl rfl ?_
    refine gf_icmp_gt 48 dX5_burn_16 rfl (fun _ => ?_) (fun q => absurd (nI_lt (by omega) (by omega)) q)
    exact gf_lw K ⟨rfl, rfl, rfl, rfl, rfl, trivial⟩
  | succ kz ih =>
    intro jz hj
    have I1 := mn_I C hgo I jz
    have I2 := mn_I0 (F := hp_i h) (jz + 1) I1
    refine gf_iload dX5_burn_13 rfl ?_
    refine gf_iload_n 2 dX5_burn_15 rfl rfl ?_
    refine gf_icmp_gt 48 dX5_burn_16 rfl (fun q => absurd q (nI_nlt (by omega) (by omega))) (fun _ => ?_)
    refine gf_aload_n 0 dX5_burn_19 rfl rfl ?_
    refine gf_callV cmX5_consume lkX5_61 imX5_consume seX5_consume ⟨rfl, by decide⟩ dX5_burn_20 (d1 := d - 1) (by omega) (gt_193 hG) (e_X5_consume_193 E (by omega) h hG (itN (mnB (hp_i h) w g m) X (jz)) C.2.2.2.1 hn.2 hwl) rfl rfl (Nat.le_of_ble_eq_true rfl) ?_
    refine gf_aload_n 0 dX5_burn_23 rfl rfl ?_
    refine gf_iload dX5_burn_24 rfl ?_
    refine gf_callV cmX5_spread lkX5_64 imX5_spread seX5_spread ⟨rfl, by decide⟩ dX5_burn_26 (d1 := d - 1) (by omega) (gt_193 hG) (e_X5_spread_193 E (by omega) (t0 := jz + 1) h hG (itN (conX (fuW (hp_i h 3))) (itN (mnB (hp_i h) w g m) X (jz)) (w * g)) C ⟨by omega, by omega⟩ hwl htr) rfl rfl (Nat.le_of_ble_eq_true rfl) ?_
    refine gf_iload dX5_burn_29 rfl ?_
    refine gf_iconst (3) dX5_burn_31 rfl ?_
    refine gf_icmp_lt 42 dX5_burn_32 rfl (fun zc32 => ?_) (fun zc32 => ?_)
    · refine gf_iinc (1) dX5_burn_42 rfl rfl (Nat.le_of_ble_eq_true rfl) ?_
      refine gf_goto 13 dX5_burn_45 rfl ?_
      exact gf_hE (congrArg (hb h 193 12) (show _ = mnB (hp_i h) w g m (itN (mnB (hp_i h) w g m) X (jz)) jz from (if_pos zc32).symm)) (gf_lw (ih (jz + 1) (by omega)) ⟨rfl, rfl, rfl, rfl, lvE (nI_1 (jz + 1)), trivial⟩)
    · refine gf_aload_n 0 dX5_burn_35 rfl rfl ?_
      refine gf_iload dX5_burn_36 rfl ?_
      refine gf_aload_n 3 dX5_burn_38 rfl rfl ?_
      refine gf_callV cmX5_drive lkX5_68 imX5_drive seX5_drive ⟨rfl, by decide⟩ dX5_burn_39 (d1 := d - 1) (by omega) (gt_193 hG) (e_X5_drive_193 E (by omega) (t0 := jz + 1) h hG (sprX (hp_i h) w g (jz + 1) (itN (conX (fuW (hp_i h 3))) (itN (mnB (hp_i h) w g m) X (jz)) (w * g))) C hm I2 hgo) rfl rfl (Nat.le_of_ble_eq_true rfl) ?_
      refine gf_iinc (1) dX5_burn_42 rfl rfl (Nat.le_of_ble_eq_true rfl) ?_
      refine gf_goto 13 dX5_burn_45 rfl ?_
      exact gf_hE (congrArg (hb h 193 12) (show _ = mnB (hp_i h) w g m (itN (mnB (hp_i h) w g m) X (jz)) jz from (if_neg zc32).symm)) (gf_lw (ih (jz + 1) (by omega)) ⟨rfl, rfl, rfl, rfl, lvE (nI_1 (jz + 1)), trivial⟩)
theorem e_X5_burn_193 (E : gE) {d : Nat} (hd : 4 ≤ d) {T m c : Nat} (h : hp_T) (hG : gr h) (X : Nat → Nat → Int32) {w g : Nat} (C : cty (hp_i h) w g) (hm : m ≤ 12) (hT : T ≤ 120) (hc : c < 120) (hgo : ∀ e, e < m → ∃ k, k ≤ 9 ∧ hp_i h 148 e = nI k) (hwl : ∀ c, c < 120 → ∃ k, k < 4 ∧ hp_i h 3 c = nI k) (htr : ∀ c, c < 120 → ∃ k, k < 6 ∧ hp_i h 4 c = nI k) (hst : ∀ c, c < 120 → hp_i h 2 c = 0 ∨ hp_i h 2 c = 1) (hE : hp_i h 145 0 = nI m) (hho : ∀ e, e < m → ∃ a, a < w * g ∧ hp_i h 147 e = nI a) : ev E mX5_burn d [.ref (E.1 + 193), .int (nI c), .int (nI T), .ref (E.1 + 170)] (hb h 193 12 (X)) (none) (hb h 193 12 (brnX (hp_i h) w g m c T X)) := by
  refine ev_of rfl (fun q => absurd q (by decide)) (Nat.le_of_ble_eq_true rfl) ?_
  refine gf_aload_n 0 dX5_burn_0 rfl rfl ?_
  refine gf_callV cmX5_makeReady lkX5_54 imX5_makeReady seX5_makeReady ⟨rfl, by decide⟩ dX5_burn_1 (d1 := d - 1) (by omega) (gt_193 hG) (e_X5_makeReady_193 E (by omega) h hG X C hst hE hm) rfl rfl (Nat.le_of_ble_eq_true rfl) ?_
  refine gf_aload_n 0 dX5_burn_4 rfl rfl ?_
  refine gf_iload_n 1 dX5_burn_5 rfl rfl ?_
  refine gf_iconst (0) dX5_burn_6 rfl ?_
  refine gf_callV cmX5_kindle lkX5_57 imX5_kindle seX5_kindle ⟨rfl, by decide⟩ dX5_burn_7 (d1 := d - 1) (by omega) (gt_193 hG) (e_X5_kindle_193 E (by omega) (c := c) 0 h hG (rdyX (hp_i h) w g m X) hc) rfl rfl (Nat.le_of_ble_eq_true rfl) ?_
  refine gf_iconst (1) dX5_burn_10 rfl ?_
  refine gf_istore dX5_burn_11 (Nat.le_of_ble_eq_true rfl) ?_
  refine l_X5_burn_193 E hd h hG (kinX (rdyX (hp_i h) w g m X) c 0) C hm hT (drvI_row (kinX_row (by decide) (by decide) (by decide) _ c 0) (kinX_row (by decide) (by decide) (by decide) _ c 0) (kinX_row (by decide) (by decide) (by decide) _ c 0) (rdyX_I X hE hho)) hgo hwl htr ?_ T 0 (by omega)
  refine gf_aload_n 0 dX5_burn_48 rfl rfl ?_
  refine gf_callV cmX5_tally lkX5_72 imX5_tally seX5_tally ⟨rfl, by decide⟩ dX5_burn_49 (d1 := d - 1) (by omega) (gt_193 hG) (e_X5_tally_193 E (by omega) h hG (itN (mnB (hp_i h) w g m) (kinX (rdyX (hp_i h) w g m X) c 0) T) C hwl) rfl rfl (Nat.le_of_ble_eq_true rfl) ?_
  exact gf_vretE dX5_burn_52 rfl (rfl)
