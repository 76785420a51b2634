/-! ===== a block of cells as one state: rows b .. b + n - 1 of the ints are X ===== -/
def hb (h : hp_T) (b n : Nat) (X : Nat → Nat → Int32) : hp_T := (h.1, h.2.1, h.2.2.1, h.2.2.2.1, (fun x => if b ≤ x ∧ x < b + n then X (x - b) else h.2.2.2.2.1 x), h.2.2.2.2.2.1, h.2.2.2.2.2.2)
theorem hb_in (h : hp_T) {b n o : Nat} (X : Nat → Nat → Int32) (ho : o < n) : hp_i (hb h b n X) (b + o) = X o := by
  show (if b ≤ b + o ∧ b + o < b + n then X (b + o - b) else _) = X o
  rw [if_pos ⟨by omega, by omega⟩, show b + o - b = o from by omega]
theorem hb_out (h : hp_T) {b n x : Nat} (X : Nat → Nat → Int32) (hx : ¬ (b ≤ x ∧ x < b + n)) : hp_i (hb h b n X) x = hp_i h x := if_neg hx
theorem hb_set (h : hp_T) {b n o : Nat} (X : Nat → Nat → Int32) (ho : o < n) (k : Nat) (v : Int32) : hp_setI (hb h b n X) (b + o) k v = hb h b n (up2 X o k v) := by
  unfold hp_setI hb
  refine congrArg (fun z => (h.1, h.2.1, h.2.2.1, h.2.2.2.1, z, h.2.2.2.2.2.1, h.2.2.2.2.2.2)) ?_
  funext x i
  by_cases hx : b ≤ x ∧ x < b + n
  · by_cases e : x = b + o
    · subst e
      have e1 : b + o - b = o := by omega
      simp only [up2, e1, hx, and_self, if_true, true_and]
    · have e1 : ¬ x - b = o := by omega
      simp only [up2, hx, and_self, if_true, e, e1, false_and, if_false]
  · have e : ¬ x = b + o := by omega
    simp only [up2, hx, if_false, e, false_and]
theorem hb_id (h : hp_T) (b n : Nat) : hb h b n (fun o => hp_i h (b + o)) = h := by
  obtain ⟨a, bb, cc, dd, ee, ff, gg⟩ := h
  refine congrArg (fun z => (a, bb, cc, dd, z, ff, gg)) ?_
  funext x
  by_cases hx : b ≤ x ∧ x < b + n
  · show (if b ≤ x ∧ x < b + n then ee (b + (x - b)) else ee x) = ee x
    rw [if_pos hx, show b + (x - b) = x from by omega]
  · exact if_neg hx
theorem hset_s (A : hp_T) (a k : Nat) (v : Int32) : hp_i (hp_setI A a k v) a k = v := up2_s _ _ _ _
/-- the body of a loop, n times from 0 on -/
def itN {α : Type} (f : α → Nat → α) (x : α) : Nat → α
  | 0 => x
  | n + 1 => f (itN f x n) n

theorem hs174_0 (h : hp_T) (X : Nat → Nat → Int32) (k : Nat) (v : Int32) : hp_setI (hb h 174 12 X) 174 k v = hb h 174 12 (up2 X 0 k v) := hb_set h (b := 174) (n := 12) (o := 0) X (by decide) k v
theorem hs174_1 (h : hp_T) (X : Nat → Nat → Int32) (k : Nat) (v : Int32) : hp_setI (hb h 174 12 X) 175 k v = hb h 174 12 (up2 X 1 k v) := hb_set h (b := 174) (n := 12) (o := 1) X (by decide) k v
theorem hs174_2 (h : hp_T) (X : Nat → Nat → Int32) (k : Nat) (v : Int32) : hp_setI (hb h 174 12 X) 176 k v = hb h 174 12 (up2 X 2 k v) := hb_set h (b := 174) (n := 12) (o := 2) X (by decide) k v
theorem hs174_3 (h : hp_T) (X : Nat → Nat → Int32) (k : Nat) (v : Int32) : hp_setI (hb h 174 12 X) 177 k v = hb h 174 12 (up2 X 3 k v) := hb_set h (b := 174) (n := 12) (o := 3) X (by decide) k v
theorem hs174_4 (h : hp_T) (X : Nat → Nat → Int32) (k : Nat) (v : Int32) : hp_setI (hb h 174 12 X) 178 k v = hb h 174 12 (up2 X 4 k v) := hb_set h (b := 174) (n := 12) (o := 4) X (by decide) k v
theorem hs174_5 (h : hp_T) (X : Nat → Nat → Int32) (k : Nat) (v : Int32) : hp_setI (hb h 174 12 X) 179 k v = hb h 174 12 (up2 X 5 k v) := hb_set h (b := 174) (n := 12) (o := 5) X (by decide) k v
theorem hs174_6 (h : hp_T) (X : Nat → Nat → Int32) (k : Nat) (v : Int32) : hp_setI (hb h 174 12 X) 180 k v = hb h 174 12 (up2 X 6 k v) := hb_set h (b := 174) (n := 12) (o := 6) X (by decide) k v
theorem hs174_7 (h : hp_T) (X : Nat → Nat → Int32) (k : Nat) (v : Int32) : hp_setI (hb h 174 12 X) 181 k v = hb h 174 12 (up2 X 7 k v) := hb_set h (b := 174) (n := 12) (o := 7) X (by decide) k v
theorem hs174_8 (h : hp_T) (X : Nat → Nat → Int32) (k : Nat) (v : Int32) : hp_setI (hb h 174 12 X) 182 k v = hb h 174 12 (up2 X 8 k v) := hb_set h (b := 174) (n := 12) (o := 8) X (by decide) k v
theorem hs174_9 (h : hp_T) (X : Nat → Nat → Int32) (k : Nat) (v : Int32) : hp_setI (hb h 174 12 X) 183 k v = hb h 174 12 (up2 X 9 k v) := hb_set h (b := 174) (n := 12) (o := 9) X (by decide) k v
theorem hs174_10 (h : hp_T) (X : Nat → Nat → Int32) (k : Nat) (v : Int32) : hp_setI (hb h 174 12 X) 184 k v = hb h 174 12 (up2 X 10 k v) := hb_set h (b := 174) (n := 12) (o := 10) X (by decide) k v
theorem hs174_11 (h : hp_T) (X : Nat → Nat → Int32) (k : Nat) (v : Int32) : hp_setI (hb h 174 12 X) 185 k v = hb h 174 12 (up2 X 11 k v) := hb_set h (b := 174) (n := 12) (o := 11) X (by decide) k v
theorem hs193_0 (h : hp_T) (X : Nat → Nat → Int32) (k : Nat) (v : Int32) : hp_setI (hb h 193 12 X) 193 k v = hb h 193 12 (up2 X 0 k v) := hb_set h (b := 193) (n := 12) (o := 0) X (by decide) k v
theorem hs193_1 (h : hp_T) (X : Nat → Nat → Int32) (k : Nat) (v : Int32) : hp_setI (hb h 193 12 X) 194 k v = hb h 193 12 (up2 X 1 k v) := hb_set h (b := 193) (n := 12) (o := 1) X (by decide) k v
theorem hs193_2 (h : hp_T) (X : Nat → Nat → Int32) (k : Nat) (v : Int32) : hp_setI (hb h 193 12 X) 195 k v = hb h 193 12 (up2 X 2 k v) := hb_set h (b := 193) (n := 12) (o := 2) X (by decide) k v
theorem hs193_3 (h : hp_T) (X : Nat → Nat → Int32) (k : Nat) (v : Int32) : hp_setI (hb h 193 12 X) 196 k v = hb h 193 12 (up2 X 3 k v) := hb_set h (b := 193) (n := 12) (o := 3) X (by decide) k v
theorem hs193_4 (h : hp_T) (X : Nat → Nat → Int32) (k : Nat) (v : Int32) : hp_setI (hb h 193 12 X) 197 k v = hb h 193 12 (up2 X 4 k v) := hb_set h (b := 193) (n := 12) (o := 4) X (by decide) k v
theorem hs193_5 (h : hp_T) (X : Nat → Nat → Int32) (k : Nat) (v : Int32) : hp_setI (hb h 193 12 X) 198 k v = hb h 193 12 (up2 X 5 k v) := hb_set h (b := 193) (n := 12) (o := 5) X (by decide) k v
theorem hs193_6 (h : hp_T) (X : Nat → Nat → Int32) (k : Nat) (v : Int32) : hp_setI (hb h 193 12 X) 199 k v = hb h 193 12 (up2 X 6 k v) := hb_set h (b := 193) (n := 12) (o := 6) X (by decide) k v
theorem hs193_7 (h : hp_T) (X : Nat → Nat → Int32) (k : Nat) (v : Int32) : hp_setI (hb h 193 12 X) 200 k v = hb h 193 12 (up2 X 7 k v) := hb_set h (b := 193) (n := 12) (o := 7) X (by decide) k v
theorem hs193_8 (h : hp_T) (X : Nat → Nat → Int32) (k : Nat) (v : Int32) : hp_setI (hb h 193 12 X) 201 k v = hb h 193 12 (up2 X 8 k v) := hb_set h (b := 193) (n := 12) (o := 8) X (by decide) k v
theorem hs193_9 (h : hp_T) (X : Nat → Nat → Int32) (k : Nat) (v : Int32) : hp_setI (hb h 193 12 X) 202 k v = hb h 193 12 (up2 X 9 k v) := hb_set h (b := 193) (n := 12) (o := 9) X (by decide) k v
theorem hs193_10 (h : hp_T) (X : Nat → Nat → Int32) (k : Nat) (v : Int32) : hp_setI (hb h 193 12 X) 203 k v = hb h 193 12 (up2 X 10 k v) := hb_set h (b := 193) (n := 12) (o := 10) X (by decide) k v
theorem hs193_11 (h : hp_T) (X : Nat → Nat → Int32) (k : Nat) (v : Int32) : hp_setI (hb h 193 12 X) 204 k v = hb h 193 12 (up2 X 11 k v) := hb_set h (b := 193) (n := 12) (o := 11) X (by decide) k v
/-! ===== the class's Fire ===== -/
def kinX (X : Nat → Nat → Int32) (c : Nat) (t : Int32) : Nat → Nat → Int32 := if X 7 c = -1 then up2 (up2 (up2 X 3 c 1) 5 c 1) 7 c t else up2 (up2 X 3 c 1) 5 c 1
/-- one cell of consume: fu is FUEL of the cells -/
def conX (fu : Nat → Int32) (X : Nat → Nat → Int32) (c : Nat) : Nat → Nat → Int32 :=
  if X 3 c = 1 then
    (if X 6 c + 1 < fu c then up2 (up2 X 5 c (if X 5 c + 1 < 9 then X 5 c + 1 else 9)) 6 c (X 6 c + 1)
     else up2 (up2 (up2 (up2 X 5 c (if X 5 c + 1 < 9 then X 5 c + 1 else 9)) 6 c (X 6 c + 1)) 3 c 2) 5 c 0)
  else X
/-- FUEL by the walls -/
def fuW (F : Nat → Int32) (c : Nat) : Int32 := (gf_sc 3).getD (F c).toNatClampNeg 0
theorem e_X5_kindle_174 (E : gE) {d : Nat} (hd : 0 ≤ d) {c : Nat} (t : Int32) (h : hp_T) (hG : gr h) (X : Nat → Nat → Int32) (hc : c < 120) : ev E mX5_kindle d [.ref (E.1 + 174), .int (nI c), .int t] (hb h 174 12 X) (none) (hb h 174 12 (kinX X c t)) := by
  refine ev_of rfl (fun q => absurd q (by decide)) (Nat.le_of_ble_eq_true rfl) ?_
  refine gf_aload_n 0 dX5_kindle_0 rfl rfl ?_
  refine gf_getR flX5_19 rfl dX5_kindle_1 (gt_174 hG) (gp_174_7 hG) ?_
  refine gf_iload_n 1 dX5_kindle_4 rfl rfl ?_
  refine gf_iconst (1) dX5_kindle_5 rfl ?_
  refine gf_iast 120 dX5_kindle_6 (gt_177 hG) (gl_177 hG) rfl (by omega) (by decide) ?_
  refine gf_aload_n 0 dX5_kindle_7 rfl rfl ?_
  refine gf_getR flX5_25 rfl dX5_kindle_8 (gt_174 hG) (gp_174_9 hG) ?_
  refine gf_iload_n 1 dX5_kindle_11 rfl rfl ?_
  refine gf_iconst (1) dX5_kindle_12 rfl ?_
  refine gf_iast 120 dX5_kindle_13 (gt_179 hG) (gl_179 hG) rfl (by omega) (by decide) ?_
  refine gf_aload_n 0 dX5_kindle_14 rfl rfl ?_
  refine gf_getR flX5_31 rfl dX5_kindle_15 (gt_174 hG) (gp_174_11 hG) ?_
  refine gf_iload_n 1 dX5_kindle_18 rfl rfl ?_
  refine gf_iald 120 dX5_kindle_19 (gt_181 hG) (gl_181 hG) rfl (by omega) (by decide) ?_
  refine gf_iconst (-1) dX5_kindle_20 rfl ?_
  refine gf_icmp_ne 31 dX5_kindle_21 rfl (fun zc21 => ?_) (fun zc21 => ?_)
  · exact gf_vretE dX5_kindle_31 rfl (by have e : ¬ X 7 c = -1 := zc21; simp only [hs174_0, hs174_1, hs174_2, hs174_3, hs174_4, hs174_5, hs174_6, hs174_7, hs174_8, hs174_9, hs174_10, hs174_11, kinX, if_neg e])
  · refine gf_aload_n 0 dX5_kindle_24 rfl rfl ?_
    refine gf_getR flX5_31 rfl dX5_kindle_25 (gt_174 hG) (gp_174_11 hG) ?_
    refine gf_iload_n 1 dX5_kindle_28 rfl rfl ?_
    refine gf_iload_n 2 dX5_kindle_29 rfl rfl ?_
    refine gf_iast 120 dX5_kindle_30 (gt_181 hG) (gl_181 hG) rfl (by omega) (by decide) ?_
    exact gf_vretE dX5_kindle_31 rfl (by have e : X 7 c = -1 := zc21; simp only [hs174_0, hs174_1, hs174_2, hs174_3, hs174_4, hs174_5, hs174_6, hs174_7, hs174_8, hs174_9, hs174_10, hs174_11, kinX, if_pos e])
theorem e_X5_mayCatch_174 (E : gE) {d : Nat} (hd : 0 ≤ d) {c : Nat} (h : hp_T) (hG : gr h) (X : Nat → Nat → Int32) (hc : c < 120) : ev E mX5_mayCatch d [.ref (E.1 + 174), .int (nI c)] (hb h 174 12 X) (some (.int (zb (¬ X 1 c = 0 ∧ X 3 c = 0)))) (hb h 174 12 X) := by
  refine ev_of rfl (fun q => absurd q (by decide)) (Nat.le_of_ble_eq_true rfl) ?_
  refine gf_aload_n 0 dX5_mayCatch_0 rfl rfl ?_
  refine gf_getR flX5_9 rfl dX5_mayCatch_1 (gt_174 hG) (gp_174_3 hG) ?_
  refine gf_iload_n 1 dX5_mayCatch_4 rfl rfl ?_
  refine gf_zald 120 dX5_mayCatch_5 (gt_175 hG) (gl_175 hG) rfl (by omega) (by decide) ?_
  refine gf_if_eq 22 dX5_mayCatch_6 rfl (fun zc6 => ?_) (fun zc6 => ?_)
  · refine gf_iconst (0) dX5_mayCatch_22 rfl ?_
    exact gf_zretE dX5_mayCatch_23 rfl (rfl) ((zb_f (fun q => q.1 zc6)).symm) (rfl)
  · refine gf_aload_n 0 dX5_mayCatch_9 rfl rfl ?_
    refine gf_getR flX5_19 rfl dX5_mayCatch_10 (gt_174 hG) (gp_174_7 hG) ?_
    refine gf_iload_n 1 dX5_mayCatch_13 rfl rfl ?_
    refine gf_iald 120 dX5_mayCatch_14 (gt_177 hG) (gl_177 hG) rfl (by omega) (by decide) ?_
    refine gf_if_ne 22 dX5_mayCatch_15 rfl (fun zc15 => ?_) (fun zc15 => ?_)
    · refine gf_iconst (0) dX5_mayCatch_22 rfl ?_
      exact gf_zretE dX5_mayCatch_23 rfl (rfl) ((zb_f (fun q => zc15 q.2)).symm) (rfl)
    · refine gf_iconst (1) dX5_mayCatch_18 rfl ?_
      refine gf_goto 23 dX5_mayCatch_19 rfl ?_
      exact gf_zretE dX5_mayCatch_23 rfl (rfl) ((zb_t ⟨zc6, zc15⟩).symm) (rfl)
theorem l_X5_touched_174 (E : gE) {d : Nat} (h : hp_T) (hG : gr h) (X : Nat → Nat → Int32) {w g : Nat} (hc2 : hp_i h 1 2 = nI (w * g)) (hn : w * g ≤ 120) {v : Option Value} {hz : hp_T} (K : gf E mX5_touched d 33 [(0, .ref (E.1 + 174)), (1, .int (nI (fa_cnt (mk (X 3)) (w * g)))), (2, .int (nI (w * g)))] [] ((hb h 174 12 X)) v hz) : ∀ (kz jz : Nat), jz + kz = w * g → gf E mX5_touched d 4 [(0, .ref (E.1 + 174)), (1, .int (nI (fa_cnt (mk (X 3)) (jz)))), (2, .int (nI (jz)))] [] ((hb h 174 12 X)) v hz := by
  intro kz
  induction kz with
  | zero =>
    intro jz hj
    have hj : w * g = jz := by omega
    subst hj
    refine gf_iload_n 2 dX5_touched_4 rfl rfl ?_
    refine gf_aload_n 0 dX5_touched_5 rfl rfl ?_
    refine gf_getR flX5_46 rfl dX5_touched_6 (gt_174 hG) (gp_174_5 hG) ?_
    refine gf_getI flX5_79 rfl dX5_touched_9 (gt_1 hG) ?_
    refine gf_icmp_ge 33 dX5_touched_12 rfl (fun _ => ?_) (fun q => absurd (by rw [show hp_i (hb h 174 12 X) 1 2 = nI (w * g) from hc2]; exact nI_le (Nat.le_refl _) (by omega)) q)
    exact gf_lw K ⟨rfl, rfl, rfl, trivial⟩
  | succ kz ih =>
    intro jz hj
    refine gf_iload_n 2 dX5_touched_4 rfl rfl ?_
    refine gf_aload_n 0 dX5_touched_5 rfl rfl ?_
    refine gf_getR flX5_46 rfl dX5_touched_6 (gt_174 hG) (gp_174_5 hG) ?_
    refine gf_getI flX5_79 rfl dX5_touched_9 (gt_1 hG) ?_
    refine gf_icmp_ge 33 dX5_touched_12 rfl (fun q => absurd q (by rw [show hp_i (hb h 174 12 X) 1 2 = nI (w * g) from hc2]; exact nI_ge (by omega) (by omega))) (fun _ => ?_)
    refine gf_aload_n 0 dX5_touched_15 rfl rfl ?_
    refine gf_getR flX5_19 rfl dX5_touched_16 (gt_174 hG) (gp_174_7 hG) ?_
    refine gf_iload_n 2 dX5_touched_19 rfl rfl ?_
    refine gf_iald 120 dX5_touched_20 (gt_177 hG) (gl_177 hG) rfl (by omega) (by decide) ?_
    refine gf_if_eq 27 dX5_touched_21 rfl (fun zc21 => ?_) (fun zc21 => ?_)
    · refine gf_iinc (1) dX5_touched_27 rfl rfl (Nat.le_of_ble_eq_true rfl) ?_
      refine gf_goto 4 dX5_touched_30 rfl ?_
      exact gf_lw (ih (jz + 1) (by omega)) ⟨rfl, lvE (by rw [fa_cnt_no (by have e : X 3 jz = 0 := zc21; simp [mk, e])]), lvE (nI_1 jz), trivial⟩
    · refine gf_iinc (1) dX5_touched_24 rfl rfl (Nat.le_of_ble_eq_true rfl) ?_
      refine gf_iinc (1) dX5_touched_27 rfl rfl (Nat.le_of_ble_eq_true rfl) ?_
      refine gf_goto 4 dX5_touched_30 rfl ?_
      exact gf_lw (ih (jz + 1) (by omega)) ⟨rfl, lvE (by rw [fa_cnt_yes (by have e : ¬ X 3 jz = 0 := zc21; simp [mk, e]), nI_1]), lvE (nI_1 jz), trivial⟩
theorem e_X5_touched_174 (E : gE) {d : Nat} (hd : 0 ≤ d) (h : hp_T) (hG : gr h) (X : Nat → Nat → Int32) {w g : Nat} (hc2 : hp_i h 1 2 = nI (w * g)) (hn : w * g ≤ 120) : ev E mX5_touched d [.ref (E.1 + 174)] (hb h 174 12 X) (some (.int (nI (fa_cnt (mk (X 3)) (w * g))))) (hb h 174 12 X) := by
  refine ev_of rfl (fun q => absurd q (by decide)) (Nat.le_of_ble_eq_true rfl) ?_
  refine gf_iconst (0) dX5_touched_0 rfl ?_
  refine gf_istore_n 1 dX5_touched_1 rfl (Nat.le_of_ble_eq_true rfl) ?_
  refine gf_iconst (0) dX5_touched_2 rfl ?_
  refine gf_istore_n 2 dX5_touched_3 rfl (Nat.le_of_ble_eq_true rfl) ?_
  refine l_X5_touched_174 E h hG X hc2 hn ?_ (w * g) 0 (by omega)
  refine gf_iload_n 1 dX5_touched_33 rfl rfl ?_
  exact gf_iretE dX5_touched_34 rfl (rfl) (rfl)
theorem l_X5_consume_174 (E : gE) {d : Nat} (hd : 1 ≤ d) (h : hp_T) (hG : gr h) (X : Nat → Nat → Int32) {w g : Nat} (hc2 : hp_i h 1 2 = nI (w * g)) (hn : w * g ≤ 120) (hwl : ∀ c, c < 120 → ∃ k, k < 4 ∧ hp_i h 3 c = nI k) {v : Option Value} {hz : hp_T} (K : gf E mX5_consume d 92 [(0, .ref (E.1 + 174)), (1, .int (nI (w * g)))] [] (hb h 174 12 (itN (conX (fuW (hp_i h 3))) X (w * g))) v hz) : ∀ (kz jz : Nat), jz + kz = w * g → gf E mX5_consume d 2 [(0, .ref (E.1 + 174)), (1, .int (nI (jz)))] [] (hb h 174 12 (itN (conX (fuW (hp_i h 3))) X (jz))) v hz := by
  intro kz
  induction kz with
  | zero =>
    intro jz hj
    have hj : w * g = jz := by omega
    subst hj
    refine gf_iload_n 1 dX5_consume_2 rfl rfl ?_
    refine gf_aload_n 0 dX5_consume_3 rfl rfl ?_
    refine gf_getR flX5_46 rfl dX5_consume_4 (gt_174 hG) (gp_174_5 hG) ?_
    refine gf_getI flX5_79 rfl dX5_consume_7 (gt_1 hG) ?_
    refine gf_icmp_ge 92 dX5_consume_10 rfl (fun _ => ?_) (fun q => absurd (by rw [show hp_i (hb h 174 12 (itN (conX (fuW (hp_i h 3))) X (w * g))) 1 2 = nI (w * g) from hc2]; exact nI_le (Nat.le_refl _) (by omega)) q)
    exact gf_lw K ⟨rfl, rfl, trivial⟩
  | succ kz ih =>
    intro jz hj
    obtain ⟨kw, hk4, hkw⟩ := hwl jz (by omega)
    refine gf_iload_n 1 dX5_consume_2 rfl rfl ?_
    refine gf_aload_n 0 dX5_consume_3 rfl rfl ?_
    refine gf_getR flX5_46 rfl dX5_consume_4 (gt_174 hG) (gp_174_5 hG) ?_
    refine gf_getI flX5_79 rfl dX5_consume_7 (gt_1 hG) ?_
    refine gf_icmp_ge 92 dX5_consume_10 rfl (fun q => absurd q (by rw [show hp_i (hb h 174 12 (itN (conX (fuW (hp_i h 3))) X (jz))) 1 2 = nI (w * g) from hc2]; exact nI_ge (by omega) (by omega))) (fun _ => ?_)
    refine gf_aload_n 0 dX5_consume_13 rfl rfl ?_
    refine gf_getR flX5_19 rfl dX5_consume_14 (gt_174 hG) (gp_174_7 hG) ?_
    refine gf_iload_n 1 dX5_consume_17 rfl rfl ?_
    refine gf_iald 120 dX5_consume_18 (gt_177 hG) (gl_177 hG) rfl (by omega) (by decide) ?_
    refine gf_iconst (1) dX5_consume_19 rfl ?_
    refine gf_icmp_eq 26 dX5_consume_20 rfl (fun zc20 => ?_) (fun zc20 => ?_)
    · refine gf_aload_n 0 dX5_consume_26 rfl rfl ?_
      refine gf_getR flX5_25 rfl dX5_consume_27 (gt_174 hG) (gp_174_9 hG) ?_
      refine gf_iload_n 1 dX5_consume_30 rfl rfl ?_
      refine gf_bipush (9) dX5_consume_31 rfl ?_
      refine gf_aload_n 0 dX5_consume_33 rfl rfl ?_
      refine gf_getR flX5_25 rfl dX5_consume_34 (gt_174 hG) (gp_174_9 hG) ?_
      refine gf_iload_n 1 dX5_consume_37 rfl rfl ?_
      refine gf_iald 120 dX5_consume_38 (gt_179 hG) (gl_179 hG) rfl (by omega) (by decide) ?_
      refine gf_iconst (1) dX5_consume_39 rfl ?_
      refine gf_iadd dX5_consume_40 ?_
      refine gf_min lkX5_103 kMmin.1 kMmin.2.1 kMmin.2.2 dX5_consume_41 (by omega) (Nat.le_of_ble_eq_true rfl) ?_
      refine gf_iast 120 dX5_consume_44 (gt_179 hG) (gl_179 hG) rfl (by omega) (by decide) ?_
      refine gf_aload_n 0 dX5_consume_45 rfl rfl ?_
      refine gf_getR flX5_28 rfl dX5_consume_46 (gt_174 hG) (gp_174_10 hG) ?_
      refine gf_iload_n 1 dX5_consume_49 rfl rfl ?_
      refine gf_dup2 dX5_consume_50 rfl rfl ?_
      refine gf_iald 120 dX5_consume_51 (gt_180 hG) (gl_180 hG) rfl (by omega) (by decide) ?_
      refine gf_iconst (1) dX5_consume_52 rfl ?_
      refine gf_iadd dX5_consume_53 ?_
      refine gf_iast 120 dX5_consume_54 (gt_180 hG) (gl_180 hG) rfl (by omega) (by decide) ?_
      refine gf_aload_n 0 dX5_consume_55 rfl rfl ?_
      refine gf_getR flX5_28 rfl dX5_consume_56 (gt_174 hG) (gp_174_10 hG) ?_
      refine gf_iload_n 1 dX5_consume_59 rfl rfl ?_
      refine gf_iald 120 dX5_consume_60 (gt_180 hG) (gl_180 hG) rfl (by omega) (by decide) ?_
      refine gf_aload_n 0 dX5_consume_61 rfl rfl ?_
      refine gf_getR flX5_46 rfl dX5_consume_62 (gt_174 hG) (gp_174_5 hG) ?_
      refine gf_iload_n 1 dX5_consume_65 rfl rfl ?_
      refine gf_callV cmX1_fuelOf lkX5_109 imX1_fuelOf seX1_fuelOf ⟨rfl, by decide⟩ dX5_consume_66 (d1 := d - 1) (by omega) (gt_1 hG) (e_X1_fuelOf E (by omega) (c := jz) (k := kw) (by omega) _ hG hkw hk4) rfl rfl (Nat.le_of_ble_eq_true rfl) ?_
      refine gf_icmp_lt 86 dX5_consume_69 rfl (fun zc69 => ?_) (fun zc69 => ?_)
      · refine gf_iinc (1) dX5_consume_86 rfl rfl (Nat.le_of_ble_eq_true rfl) ?_
        refine gf_goto 2 dX5_consume_89 rfl ?_
        have q2 : itN (conX (fuW (hp_i h 3))) X (jz) 6 jz + 1 < fuW (hp_i h 3) jz := by have zz := zc69; rw [show (gf_sc 3).getD kw 0 = fuW (hp_i h 3) jz from by unfold fuW; rw [hkw, nI_clamp (by omega)]] at zz; rw [hset_s] at zz; exact zz
        exact gf_hE (by have e : itN (conX (fuW (hp_i h 3))) X (jz) 3 jz = 1 := zc20; simp only [hs174_0, hs174_1, hs174_2, hs174_3, hs174_4, hs174_5, hs174_6, hs174_7, hs174_8, hs174_9, hs174_10, hs174_11]; exact congrArg (hb h 174 12) (show _ = conX (fuW (hp_i h 3)) (itN (conX (fuW (hp_i h 3))) X (jz)) jz from ((if_pos e).trans (if_pos q2)).symm)) (gf_lw (ih (jz + 1) (by omega)) ⟨rfl, lvE (nI_1 jz), trivial⟩)
      · refine gf_aload_n 0 dX5_consume_72 rfl rfl ?_
        refine gf_getR flX5_19 rfl dX5_consume_73 (gt_174 hG) (gp_174_7 hG) ?_
        refine gf_iload_n 1 dX5_consume_76 rfl rfl ?_
        refine gf_iconst (2) dX5_consume_77 rfl ?_
        refine gf_iast 120 dX5_consume_78 (gt_177 hG) (gl_177 hG) rfl (by omega) (by decide) ?_
        refine gf_aload_n 0 dX5_consume_79 rfl rfl ?_
        refine gf_getR flX5_25 rfl dX5_consume_80 (gt_174 hG) (gp_174_9 hG) ?_
        refine gf_iload_n 1 dX5_consume_83 rfl rfl ?_
        refine gf_iconst (0) dX5_consume_84 rfl ?_
        refine gf_iast 120 dX5_consume_85 (gt_179 hG) (gl_179 hG) rfl (by omega) (by decide) ?_
        refine gf_iinc (1) dX5_consume_86 rfl rfl (Nat.le_of_ble_eq_true rfl) ?_
        refine gf_goto 2 dX5_consume_89 rfl ?_
        have q2 : ¬ itN (conX (fuW (hp_i h 3))) X (jz) 6 jz + 1 < fuW (hp_i h 3) jz := by have zz := zc69; rw [show (gf_sc 3).getD kw 0 = fuW (hp_i h 3) jz from by unfold fuW; rw [hkw, nI_clamp (by omega)]] at zz; rw [hset_s] at zz; exact zz
        exact gf_hE (by have e : itN (conX (fuW (hp_i h 3))) X (jz) 3 jz = 1 := zc20; simp only [hs174_0, hs174_1, hs174_2, hs174_3, hs174_4, hs174_5, hs174_6, hs174_7, hs174_8, hs174_9, hs174_10, hs174_11]; exact congrArg (hb h 174 12) (show _ = conX (fuW (hp_i h 3)) (itN (conX (fuW (hp_i h 3))) X (jz)) jz from ((if_pos e).trans (if_neg q2)).symm)) (gf_lw (ih (jz + 1) (by omega)) ⟨rfl, lvE (nI_1 jz), trivial⟩)
    · refine gf_goto 86 dX5_consume_23 rfl ?_
      refine gf_iinc (1) dX5_consume_86 rfl rfl (Nat.le_of_ble_eq_true rfl) ?_
      refine gf_goto 2 dX5_consume_89 rfl ?_
      exact gf_hE (by have e : ¬ itN (conX (fuW (hp_i h 3))) X (jz) 3 jz = 1 := zc20; exact congrArg (hb h 174 12) (show _ = conX (fuW (hp_i h 3)) (itN (conX (fuW (hp_i h 3))) X (jz)) jz from (if_neg e).symm)) (gf_lw (ih (jz + 1) (by omega)) ⟨rfl, lvE (nI_1 jz), trivial⟩)
theorem e_X5_consume_174 (E : gE) {d : Nat} (hd : 1 ≤ d) (h : hp_T) (hG : gr h) (X : Nat → Nat → Int32) {w g : Nat} (hc2 : hp_i h 1 2 = nI (w * g)) (hn : w * g ≤ 120) (hwl : ∀ c, c < 120 → ∃ k, k < 4 ∧ hp_i h 3 c = nI k) : ev E mX5_consume d [.ref (E.1 + 174)] (hb h 174 12 X) (none) (hb h 174 12 (itN (conX (fuW (hp_i h 3))) X (w * g))) := by
  refine ev_of rfl (fun q => absurd q (by decide)) (Nat.le_of_ble_eq_true rfl) ?_
  refine gf_iconst (0) dX5_consume_0 rfl ?_
  refine gf_istore_n 1 dX5_consume_1 rfl (Nat.le_of_ble_eq_true rfl) ?_
  refine l_X5_consume_174 E hd h hG X hc2 hn hwl ?_ (w * g) 0 (by omega)
  exact gf_vretE dX5_consume_92 rfl (rfl)
theorem e_X5_kindle_193 (E : gE) {d : Nat} (hd : 0 ≤ d) {c : Nat} (t : Int32) (h : hp_T) (hG : gr h) (X : Nat → Nat → Int32) (hc : c < 120) : ev E mX5_kindle d [.ref (E.1 + 193), .int (nI c), .int t] (hb h 193 12 X) (none) (hb h 193 12 (kinX X c t)) := by
  refine ev_of rfl (fun q => absurd q (by decide)) (Nat.le_of_ble_eq_true rfl) ?_
  refine gf_aload_n 0 dX5_kindle_0 rfl rfl ?_
  refine gf_getR flX5_19 rfl dX5_kindle_1 (gt_193 hG) (gp_193_7 hG) ?_
  refine gf_iload_n 1 dX5_kindle_4 rfl rfl ?_
  refine gf_iconst (1) dX5_kindle_5 rfl ?_
  refine gf_iast 120 dX5_kindle_6 (gt_196 hG) (gl_196 hG) rfl (by omega) (by decide) ?_
  refine gf_aload_n 0 dX5_kindle_7 rfl rfl ?_
  refine gf_getR flX5_25 rfl dX5_kindle_8 (gt_193 hG) (gp_193_9 hG) ?_
  refine gf_iload_n 1 dX5_kindle_11 rfl rfl ?_
  refine gf_iconst (1) dX5_kindle_12 rfl ?_
  refine gf_iast 120 dX5_kindle_13 (gt_198 hG) (gl_198 hG) rfl (by omega) (by decide) ?_
  refine gf_aload_n 0 dX5_kindle_14 rfl rfl ?_
  refine gf_getR flX5_31 rfl dX5_kindle_15 (gt_193 hG) (gp_193_11 hG) ?_
  refine gf_iload_n 1 dX5_kindle_18 rfl rfl ?_
  refine gf_iald 120 dX5_kindle_19 (gt_200 hG) (gl_200 hG) rfl (by omega) (by decide) ?_
  refine gf_iconst (-1) dX5_kindle_20 rfl ?_
  refine gf_icmp_ne 31 dX5_kindle_21 rfl (fun zc21 => ?_) (fun zc21 => ?_)
  · exact gf_vretE dX5_kindle_31 rfl (by have e : ¬ X 7 c = -1 := zc21; simp only [hs193_0, hs193_1, hs193_2, hs193_3, hs193_4, hs193_5, hs193_6, hs193_7, hs193_8, hs193_9, hs193_10, hs193_11, kinX, if_neg e])
  · refine gf_aload_n 0 dX5_kindle_24 rfl rfl ?_
    refine gf_getR flX5_31 rfl dX5_kindle_25 (gt_193 hG) (gp_193_11 hG) ?_
    refine gf_iload_n 1 dX5_kindle_28 rfl rfl ?_
    refine gf_iload_n 2 dX5_kindle_29 rfl rfl ?_
    refine gf_iast 120 dX5_kindle_30 (gt_200 hG) (gl_200 hG) rfl (by omega) (by decide) ?_
    exact gf_vretE dX5_kindle_31 rfl (by have e : X 7 c = -1 := zc21; simp only [hs193_0, hs193_1, hs193_2, hs193_3, hs193_4, hs193_5, hs193_6, hs193_7, hs193_8, hs193_9, hs193_10, hs193_11, kinX, if_pos e])
theorem e_X5_mayCatch_193 (E : gE) {d : Nat} (hd : 0 ≤ d) {c : Nat} (h : hp_T) (hG : gr h) (X : Nat → Nat → Int32) (hc : c < 120) : ev E mX5_mayCatch d [.ref (E.1 + 193), .int (nI c)] (hb h 193 12 X) (some (.int (zb (¬ X 1 c = 0 ∧ X 3 c = 0)))) (hb h 193 12 X) := by
  refine ev_of rfl (fun q => absurd q (by decide)) (Nat.le_of_ble_eq_true rfl) ?_
  refine gf_aload_n 0 dX5_mayCatch_0 rfl rfl ?_
  refine gf_getR flX5_9 rfl dX5_mayCatch_1 (gt_193 hG) (gp_193_3 hG) ?_
  refine gf_iload_n 1 dX5_mayCatch_4 rfl rfl ?_
  refine gf_zald 120 dX5_mayCatch_5 (gt_194 hG) (gl_194 hG) rfl (by omega) (by decide) ?_
  refine gf_if_eq 22 dX5_mayCatch_6 rfl (fun zc6 => ?_) (fun zc6 => ?_)
  · refine gf_iconst (0) dX5_mayCatch_22 rfl ?_
    exact gf_zretE dX5_mayCatch_23 rfl (rfl) ((zb_f (fun q => q.1 zc6)).symm) (rfl)
  · refine gf_aload_n 0 dX5_mayCatch_9 rfl rfl ?_
    refine gf_getR flX5_19 rfl dX5_mayCatch_10 (gt_193 hG) (gp_193_7 hG) ?_
    refine gf_iload_n 1 dX5_mayCatch_13 rfl rfl ?_
    refine gf_iald 120 dX5_mayCatch_14 (gt_196 hG) (gl_196 hG) rfl (by omega) (by decide) ?_
    refine gf_if_ne 22 dX5_mayCatch_15 rfl (fun zc15 => ?_) (fun zc15 => ?_)
    · refine gf_iconst (0) dX5_mayCatch_22 rfl ?_
      exact gf_zretE dX5_mayCatch_23 rfl (rfl) ((zb_f (fun q => zc15 q.2)).symm) (rfl)
    · refine gf_iconst (1) dX5_mayCatch_18 rfl ?_
      refine gf_goto 23 dX5_mayCatch_19 rfl ?_
      exact gf_zretE dX5_mayCatch_23 rfl (rfl) ((zb_t ⟨zc6, zc15⟩).symm) (rfl)
theorem l_X5_touched_193 (E : gE) {d : Nat} (h : hp_T) (hG : gr h) (X : Nat → Nat → Int32) {w g : Nat} (hc2 : hp_i h 1 2 = nI (w * g)) (hn : w * g ≤ 120) {v : Option Value} {hz : hp_T} (K : gf E mX5_touched d 33 [(0, .ref (E.1 + 193)), (1, .int (nI (fa_cnt (mk (X 3)) (w * g)))), (2, .int (nI (w * g)))] [] ((hb h 193 12 X)) v hz) : ∀ (kz jz : Nat), jz + kz = w * g → gf E mX5_touched d 4 [(0, .ref (E.1 + 193)), (1, .int (nI (fa_cnt (mk (X 3)) (jz)))), (2, .int (nI (jz)))] [] ((hb h 193 12 X)) v hz := by
  intro kz
  induction kz with
  | zero =>
    intro jz hj
    have hj : w * g = jz := by omega
    subst hj
    refine gf_iload_n 2 dX5_touched_4 rfl rfl ?_
    refine gf_aload_n 0 dX5_touched_5 rfl rfl ?_
    refine gf_getR flX5_46 rfl dX5_touched_6 (gt_193 hG) (gp_193_5 hG) ?_
    refine gf_getI flX5_79 rfl dX5_touched_9 (gt_1 hG) ?_
    refine gf_icmp_ge 33 dX5_touched_12 rfl (fun _ => ?_) (fun q => absurd (by rw [show hp_i (hb h 193 12 X) 1 2 = nI (w * g) from hc2]; exact nI_le (Nat.le_refl _) (by omega)) q)
    exact gf_lw K ⟨rfl, rfl, rfl, trivial⟩
  | succ kz ih =>
    intro jz hj
    refine gf_iload_n 2 dX5_touched_4 rfl rfl ?_
    refine gf_aload_n 0 dX5_touched_5 rfl rfl ?_
    refine gf_getR flX5_46 rfl dX5_touched_6 (gt_193 hG) (gp_193_5 hG) ?_
    refine gf_getI flX5_79 rfl dX5_touched_9 (gt_1 hG) ?_
    refine gf_icmp_ge 33 dX5_touched_12 rfl (fun q => absurd q (by rw [show hp_i (hb h 193 12 X) 1 2 = nI (w * g) from hc2]; exact nI_ge (by omega) (by omega))) (fun _ => ?_)
    refine gf_aload_n 0 dX5_touched_15 rfl rfl ?_
    refine gf_getR flX5_19 rfl dX5_touched_16 (gt_193 hG) (gp_193_7 hG) ?_
    refine gf_iload_n 2 dX5_touched_19 rfl rfl ?_
    refine gf_iald 120 dX5_touched_20 (gt_196 hG) (gl_196 hG) rfl (by omega) (by decide) ?_
    refine gf_if_eq 27 dX5_touched_21 rfl (fun zc21 => ?_) (fun zc21 => ?_)
    · refine gf_iinc (1) dX5_touched_27 rfl rfl (Nat.le_of_ble_eq_true rfl) ?_
      refine gf_goto 4 dX5_touched_30 rfl ?_
      exact gf_lw (ih (jz + 1) (by omega)) ⟨rfl, lvE (by rw [fa_cnt_no (by have e : X 3 jz = 0 := zc21; simp [mk, e])]), lvE (nI_1 jz), trivial⟩
    · refine gf_iinc (1) dX5_touched_24 rfl rfl (Nat.le_of_ble_eq_true rfl) ?_
      refine gf_iinc (1) dX5_touched_27 rfl rfl (Nat.le_of_ble_eq_true rfl) ?_
      refine gf_goto 4 dX5_touched_30 rfl ?_
      exact gf_lw (ih (jz + 1) (by omega)) ⟨rfl, lvE (by rw [fa_cnt_yes (by have e : ¬ X 3 jz = 0 := zc21; simp [mk, e]), nI_1]), lvE (nI_1 jz), trivial⟩
theorem e_X5_touched_193 (E : gE) {d : Nat} (hd : 0 ≤ d) (h : hp_T) (hG : gr h) (X : Nat → Nat → Int32) {w g : Nat} (hc2 : hp_i h 1 2 = nI (w * g)) (hn : w * g ≤ 120) : ev E mX5_touched d [.ref (E.1 + 193)] (hb h 193 12 X) (some (.int (nI (fa_cnt (mk (X 3)) (w * g))))) (hb h 193 12 X) := by
  refine ev_of rfl (fun q => absurd q (by decide)) (Nat.le_of_ble_eq_true rfl) ?_
  refine gf_iconst (0) dX5_touched_0 rfl ?_
  refine gf_istore_n 1 dX5_touched_1 rfl (Nat.le_of_ble_eq_true rfl) ?_
  refine gf_iconst (0) dX5_touched_2 rfl ?_
  refine gf_istore_n 2 dX5_touched_3 rfl (Nat.le_of_ble_eq_true rfl) ?_
  refine l_X5_touched_193 E h hG X hc2 hn ?_ (w * g) 0 (by omega)
  refine gf_iload_n 1 dX5_touched_33 rfl rfl ?_
  exact gf_iretE dX5_touched_34 rfl (rfl) (rfl)
theorem l_X5_consume_193 (E : gE) {d : Nat} (hd : 1 ≤ d) (h : hp_T) (hG : gr h) (X : Nat → Nat → Int32) {w g : Nat} (hc2 : hp_i h 1 2 = nI (w * g)) (hn : w * g ≤ 120) (hwl : ∀ c, c < 120 → ∃ k, k < 4 ∧ hp_i h 3 c = nI k) {v : Option Value} {hz : hp_T} (K : gf E mX5_consume d 92 [(0, .ref (E.1 + 193)), (1, .int (nI (w * g)))] [] (hb h 193 12 (itN (conX (fuW (hp_i h 3))) X (w * g))) v hz) : ∀ (kz jz : Nat), jz + kz = w * g → gf E mX5_consume d 2 [(0, .ref (E.1 + 193)), (1, .int (nI (jz)))] [] (hb h 193 12 (itN (conX (fuW (hp_i h 3))) X (jz))) v hz := by
  intro kz
  induction kz with
  | zero =>
    intro jz hj
    have hj : w * g = jz := by omega
    subst hj
    refine gf_iload_n 1 dX5_consume_2 rfl rfl ?_
    refine gf_aload_n 0 dX5_consume_3 rfl rfl ?_
    refine gf_getR flX5_46 rfl dX5_consume_4 (gt_193 hG) (gp_193_5 hG) ?_
    refine gf_getI flX5_79 rfl dX5_consume_7 (gt_1 hG) ?_
    refine gf_icmp_ge 92 dX5_consume_10 rfl (fun _ => ?_) (fun q => absurd (by rw [show hp_i (hb h 193 12 (itN (conX (fuW (hp_i h 3))) X (w * g))) 1 2 = nI (w * g) from hc2]; exact nI_le (Nat.le_refl _) (by omega)) q)
    exact gf_lw K ⟨rfl, rfl, trivial⟩
  | succ kz ih =>
    intro jz hj
    obtain ⟨kw, hk4, hkw⟩ := hwl jz (by omega)
    refine gf_iload_n 1 dX5_consume_2 rfl rfl ?_
    refine gf_aload_n 0 dX5_consume_3 rfl rfl ?_
    refine gf_getR flX5_46 rfl dX5_consume_4 (gt_193 hG) (gp_193_5 hG) ?_
    refine gf_getI flX5_79 rfl dX5_consume_7 (gt_1 hG) ?_
    refine gf_icmp_ge 92 dX5_consume_10 rfl (fun q => absurd q (by rw [show hp_i (hb h 193 12 (itN (conX (fuW (hp_i h 3))) X (jz))) 1 2 = nI (w * g) from hc2]; exact nI_ge (by omega) (by omega))) (fun _ => ?_)
    refine gf_aload_n 0 dX5_consume_13 rfl rfl ?_
    refine gf_getR flX5_19 rfl dX5_consume_14 (gt_193 hG) (gp_193_7 hG) ?_
    refine gf_iload_n 1 dX5_consume_17 rfl rfl ?_
    refine gf_iald 120 dX5_consume_18 (gt_196 hG) (gl_196 hG) rfl (by omega) (by decide) ?_
    refine gf_iconst (1) dX5_consume_19 rfl ?_
    refine gf_icmp_eq 26 dX5_consume_20 rfl (fun zc20 => ?_) (fun zc20 => ?_)
    · refine gf_aload_n 0 dX5_consume_26 rfl rfl ?_
      refine gf_getR flX5_25 rfl dX5_consume_27 (gt_193 hG) (gp_193_9 hG) ?_
      refine gf_iload_n 1 dX5_consume_30 rfl rfl ?_
      refine gf_bipush (9) dX5_consume_31 rfl ?_
      refine gf_aload_n 0 dX5_consume_33 rfl rfl ?_
      refine gf_getR flX5_25 rfl dX5_consume_34 (gt_193 hG) (gp_193_9 hG) ?_
      refine gf_iload_n 1 dX5_consume_37 rfl rfl ?_
      refine gf_iald 120 dX5_consume_38 (gt_198 hG) (gl_198 hG) rfl (by omega) (by decide) ?_
      refine gf_iconst (1) dX5_consume_39 rfl ?_
      refine gf_iadd dX5_consume_40 ?_
      refine gf_min lkX5_103 kMmin.1 kMmin.2.1 kMmin.2.2 dX5_consume_41 (by omega) (Nat.le_of_ble_eq_true rfl) ?_
      refine gf_iast 120 dX5_consume_44 (gt_198 hG) (gl_198 hG) rfl (by omega) (by decide) ?_
      refine gf_aload_n 0 dX5_consume_45 rfl rfl ?_
      refine gf_getR flX5_28 rfl dX5_consume_46 (gt_193 hG) (gp_193_10 hG) ?_
      refine gf_iload_n 1 dX5_consume_49 rfl rfl ?_
      refine gf_dup2 dX5_consume_50 rfl rfl ?_
      refine gf_iald 120 dX5_consume_51 (gt_199 hG) (gl_199 hG) rfl (by omega) (by decide) ?_
      refine gf_iconst (1) dX5_consume_52 rfl ?_
      refine gf_iadd dX5_consume_53 ?_
      refine gf_iast 120 dX5_consume_54 (gt_199 hG) (gl_199 hG) rfl (by omega) (by decide) ?_
      refine gf_aload_n 0 dX5_consume_55 rfl rfl ?_
      refine gf_getR flX5_28 rfl dX5_consume_56 (gt_193 hG) (gp_193_10 hG) ?_
      refine gf_iload_n 1 dX5_consume_59 rfl rfl ?_
      refine gf_iald 120 dX5_consume_60 (gt_199 hG) (gl_199 hG) rfl (by omega) (by decide) ?_
      refine gf_aload_n 0 dX5_consume_61 rfl rfl ?_
      refine gf_getR flX5_46 rfl dX5_consume_62 (gt_193 hG) (gp_193_5 hG) ?_
      refine gf_iload_n 1 dX5_consume_65 rfl rfl ?_
      refine gf_callV cmX1_fuelOf lkX5_109 imX1_fuelOf seX1_fuelOf ⟨rfl, by decide⟩ dX5_consume_66 (d1 := d - 1) (by omega) (gt_1 hG) (e_X1_fuelOf E (by omega) (c := jz) (k := kw) (by omega) _ hG hkw hk4) rfl rfl (Nat.le_of_ble_eq_true rfl) ?_
      refine gf_icmp_lt 86 dX5_consume_69 rfl (fun zc69 => ?_) (fun zc69 => ?_)
      · refine gf_iinc (1) dX5_consume_86 rfl rfl (Nat.le_of_ble_eq_true rfl) ?_
        refine gf_goto 2 dX5_consume_89 rfl ?_
        have q2 : itN (conX (fuW (hp_i h 3))) X (jz) 6 jz + 1 < fuW (hp_i h 3) jz := by have zz := zc69; rw [show (gf_sc 3).getD kw 0 = fuW (hp_i h 3) jz from by unfold fuW; rw [hkw, nI_clamp (by omega)]] at zz; rw [hset_s] at zz; exact zz
        exact gf_hE (by have e : itN (conX (fuW (hp_i h 3))) X (jz) 3 jz = 1 := zc20; simp only [hs193_0, hs193_1, hs193_2, hs193_3, hs193_4, hs193_5, hs193_6, hs193_7, hs193_8, hs193_9, hs193_10, hs193_11]; exact congrArg (hb h 193 12) (show _ = conX (fuW (hp_i h 3)) (itN (conX (fuW (hp_i h 3))) X (jz)) jz from ((if_pos e).trans (if_pos q2)).symm)) (gf_lw (ih (jz + 1) (by omega)) ⟨rfl, lvE (nI_1 jz), trivial⟩)
      · refine gf_aload_n 0 dX5_consume_72 rfl rfl ?_
        refine gf_getR flX5_19 rfl dX5_consume_73 (gt_193 hG) (gp_193_7 hG) ?_
        refine gf_iload_n 1 dX5_consume_76 rfl rfl ?_
        refine gf_iconst (2) dX5_consume_77 rfl ?_
        refine gf_iast 120 dX5_consume_78 (gt_196 hG) (gl_196 hG) rfl (by omega) (by decide) ?_
        refine gf_aload_n 0 dX5_consume_79 rfl rfl ?_
        refine gf_getR flX5_25 rfl dX5_consume_80 (gt_193 hG) (gp_193_9 hG) ?_
        refine gf_iload_n 1 dX5_consume_83 rfl rfl ?_
        refine gf_iconst (0) dX5_consume_84 rfl ?_
        refine gf_iast 120 dX5_consume_85 (gt_198 hG) (gl_198 hG) rfl (by omega) (by decide) ?_
        refine gf_iinc (1) dX5_consume_86 rfl rfl (Nat.le_of_ble_eq_true rfl) ?_
        refine gf_goto 2 dX5_consume_89 rfl ?_
        have q2 : ¬ itN (conX (fuW (hp_i h 3))) X (jz) 6 jz + 1 < fuW (hp_i h 3) jz := by have zz := zc69; rw [show (gf_sc 3).getD kw 0 = fuW (hp_i h 3) jz from by unfold fuW; rw [hkw, nI_clamp (by omega)]] at zz; rw [hset_s] at zz; exact zz
        exact gf_hE (by have e : itN (conX (fuW (hp_i h 3))) X (jz) 3 jz = 1 := zc20; simp only [hs193_0, hs193_1, hs193_2, hs193_3, hs193_4, hs193_5, hs193_6, hs193_7, hs193_8, hs193_9, hs193_10, hs193_11]; exact congrArg (hb h 193 12) (show _ = conX (fuW (hp_i h 3)) (itN (conX (fuW (hp_i h 3))) X (jz)) jz from ((if_pos e).trans (if_neg q2)).symm)) (gf_lw (ih (jz + 1) (by omega)) ⟨rfl, lvE (nI_1 jz), trivial⟩)
    · refine gf_goto 86 dX5_consume_23 rfl ?_
      refine gf_iinc (1) dX5_consume_86 rfl rfl (Nat.le_of_ble_eq_true rfl) ?_
      refine gf_goto 2 dX5_consume_89 rfl ?_
      exact gf_hE (by have e : ¬ itN (conX (fuW (hp_i h 3))) X (jz) 3 jz = 1 := zc20; exact congrArg (hb h 193 12) (show _ = conX (fuW (hp_i h 3)) (itN (conX (fuW (hp_i h 3))) X (jz)) jz from (if_neg e).symm)) (gf_lw (ih (jz + 1) (by omega)) ⟨rfl, lvE (nI_1 jz), trivial⟩)
theorem e_X5_consume_193 (E : gE) {d : Nat} (hd : 1 ≤ d) (h : hp_T) (hG : gr h) (X : Nat → Nat → Int32) {w g : Nat} (hc2 : hp_i h 1 2 = nI (w * g)) (hn : w * g ≤ 120) (hwl : ∀ c, c < 120 → ∃ k, k < 4 ∧ hp_i h 3 c = nI k) : ev E mX5_consume d [.ref (E.1 + 193)] (hb h 193 12 X) (none) (hb h 193 12 (itN (conX (fuW (hp_i h 3))) X (w * g))) := by
  refine ev_of rfl (fun q => absurd q (by decide)) (Nat.le_of_ble_eq_true rfl) ?_
  refine gf_iconst (0) dX5_consume_0 rfl ?_
  refine gf_istore_n 1 dX5_consume_1 rfl (Nat.le_of_ble_eq_true rfl) ?_
  refine l_X5_consume_193 E hd h hG X hc2 hn hwl ?_ (w * g) 0 (by omega)
  exact gf_vretE dX5_consume_92 rfl (rfl)
