/-! ===== the class's City ===== -/
def rs (way : Nat) : Int := ([-1, -1, 0, 1, 1, 1, 0, -1] : List Int).getD way 0
def cs (way : Nat) : Int := ([0, 1, 1, 1, 0, -1, -1, -1] : List Int).getD way 0
/-- the cell beside a cell, in a city of w in a row and g rows -/
def nbo (w g c way : Nat) : Option Nat := if 0 ≤ ((c / w : Nat) : Int) + rs way ∧ ((c / w : Nat) : Int) + rs way < g ∧ 0 ≤ ((c % w : Nat) : Int) + cs way ∧ ((c % w : Nat) : Int) + cs way < w then some (((((c / w : Nat) : Int) + rs way) * w + (((c % w : Nat) : Int) + cs way)).toNat) else none
def apN (w a b : Nat) : Nat := ((a / w : Nat) - (b / w : Nat) : Int).natAbs + ((a % w : Nat) - (b % w : Nat) : Int).natAbs
def enc (o : Option Nat) : Int32 := match o with
  | none => -1
  | some j => nI j
/-- the shape of the city that is laid -/
def cty (F : Nat → Nat → Int32) (w g : Nat) : Prop := (1 ≤ w ∧ w ≤ 12 ∧ 1 ≤ g ∧ g ≤ 10) ∧ F 1 0 = nI w ∧ F 1 1 = nI g ∧ F 1 2 = nI (w * g) ∧ ∀ c, c < w * g → F 7 c = nI (c / w) ∧ F 8 c = nI (c % w) ∧ ∀ way, way < 8 → F (10 + c) way = enc (nbo w g c way)
/-- what stands in the cells is in its bounds -/
def cth (F : Nat → Nat → Int32) : Prop := ∀ c, c < 120 → (∃ k, k < 4 ∧ F 3 c = nI k) ∧ (∃ k, k < 6 ∧ F 4 c = nI k) ∧ (∃ k, k < 10000 ∧ F 5 c = nI k)
theorem cty_n {F : Nat → Nat → Int32} {w g : Nat} (C : cty F w g) : 1 ≤ w * g ∧ w * g ≤ 120 := by
  obtain ⟨⟨h1, h2, h3, h4⟩, -⟩ := C
  exact ⟨Nat.mul_pos h1 h3, Nat.le_trans (Nat.mul_le_mul h2 h4) (by decide)⟩
theorem nbo_lt {w g c way j : Nat} (h : nbo w g c way = some j) : j < w * g := by
  unfold nbo at h
  split at h
  · rename_i q
    cases h
    generalize ((c / w : Nat) : Int) + rs way = r at q ⊢
    generalize ((c % w : Nat) : Int) + cs way = x at q ⊢
    obtain ⟨q1, q2, q3, q4⟩ := q
    obtain ⟨r', rfl⟩ := Int.eq_ofNat_of_zero_le q1
    obtain ⟨x', rfl⟩ := Int.eq_ofNat_of_zero_le q3
    have e : ((r' : Int) * w + x').toNat = r' * w + x' := by
      rw [← Int.natCast_mul, ← Int.natCast_add]
      exact Int.toNat_natCast _
    rw [e]
    have h1 : r' + 1 ≤ g := by omega
    have h2 : x' < w := by omega
    have h3 : (r' + 1) * w ≤ g * w := Nat.mul_le_mul_right w h1
    rw [Nat.succ_mul] at h3
    rw [Nat.mul_comm w g]
    omega
  · cases h
theorem e_X1_hasHouse (E : gE) {d : Nat} (hd : 1 ≤ d) (c : Int32) (h : hp_T) (hG : gr h) {w g : Nat} (C : cty (hp_i h) w g) : ev E mX1_hasHouse d [.ref (E.1 + 1), .int c] h ((some (.int (zb ((0 ≤ c ∧ c < hp_i h 1 2) ∧ ¬ hp_i h 2 c.toNatClampNeg = 0))))) h := by
  have hn := cty_n C
  refine ev_of rfl (fun q => absurd q (by decide)) (Nat.le_of_ble_eq_true rfl) ?_
  refine gf_aload_n 0 dX1_hasHouse_0 rfl rfl ?_
  refine gf_iload_n 1 dX1_hasHouse_1 rfl rfl ?_
  refine gf_callV cmX1_has lkX1_87 imX1_has seX1_has ⟨rfl, by decide⟩ dX1_hasHouse_2 (d1 := d - 1) (by omega) (gt_1 hG) (e_X1_has E (by omega) c h hG) rfl rfl (Nat.le_of_ble_eq_true rfl) ?_
  refine gf_if_eq 21 dX1_hasHouse_5 rfl (fun zc5 => ?_) (fun zc5 => ?_)
  · refine gf_iconst (0) dX1_hasHouse_21 rfl ?_
    exact gf_zretE dX1_hasHouse_22 rfl (rfl) (by first | exact (zb_t ⟨zb_1.mp zc5, zc14⟩).symm | exact (zb_f (fun q => zb_0.mp zc5 q.1)).symm | exact (zb_f (fun q => q.2 zc14)).symm) (rfl)
  · refine gf_aload_n 0 dX1_hasHouse_8 rfl rfl ?_
    refine gf_getR flX1_9 rfl dX1_hasHouse_9 (gt_1 hG) (gp_1_3 hG) ?_
    refine gf_iload_n 1 dX1_hasHouse_12 rfl rfl ?_
    refine gf_zald 120 dX1_hasHouse_13 (gt_2 hG) (gl_2 hG) (ix_nI (by have q := zb_1.mp zc5; (try simp only [fa_lt, fa_le, fa_eq, ti_0, ti_1, ti_2, ti_3, ti_8, ti_9, ti_120, ti_m1] at *); omega)) (ix_lt (by have q := zb_1.mp zc5; (try simp only [fa_lt, fa_le, fa_eq, ti_0, ti_1, ti_2, ti_3, ti_8, ti_9, ti_120, ti_m1] at *); omega) (by have q := zb_1.mp zc5; have e := C.2.2.2.1; have e2 := ti_nI (n := w * g) (by omega); rw [e] at q; simp only [fa_lt, fa_le, ti_0, e2] at q; omega)) (by decide) ?_
    refine gf_if_eq 21 dX1_hasHouse_14 rfl (fun zc14 => ?_) (fun zc14 => ?_)
    · refine gf_iconst (0) dX1_hasHouse_21 rfl ?_
      exact gf_zretE dX1_hasHouse_22 rfl (rfl) (by first | exact (zb_t ⟨zb_1.mp zc5, zc14⟩).symm | exact (zb_f (fun q => zb_0.mp zc5 q.1)).symm | exact (zb_f (fun q => q.2 zc14)).symm) (rfl)
    · refine gf_iconst (1) dX1_hasHouse_17 rfl ?_
      refine gf_goto 22 dX1_hasHouse_18 rfl ?_
      exact gf_zretE dX1_hasHouse_22 rfl (rfl) (by first | exact (zb_t ⟨zb_1.mp zc5, zc14⟩).symm | exact (zb_f (fun q => zb_0.mp zc5 q.1)).symm | exact (zb_f (fun q => q.2 zc14)).symm) (rfl)
theorem e_X1_resistOf (E : gE) {d : Nat} (hd : 0 ≤ d) {c k : Nat} (hc : c < 120) (h : hp_T) (hG : gr h) (hk : hp_i h 3 c = nI k) (hk4 : k < 4) : ev E mX1_resistOf d [.ref (E.1 + 1), .int (nI c)] h ((some (.int ((gf_sc 2).getD k 0)))) h := by
  refine ev_of rfl (fun q => absurd q (by decide)) (Nat.le_of_ble_eq_true rfl) ?_
  refine gf_getsN (k := 2) (by decide) fsX1_91 dX1_resistOf_0 ?_
  refine gf_aload_n 0 dX1_resistOf_3 rfl rfl ?_
  refine gf_getR flX1_15 rfl dX1_resistOf_4 (gt_1 hG) (gp_1_4 hG) ?_
  refine gf_iload_n 1 dX1_resistOf_7 rfl rfl ?_
  refine gf_iald 120 dX1_resistOf_8 (gt_3 hG) (gl_3 hG) rfl (by omega) (by decide) ?_
  refine gf_sald dX1_resistOf_9 (by decide) hk (by show k < 4; omega) ?_
  exact gf_iretE dX1_resistOf_10 rfl (rfl) (rfl)
theorem e_X1_fuelOf (E : gE) {d : Nat} (hd : 0 ≤ d) {c k : Nat} (hc : c < 120) (h : hp_T) (hG : gr h) (hk : hp_i h 3 c = nI k) (hk4 : k < 4) : ev E mX1_fuelOf d [.ref (E.1 + 1), .int (nI c)] h ((some (.int ((gf_sc 3).getD k 0)))) h := by
  refine ev_of rfl (fun q => absurd q (by decide)) (Nat.le_of_ble_eq_true rfl) ?_
  refine gf_getsN (k := 3) (by decide) fsX1_94 dX1_fuelOf_0 ?_
  refine gf_aload_n 0 dX1_fuelOf_3 rfl rfl ?_
  refine gf_getR flX1_15 rfl dX1_fuelOf_4 (gt_1 hG) (gp_1_4 hG) ?_
  refine gf_iload_n 1 dX1_fuelOf_7 rfl rfl ?_
  refine gf_iald 120 dX1_fuelOf_8 (gt_3 hG) (gl_3 hG) rfl (by omega) (by decide) ?_
  refine gf_sald dX1_fuelOf_9 (by decide) hk (by show k < 4; omega) ?_
  exact gf_iretE dX1_fuelOf_10 rfl (rfl) (rfl)
theorem abs_e {a b : Nat} (ha : a < 1000) (hb : b < 1000) : (if (0 : Int32) ≤ nI a - nI b then nI a - nI b else 0 - (nI a - nI b)) = nI ((a : Int) - b).natAbs := by
  rcases Nat.lt_or_ge a b with q | q
  · have h1 : nI a - nI b < 0 := pk_sneg (by omega) q
    rw [if_neg (by rw [fa_le]; rw [fa_lt] at h1; omega)]
    apply Int32.toInt_inj.mp
    have e2 : (nI a - nI b).toInt = (a : Int) - b := pk_sub_toInt (by omega) (by omega)
    have e3 : nI ((a : Int) - b).natAbs = nI b - nI a := by
      rw [pk_sub (by omega)]
      congr 1
      omega
    rw [e3]
    have e4 : (0 : Int32) - (nI a - nI b) = nI b - nI a := by
      apply Int32.toBitVec_inj.mp
      have z : (0 : Int32).toBitVec = 0#32 := rfl
      simp only [Int32.toBitVec_sub, z]
      bv_omega
    rw [e4]
  · rw [if_pos (by rw [pk_sub q]; exact nI_pos' (by omega)), pk_sub q]
    congr 1
    omega
theorem apart_e {F : Nat → Nat → Int32} {w g a b : Nat} (C : cty F w g) (ha : a < w * g) (hb : b < w * g) : (if (0 : Int32) ≤ F 7 a - F 7 b then F 7 a - F 7 b else 0 - (F 7 a - F 7 b)) + (if (0 : Int32) ≤ F 8 a - F 8 b then F 8 a - F 8 b else 0 - (F 8 a - F 8 b)) = nI (((a / w : Nat) - (b / w : Nat) : Int).natAbs + ((a % w : Nat) - (b % w : Nat) : Int).natAbs) := by
  have hn := cty_n C
  obtain ⟨⟨h1, h2, h3, h4⟩, -, -, -, h5⟩ := C
  obtain ⟨e1, e2, -⟩ := h5 a ha
  obtain ⟨e3, e4, -⟩ := h5 b hb
  have q1 : a / w ≤ a := Nat.div_le_self a w
  have q2 : b / w ≤ b := Nat.div_le_self b w
  have q3 : a % w < w := Nat.mod_lt a h1
  have q4 : b % w < w := Nat.mod_lt b h1
  rw [e1, e2, e3, e4, abs_e (by omega) (by omega), abs_e (by omega) (by omega), nI_add]
theorem e_X1_apart (E : gE) {d : Nat} (hd : 1 ≤ d) {a b : Nat} (h : hp_T) (hG : gr h) {w g : Nat} (C : cty (hp_i h) w g) (ha : a < w * g) (hb : b < w * g) : ev E mX1_apart d [.ref (E.1 + 1), .int (nI a), .int (nI b)] h ((some (.int (nI (apN w a b))))) h := by
  have hn := cty_n C
  refine ev_of rfl (fun q => absurd q (by decide)) (Nat.le_of_ble_eq_true rfl) ?_
  refine gf_aload_n 0 dX1_apart_0 rfl rfl ?_
  refine gf_getR flX1_28 rfl dX1_apart_1 (gt_1 hG) (gp_1_8 hG) ?_
  refine gf_iload_n 1 dX1_apart_4 rfl rfl ?_
  refine gf_iald 120 dX1_apart_5 (gt_7 hG) (gl_7 hG) rfl (by omega) (by decide) ?_
  refine gf_aload_n 0 dX1_apart_6 rfl rfl ?_
  refine gf_getR flX1_28 rfl dX1_apart_7 (gt_1 hG) (gp_1_8 hG) ?_
  refine gf_iload_n 2 dX1_apart_10 rfl rfl ?_
  refine gf_iald 120 dX1_apart_11 (gt_7 hG) (gl_7 hG) rfl (by omega) (by decide) ?_
  refine gf_isub dX1_apart_12 ?_
  refine gf_abs lkX1_97 kMabs.1 kMabs.2.1 kMabs.2.2 dX1_apart_13 (by omega) (Nat.le_of_ble_eq_true rfl) ?_
  refine gf_aload_n 0 dX1_apart_16 rfl rfl ?_
  refine gf_getR flX1_31 rfl dX1_apart_17 (gt_1 hG) (gp_1_9 hG) ?_
  refine gf_iload_n 1 dX1_apart_20 rfl rfl ?_
  refine gf_iald 120 dX1_apart_21 (gt_8 hG) (gl_8 hG) rfl (by omega) (by decide) ?_
  refine gf_aload_n 0 dX1_apart_22 rfl rfl ?_
  refine gf_getR flX1_31 rfl dX1_apart_23 (gt_1 hG) (gp_1_9 hG) ?_
  refine gf_iload_n 2 dX1_apart_26 rfl rfl ?_
  refine gf_iald 120 dX1_apart_27 (gt_8 hG) (gl_8 hG) rfl (by omega) (by decide) ?_
  refine gf_isub dX1_apart_28 ?_
  refine gf_abs lkX1_97 kMabs.1 kMabs.2.1 kMabs.2.2 dX1_apart_29 (by omega) (Nat.le_of_ble_eq_true rfl) ?_
  refine gf_iadd dX1_apart_32 ?_
  exact gf_iretE dX1_apart_33 rfl (apart_e C ha hb) (rfl)
/-- how many of the first n marks are set -/
def mk (f : Nat → Int32) : Nat → Bool := fun c => decide (¬ f c = 0)
theorem l_X1_many (E : gE) {d : Nat} {m : Nat} (h : hp_T) (hG : gr h) (hm : hp_tag h m = 16 ∧ hp_len h m = 120) {w g : Nat} (C : cty (hp_i h) w g) : ∀ k j, j + k = w * g → gf E mX1_many d 4 [(0, .ref (E.1 + 1)), (1, .ref (E.1 + m)), (2, .int (nI (fa_cnt (mk (hp_i h m)) j))), (3, .int (nI j))] [] h (some (.int (nI (fa_cnt (mk (hp_i h m)) (w * g))))) h := by
  have hn := cty_n C
  intro k
  induction k with
  | zero =>
    intro j hj
    have hj : j = w * g := by omega
    subst hj
    refine gf_iload_n 3 dX1_many_4 rfl rfl ?_
    refine gf_aload_n 0 dX1_many_5 rfl rfl ?_
    refine gf_getI flX1_64 rfl dX1_many_6 (gt_1 hG) ?_
    refine gf_icmp_ge 33 dX1_many_9 rfl (fun _ => ?_) (fun q => absurd (by rw [C.2.2.2.1]; exact nI_le (Nat.le_refl _) (by omega)) q)
    refine gf_iload_n 2 dX1_many_33 rfl rfl ?_
    exact gf_iretE dX1_many_34 rfl (rfl) (rfl)
  | succ k ih =>
    intro j hj
    refine gf_iload_n 3 dX1_many_4 rfl rfl ?_
    refine gf_aload_n 0 dX1_many_5 rfl rfl ?_
    refine gf_getI flX1_64 rfl dX1_many_6 (gt_1 hG) ?_
    refine gf_icmp_ge 33 dX1_many_9 rfl (fun q => absurd q (by rw [C.2.2.2.1]; exact nI_ge (by omega) (by omega))) (fun _ => ?_)
    refine gf_iload_n 3 dX1_many_12 rfl rfl ?_
    refine gf_aload_n 1 dX1_many_13 rfl rfl ?_
    refine gf_alen 120 dX1_many_14 hm.1 (by decide) (by decide) hm.2 ?_
    refine gf_icmp_ge 33 dX1_many_15 rfl (fun q => absurd q (nI_ge (by omega) (by omega))) (fun _ => ?_)
    refine gf_aload_n 1 dX1_many_18 rfl rfl ?_
    refine gf_iload_n 3 dX1_many_19 rfl rfl ?_
    refine gf_zald 120 dX1_many_20 hm.1 hm.2 rfl (by omega) (by decide) ?_
    refine gf_if_eq 27 dX1_many_21 rfl (fun zc21 => ?_) (fun zc21 => ?_)
    · refine gf_iinc (1) dX1_many_27 rfl rfl (Nat.le_of_ble_eq_true rfl) ?_
      refine gf_goto 4 dX1_many_30 rfl ?_
      exact gf_lw (ih (j + 1) (by omega)) ⟨rfl, rfl, lvE (by rw [fa_cnt_no (by simp [mk, zc21])]), lvE (nI_1 j), trivial⟩
    · refine gf_iinc (1) dX1_many_24 rfl rfl (Nat.le_of_ble_eq_true rfl) ?_
      refine gf_iinc (1) dX1_many_27 rfl rfl (Nat.le_of_ble_eq_true rfl) ?_
      refine gf_goto 4 dX1_many_30 rfl ?_
      exact gf_lw (ih (j + 1) (by omega)) ⟨rfl, rfl, lvE (by rw [fa_cnt_yes (by simp [mk, zc21]), nI_1]), lvE (nI_1 j), trivial⟩
theorem e_X1_many (E : gE) {d : Nat} (hd : 0 ≤ d) {m : Nat} (h : hp_T) (hG : gr h) (hm : hp_tag h m = 16 ∧ hp_len h m = 120) {w g : Nat} (C : cty (hp_i h) w g) : ev E mX1_many d [.ref (E.1 + 1), .ref (E.1 + m)] h ((some (.int (nI (fa_cnt (mk (hp_i h m)) (w * g)))))) h := by
  refine ev_of rfl (fun q => absurd q (by decide)) (Nat.le_of_ble_eq_true rfl) ?_
  refine gf_iconst (0) dX1_many_0 rfl ?_
  refine gf_istore_n 2 dX1_many_1 rfl (Nat.le_of_ble_eq_true rfl) ?_
  refine gf_iconst (0) dX1_many_2 rfl ?_
  refine gf_istore_n 3 dX1_many_3 rfl (Nat.le_of_ble_eq_true rfl) ?_
  exact l_X1_many E h hG hm C (w * g) 0 (by omega)
/-- a plug within three of the cell -/
def plN (f : Nat → Int32) (w a : Nat) : Nat → Bool := fun k => decide (¬ f k = 0) && decide (apN w a k ≤ 3)
theorem apN_le {w g a b : Nat} (h1 : 1 ≤ w) (ha : a < w * g) (hb : b < w * g) (hn : w * g ≤ 120) : apN w a b ≤ 240 := by
  have q1 : a / w ≤ a := Nat.div_le_self a w
  have q2 : b / w ≤ b := Nat.div_le_self b w
  have q3 : a % w ≤ a := Nat.mod_le a w
  have q4 : b % w ≤ b := Nat.mod_le b w
  unfold apN
  generalize a / w = x1 at *
  generalize b / w = x2 at *
  generalize a % w = x3 at *
  generalize b % w = x4 at *
  omega
theorem l_X1_plugNear (E : gE) {d : Nat} (hd : 2 ≤ d) {a : Nat} (h : hp_T) (hG : gr h) {w g : Nat} (C : cty (hp_i h) w g) (ha : a < w * g) : ∀ (kz jz : Nat), jz + kz = w * g → (∀ i, i < jz → plN (hp_i h 6) w a i = false) → gf E mX1_plugNear d 2 [(0, .ref (E.1 + 1)), (1, .int (nI a)), (2, .int (nI jz))] [] h (some (.int (zb (anyb (plN (hp_i h 6) w a) (w * g) = true)))) h := by
  have hn := cty_n C
  intro kz
  induction kz with
  | zero =>
    intro jz hj hp
    have hj : jz = w * g := by omega
    subst hj
    refine gf_iload_n 2 dX1_plugNear_2 rfl rfl ?_
    refine gf_aload_n 0 dX1_plugNear_3 rfl rfl ?_
    refine gf_getI flX1_64 rfl dX1_plugNear_4 (gt_1 hG) ?_
    refine gf_icmp_ge 37 dX1_plugNear_7 rfl (fun _ => ?_) (fun q => absurd (by rw [C.2.2.2.1]; exact nI_le (Nat.le_refl _) (by omega)) q)
    refine gf_iconst (0) dX1_plugNear_37 rfl ?_
    exact gf_zretE dX1_plugNear_38 rfl (rfl) ((zb_f (by rw [anyb_no hp]; decide)).symm) (rfl)
  | succ kz ih =>
    intro jz hj hp
    refine gf_iload_n 2 dX1_plugNear_2 rfl rfl ?_
    refine gf_aload_n 0 dX1_plugNear_3 rfl rfl ?_
    refine gf_getI flX1_64 rfl dX1_plugNear_4 (gt_1 hG) ?_
    refine gf_icmp_ge 37 dX1_plugNear_7 rfl (fun q => absurd q (by rw [C.2.2.2.1]; exact nI_ge (by omega) (by omega))) (fun _ => ?_)
    refine gf_aload_n 0 dX1_plugNear_10 rfl rfl ?_
    refine gf_getR flX1_25 rfl dX1_plugNear_11 (gt_1 hG) (gp_1_7 hG) ?_
    refine gf_iload_n 2 dX1_plugNear_14 rfl rfl ?_
    refine gf_zald 120 dX1_plugNear_15 (gt_6 hG) (gl_6 hG) rfl (by omega) (by decide) ?_
    refine gf_if_eq 31 dX1_plugNear_16 rfl (fun zc16 => ?_) (fun zc16 => ?_)
    · refine gf_iinc (1) dX1_plugNear_31 rfl rfl (Nat.le_of_ble_eq_true rfl) ?_
      refine gf_goto 2 dX1_plugNear_34 rfl ?_
      exact gf_lw (ih (jz + 1) (by omega) (fun i hi => by rcases Nat.lt_succ_iff_lt_or_eq.mp hi with q | q; exact hp i q; (rw [q]; simp [plN, zc16]))) ⟨rfl, rfl, lvE (nI_1 jz), trivial⟩
    · refine gf_aload_n 0 dX1_plugNear_19 rfl rfl ?_
      refine gf_iload_n 1 dX1_plugNear_20 rfl rfl ?_
      refine gf_iload_n 2 dX1_plugNear_21 rfl rfl ?_
      refine gf_callV cmX1_apart lkX1_103 imX1_apart seX1_apart ⟨rfl, by decide⟩ dX1_plugNear_22 (d1 := d - 1) (by omega) (gt_1 hG) (e_X1_apart E (by omega) h hG C ha (show jz < w * g by omega)) rfl rfl (Nat.le_of_ble_eq_true rfl) ?_
      refine gf_iconst (3) dX1_plugNear_25 rfl ?_
      refine gf_icmp_gt 31 dX1_plugNear_26 rfl (fun zc26 => ?_) (fun zc26 => ?_)
      · refine gf_iinc (1) dX1_plugNear_31 rfl rfl (Nat.le_of_ble_eq_true rfl) ?_
        refine gf_goto 2 dX1_plugNear_34 rfl ?_
        exact gf_lw (ih (jz + 1) (by omega) (fun i hi => by rcases Nat.lt_succ_iff_lt_or_eq.mp hi with q | q; exact hp i q; (rw [q]; have q2 := apN_le C.1.1 ha (show jz < w * g by omega) hn.2; have zc26 := zc26; rw [show (3 : Int32) = nI 3 from rfl, nI_ltI (by decide) (by omega)] at zc26; simp [plN]; omega))) ⟨rfl, rfl, lvE (nI_1 jz), trivial⟩
      · refine gf_iconst (1) dX1_plugNear_29 rfl ?_
        exact gf_zretE dX1_plugNear_30 rfl (rfl) ((zb_t (anyb_in (k := jz) (by omega) (by have q := apN_le C.1.1 ha (show jz < w * g by omega) hn.2; have zc26 := zc26; rw [show (3 : Int32) = nI 3 from rfl, nI_ltI (by decide) (by omega)] at zc26; simp [plN, zc16]; omega))).symm) (rfl)
theorem e_X1_plugNear (E : gE) {d : Nat} (hd : 2 ≤ d) {a : Nat} (h : hp_T) (hG : gr h) {w g : Nat} (C : cty (hp_i h) w g) (ha : a < w * g) : ev E mX1_plugNear d [.ref (E.1 + 1), .int (nI a)] h (some (.int (zb (anyb (plN (hp_i h 6) w a) (w * g) = true)))) h := by
  refine ev_of rfl (fun q => absurd q (by decide)) (Nat.le_of_ble_eq_true rfl) ?_
  refine gf_iconst (0) dX1_plugNear_0 rfl ?_
  refine gf_istore_n 2 dX1_plugNear_1 rfl (Nat.le_of_ble_eq_true rfl) ?_
  exact l_X1_plugNear E hd h hG C ha (w * g) 0 (by omega) (fun i hi => absurd hi (Nat.not_lt_zero i))
/-- a house beside a cell -/
def hsN (f : Nat → Int32) (w g a : Nat) : Nat → Bool := fun way => match nbo w g a way with
  | none => false
  | some j => decide (¬ f j = 0)
theorem l_X1_housesAround (E : gE) {d : Nat} {a : Nat} (h : hp_T) (hG : gr h) {w g : Nat} (C : cty (hp_i h) w g) (ha : a < w * g) {v : Option Value} {hz : hp_T} (K : gf E mX1_housesAround d 45 [(0, .ref (E.1 + 1)), (1, .int (nI a)), (2, .int (nI (fa_cnt (hsN (hp_i h 2) w g a) ((8 : Nat))))), (3, .int (nI ((8 : Nat))))] [] (h) v hz) : ∀ (kz jz : Nat), jz + kz = (8 : Nat) → gf E mX1_housesAround d 4 [(0, .ref (E.1 + 1)), (1, .int (nI a)), (2, .int (nI (fa_cnt (hsN (hp_i h 2) w g a) (jz)))), (3, .int (nI (jz)))] [] (h) v hz := by
  have hn := cty_n C
  intro kz
  induction kz with
  | zero =>
    intro jz hj
    have hj : (8 : Nat) = jz := by omega
    subst hj
    refine gf_iload_n 3 dX1_housesAround_4 rfl rfl ?_
    refine gf_bipush (8) dX1_housesAround_5 rfl ?_
    refine gf_icmp_ge 45 dX1_housesAround_7 rfl (fun _ => ?_) (fun q => absurd (nI_le (Nat.le_refl 8) (by decide)) q)
    exact gf_lw K ⟨rfl, rfl, rfl, rfl, trivial⟩
  | succ kz ih =>
    intro jz hj
    have hv := (C.2.2.2.2 a ha).2.2 jz (by omega)
    cases hq : nbo w g a jz with
    | none =>
      rw [hq] at hv
      have hv : hp_i h (10 + a) jz = -1 := hv
      refine gf_iload_n 3 dX1_housesAround_4 rfl rfl ?_
      refine gf_bipush (8) dX1_housesAround_5 rfl ?_
      refine gf_icmp_ge 45 dX1_housesAround_7 rfl (fun q => absurd q (by rw [show (8 : Int32) = nI 8 from rfl]; exact nI_ge (by omega) (by decide))) (fun _ => ?_)
      refine gf_aload_n 0 dX1_housesAround_10 rfl rfl ?_
      refine gf_getR flX1_36 rfl dX1_housesAround_11 (gt_1 hG) (gp_1_10 hG) ?_
      refine gf_iload_n 1 dX1_housesAround_14 rfl rfl ?_
      refine gf_rald 120 dX1_housesAround_15 (gt_9 hG) (by decide) (by decide) (gl_9 hG) rfl (show a < 120 by omega) (by decide) (gq_ar hG (show a < 120 by omega)) ?_
      refine gf_iload_n 3 dX1_housesAround_16 rfl rfl ?_
      refine gf_iald 8 dX1_housesAround_17 (gqt_ar hG (show a < 120 by omega)) (gql_ar hG (show a < 120 by omega)) rfl (by omega) (by decide) ?_
      refine gf_istore dX1_housesAround_18 (Nat.le_of_ble_eq_true rfl) ?_
      refine gf_iload dX1_housesAround_20 rfl ?_
      refine gf_iconst (-1) dX1_housesAround_22 rfl ?_
      refine gf_icmp_eq 39 dX1_housesAround_23 rfl (fun _ => ?_) (fun q => absurd (hv) q)
      refine gf_iinc (1) dX1_housesAround_39 rfl rfl (Nat.le_of_ble_eq_true rfl) ?_
      refine gf_goto 4 dX1_housesAround_42 rfl ?_
      exact gf_lw (ih (jz + 1) (by omega)) ⟨rfl, rfl, lvE (by rw [fa_cnt_no (by simp [hsN, hq])]), lvE (nI_1 jz), trivial⟩
    | some x =>
      rw [hq] at hv
      have hv : hp_i h (10 + a) jz = nI x := hv
      have hx := nbo_lt hq
      refine gf_iload_n 3 dX1_housesAround_4 rfl rfl ?_
      refine gf_bipush (8) dX1_housesAround_5 rfl ?_
      refine gf_icmp_ge 45 dX1_housesAround_7 rfl (fun q => absurd q (by rw [show (8 : Int32) = nI 8 from rfl]; exact nI_ge (by omega) (by decide))) (fun _ => ?_)
      refine gf_aload_n 0 dX1_housesAround_10 rfl rfl ?_
      refine gf_getR flX1_36 rfl dX1_housesAround_11 (gt_1 hG) (gp_1_10 hG) ?_
      refine gf_iload_n 1 dX1_housesAround_14 rfl rfl ?_
      refine gf_rald 120 dX1_housesAround_15 (gt_9 hG) (by decide) (by decide) (gl_9 hG) rfl (show a < 120 by omega) (by decide) (gq_ar hG (show a < 120 by omega)) ?_
      refine gf_iload_n 3 dX1_housesAround_16 rfl rfl ?_
      refine gf_iald 8 dX1_housesAround_17 (gqt_ar hG (show a < 120 by omega)) (gql_ar hG (show a < 120 by omega)) rfl (by omega) (by decide) ?_
      refine gf_istore dX1_housesAround_18 (Nat.le_of_ble_eq_true rfl) ?_
      refine gf_iload dX1_housesAround_20 rfl ?_
      refine gf_iconst (-1) dX1_housesAround_22 rfl ?_
      refine gf_icmp_eq 39 dX1_housesAround_23 rfl (fun q => absurd q (by rw [hv]; exact nI_nm1 (by omega))) (fun _ => ?_)
      refine gf_aload_n 0 dX1_housesAround_26 rfl rfl ?_
      refine gf_getR flX1_9 rfl dX1_housesAround_27 (gt_1 hG) (gp_1_3 hG) ?_
      refine gf_iload dX1_housesAround_30 rfl ?_
      refine gf_zald 120 dX1_housesAround_32 (gt_2 hG) (gl_2 hG) hv (by omega) (by decide) ?_
      refine gf_if_eq 39 dX1_housesAround_33 rfl (fun zc33 => ?_) (fun zc33 => ?_)
      · refine gf_iinc (1) dX1_housesAround_39 rfl rfl (Nat.le_of_ble_eq_true rfl) ?_
        refine gf_goto 4 dX1_housesAround_42 rfl ?_
        exact gf_lw (ih (jz + 1) (by omega)) ⟨rfl, rfl, lvE (by rw [fa_cnt_no (by simp [hsN, hq, zc33])]), lvE (nI_1 jz), trivial⟩
      · refine gf_iinc (1) dX1_housesAround_36 rfl rfl (Nat.le_of_ble_eq_true rfl) ?_
        refine gf_iinc (1) dX1_housesAround_39 rfl rfl (Nat.le_of_ble_eq_true rfl) ?_
        refine gf_goto 4 dX1_housesAround_42 rfl ?_
        exact gf_lw (ih (jz + 1) (by omega)) ⟨rfl, rfl, lvE (by rw [fa_cnt_yes (by simp [hsN, hq, zc33]), nI_1]), lvE (nI_1 jz), trivial⟩
theorem e_X1_housesAround (E : gE) {d : Nat} (hd : 0 ≤ d) {a : Nat} (h : hp_T) (hG : gr h) {w g : Nat} (C : cty (hp_i h) w g) (ha : a < w * g) : ev E mX1_housesAround d [.ref (E.1 + 1), .int (nI a)] h (some (.int (nI (fa_cnt (hsN (hp_i h 2) w g a) 8)))) h := by
  refine ev_of rfl (fun q => absurd q (by decide)) (Nat.le_of_ble_eq_true rfl) ?_
  refine gf_iconst (0) dX1_housesAround_0 rfl ?_
  refine gf_istore_n 2 dX1_housesAround_1 rfl (Nat.le_of_ble_eq_true rfl) ?_
  refine gf_iconst (0) dX1_housesAround_2 rfl ?_
  refine gf_istore_n 3 dX1_housesAround_3 rfl (Nat.le_of_ble_eq_true rfl) ?_
  refine l_X1_housesAround E h hG C ha ?_ 8 0 (by omega)
  refine gf_iload_n 2 dX1_housesAround_45 rfl rfl ?_
  exact gf_iretE dX1_housesAround_46 rfl (rfl) (rfl)
theorem e_X1_build (E : gE) {d : Nat} (hd : 0 ≤ d) {c : Nat} (wl tr wo : Int32) (h : hp_T) (hG : gr h) (hc : c < 120) : ev E mX1_build d [.ref (E.1 + 1), .int (nI c), .int wl, .int tr, .int wo] h (none) (hp_setI (hp_setI (hp_setI (hp_setI h 2 c 1) 3 c wl) 4 c tr) 5 c wo) := by
  refine ev_of rfl (fun q => absurd q (by decide)) (Nat.le_of_ble_eq_true rfl) ?_
  refine gf_aload_n 0 dX1_build_0 rfl rfl ?_
  refine gf_getR flX1_9 rfl dX1_build_1 (gt_1 hG) (gp_1_3 hG) ?_
  refine gf_iload_n 1 dX1_build_4 rfl rfl ?_
  refine gf_iconst (1) dX1_build_5 rfl ?_
  refine gf_zast 120 dX1_build_6 (gt_2 hG) (gl_2 hG) rfl (by omega) (by decide) rfl ?_
  refine gf_aload_n 0 dX1_build_7 rfl rfl ?_
  refine gf_getR flX1_15 rfl dX1_build_8 (gt_1 hG) (gp_1_4 hG) ?_
  refine gf_iload_n 1 dX1_build_11 rfl rfl ?_
  refine gf_iload_n 2 dX1_build_12 rfl rfl ?_
  refine gf_iast 120 dX1_build_13 (gt_3 hG) (gl_3 hG) rfl (by omega) (by decide) ?_
  refine gf_aload_n 0 dX1_build_14 rfl rfl ?_
  refine gf_getR flX1_19 rfl dX1_build_15 (gt_1 hG) (gp_1_5 hG) ?_
  refine gf_iload_n 1 dX1_build_18 rfl rfl ?_
  refine gf_iload_n 3 dX1_build_19 rfl rfl ?_
  refine gf_iast 120 dX1_build_20 (gt_4 hG) (gl_4 hG) rfl (by omega) (by decide) ?_
  refine gf_aload_n 0 dX1_build_21 rfl rfl ?_
  refine gf_getR flX1_22 rfl dX1_build_22 (gt_1 hG) (gp_1_6 hG) ?_
  refine gf_iload_n 1 dX1_build_25 rfl rfl ?_
  refine gf_iload dX1_build_26 rfl ?_
  refine gf_iast 120 dX1_build_28 (gt_5 hG) (gl_5 hG) rfl (by omega) (by decide) ?_
  exact gf_vretE dX1_build_29 rfl (rfl)
