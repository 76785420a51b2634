/-! ===== the reference's fire: apart, wind, plugs, losses, growing ===== -/
theorem e_sizeN (E : gE) {d : Nat} {a b : Nat} (ha : a < 1000) (hb : b < 1000) (h : hp_T) : ev E mX12_size d [.int (nI a - nI b)] h (some (.int (nI ((a : Int) - b).natAbs))) h := by
  refine ev_ge (congrArg (fun z => some (Value.int z)) ?_) (e_X12_size E (Nat.zero_le _) (nI a - nI b) h)
  rw [← Int32.zero_sub]
  exact abs_e (by omega) (by omega)
def mwS (M : mM) : Nat → Nat
  | 0 => 0
  | k + 1 => if M 39 (k + 1) = 0 then mwS M k else k + 1
def mloV (M : mM) (c : Nat) : Int32 := if M 34 c = 0 then 0 else M 33 c * M 56 c / fuW (M 31) c
theorem e_X12_apart (E : gE) {d : Nat} (hd : 1 ≤ d) {w g a b : Nat} (h : hp_T) (hG : gr h) (M : mM) (N : mN) (C : mcty M w g) (ha : a < w * g) (hb : b < w * g) : ev E mX12_apart d [.ref (E.1 + 247), .int (nI a), .int (nI b)] (hm h M N) (some (.int (nI (apN w a b)))) (hm h M N) := by
  obtain ⟨w1, w2, g1, g2⟩ := C.1
  have hn : w * g ≤ 120 := Nat.le_trans (Nat.mul_le_mul w2 g2) (by decide)
  have q1 : a / w ≤ a := Nat.div_le_self a w
  have q2 : b / w ≤ b := Nat.div_le_self b w
  have q3 : a % w < w := Nat.mod_lt a w1
  have q4 : b % w < w := Nat.mod_lt b w1
  refine ev_of rfl (fun q => absurd q (by decide)) (Nat.le_of_ble_eq_true rfl) ?_
  refine gf_iload_n 1 dX12_apart_0 rfl rfl ?_
  refine gf_aload_n 0 dX12_apart_1 rfl rfl ?_
  refine gf_getI flX12_106 rfl dX12_apart_2 (gt_247 hG) ?_
  rw [show hp_i (hm h M N) 247 42 = nI w from C.2.1]
  refine gf_idiv dX12_apart_5 (nI_ne0 (by omega) (by omega)) ?_
  rw [pk_div (by omega) (by omega) (by omega)]
  refine gf_iload_n 2 dX12_apart_6 rfl rfl ?_
  refine gf_aload_n 0 dX12_apart_7 rfl rfl ?_
  refine gf_getI flX12_106 rfl dX12_apart_8 (gt_247 hG) ?_
  rw [show hp_i (hm h M N) 247 42 = nI w from C.2.1]
  refine gf_idiv dX12_apart_11 (nI_ne0 (by omega) (by omega)) ?_
  rw [pk_div (by omega) (by omega) (by omega)]
  refine gf_isub dX12_apart_12 ?_
  refine gf_callS cmX12_size lkX12_469 stX12_size dX12_apart_13 (d1 := d - 1) (by omega) (e_sizeN E (a := a / w) (b := b / w) (by omega) (by omega) _) rfl rfl (Nat.le_of_ble_eq_true rfl) ?_
  refine gf_iload_n 1 dX12_apart_16 rfl rfl ?_
  refine gf_aload_n 0 dX12_apart_17 rfl rfl ?_
  refine gf_getI flX12_106 rfl dX12_apart_18 (gt_247 hG) ?_
  rw [show hp_i (hm h M N) 247 42 = nI w from C.2.1]
  refine gf_irem dX12_apart_21 (nI_ne0 (by omega) (by omega)) ?_
  rw [pk_rem (by omega) (by omega) (by omega)]
  refine gf_iload_n 2 dX12_apart_22 rfl rfl ?_
  refine gf_aload_n 0 dX12_apart_23 rfl rfl ?_
  refine gf_getI flX12_106 rfl dX12_apart_24 (gt_247 hG) ?_
  rw [show hp_i (hm h M N) 247 42 = nI w from C.2.1]
  refine gf_irem dX12_apart_27 (nI_ne0 (by omega) (by omega)) ?_
  rw [pk_rem (by omega) (by omega) (by omega)]
  refine gf_isub dX12_apart_28 ?_
  refine gf_callS cmX12_size lkX12_469 stX12_size dX12_apart_29 (d1 := d - 1) (by omega) (e_sizeN E (a := a % w) (b := b % w) (by omega) (by omega) _) rfl rfl (Nat.le_of_ble_eq_true rfl) ?_
  refine gf_iadd dX12_apart_32 ?_
  exact gf_iretE dX12_apart_33 rfl ((nI_add _ _).trans rfl) (rfl)
theorem l_X12_windOf (E : gE) {d : Nat} {t : Nat} (h : hp_T) (hG : gr h) (M : mM) (N : mN) : ∀ k : Nat, k ≤ 120 → gf E mX12_windOf d 2 [(0, .ref (E.1 + 247)), (1, .int (nI t)), (2, .int (nI k))] [] (hm h M N) (some (.int (nI (mwS M k)))) (hm h M N) := by
  intro k
  induction k with
  | zero =>
    intro _
    refine gf_iload_n 2 dX12_windOf_2 rfl rfl ?_
    refine gf_if_le 21 dX12_windOf_3 rfl (fun _ => ?_) (fun q => absurd (Int32.le_refl _) q)
    refine gf_iload_n 2 dX12_windOf_21 rfl rfl ?_
    exact gf_iretE dX12_windOf_22 rfl (rfl) (rfl)
  | succ k ih =>
    intro hk
    refine gf_iload_n 2 dX12_windOf_2 rfl rfl ?_
    refine gf_if_le 21 dX12_windOf_3 rfl (fun q => absurd q (nI_nle (by omega) (by omega))) (fun _ => ?_)
    refine gf_aload_n 0 dX12_windOf_6 rfl rfl ?_
    refine gf_getR flX12_137 rfl dX12_windOf_7 (gt_247 hG) (gp_247_52 hG) ?_
    refine gf_iload_n 2 dX12_windOf_10 rfl rfl ?_
    refine gf_zald 121 dX12_windOf_11 (gt_286 hG) (gl_286 hG) rfl (by omega) (by decide) ?_
    refine gf_if_ne 21 dX12_windOf_12 rfl (fun zc12 => ?_) (fun zc12 => ?_)
    · refine gf_iload_n 2 dX12_windOf_21 rfl rfl ?_
      exact gf_iretE dX12_windOf_22 rfl (by rw [show mwS M (k + 1) = k + 1 from if_neg zc12]) (rfl)
    · refine gf_iinc (-1) dX12_windOf_15 rfl rfl (Nat.le_of_ble_eq_true rfl) ?_
      refine gf_goto 2 dX12_windOf_18 rfl ?_
      rw [show mwS M (k + 1) = mwS M k from if_pos zc12]
      exact gf_lw (ih (by omega)) ⟨rfl, rfl, lvE (pk_m1 k), trivial⟩
theorem e_X12_windOf (E : gE) {d : Nat} (hd : 0 ≤ d) {t : Nat} (h : hp_T) (hG : gr h) (M : mM) (N : mN) (ht : t ≤ 120) : ev E mX12_windOf d [.ref (E.1 + 247), .int (nI t)] (hm h M N) (some (.int (nI (mwS M t)))) (hm h M N) := by
  refine ev_of rfl (fun q => absurd q (by decide)) (Nat.le_of_ble_eq_true rfl) ?_
  refine gf_iload_n 1 dX12_windOf_0 rfl rfl ?_
  refine gf_istore_n 2 dX12_windOf_1 rfl (Nat.le_of_ble_eq_true rfl) ?_
  exact gf_lw (l_X12_windOf E h hG M N t ht) ⟨rfl, rfl, rfl, trivial⟩
theorem apN_lt {w g a b : Nat} (h1 : 1 ≤ w) (h2 : w ≤ 12) (h3 : g ≤ 10) (ha : a < w * g) (hb : b < w * g) : apN w a b < 1000 := by
  have hn : w * g ≤ 120 := Nat.le_trans (Nat.mul_le_mul h2 h3) (by decide)
  have q1 : a / w ≤ a := Nat.div_le_self a w
  have q2 : b / w ≤ b := Nat.div_le_self b w
  have q3 : a % w < w := Nat.mod_lt a h1
  have q4 : b % w < w := Nat.mod_lt b h1
  unfold apN
  generalize a / w = x1 at *
  generalize b / w = x2 at *
  generalize a % w = x3 at *
  generalize b % w = x4 at *
  omega
theorem l_X12_hasPlugNear (E : gE) {d : Nat} (hd : 2 ≤ d) {w g c : Nat} (h : hp_T) (hG : gr h) (M : mM) (N : mN) (C : mcty M w g) (hc : c < w * g) : ∀ (kz jz : Nat), jz + kz = w * g → (∀ i, i < jz → plN (M 35) w c i = false) → gf E mX12_hasPlugNear d 2 [(0, .ref (E.1 + 247)), (1, .int (nI c)), (2, .int (nI jz))] [] (hm h M N) (some (.int (bI (anyb (plN (M 35) w c) (w * g))))) (hm h M N) := by
  obtain ⟨w1, w2, g1, g2⟩ := C.1
  have hn : w * g ≤ 120 := Nat.le_trans (Nat.mul_le_mul w2 g2) (by decide)
  intro kz
  induction kz with
  | zero =>
    intro jz hj hno
    have hj : w * g = jz := by omega
    refine gf_iload_n 2 dX12_hasPlugNear_2 rfl rfl ?_
    refine gf_aload_n 0 dX12_hasPlugNear_3 rfl rfl ?_
    refine gf_callV cmX12_cells lkX12_409 imX12_cells seX12_cells ⟨rfl, by decide⟩ dX12_hasPlugNear_4 (d1 := d - 1) (by omega) (gt_247 hG) (e_X12_cells E (by omega) (hm h M N) hG) rfl rfl (Nat.le_of_ble_eq_true rfl) ?_
    rw [show hp_i (hm h M N) 247 42 * hp_i (hm h M N) 247 43 = nI (w * g) from by rw [show hp_i (hm h M N) 247 42 = nI w from C.2.1, show hp_i (hm h M N) 247 43 = nI g from C.2.2, pk_mul]]
    refine gf_icmp_ge 37 dX12_hasPlugNear_7 rfl (fun _ => ?_) (fun q => absurd (nI_le (by omega) (by omega)) q)
    refine gf_iconst (0) dX12_hasPlugNear_37 rfl ?_
    exact gf_bret dX12_hasPlugNear_38 rfl (by rw [anyb_no (fun i hi => hno i (by omega))]; rfl) (rfl)
  | succ kz ih =>
    intro jz hj hno
    refine gf_iload_n 2 dX12_hasPlugNear_2 rfl rfl ?_
    refine gf_aload_n 0 dX12_hasPlugNear_3 rfl rfl ?_
    refine gf_callV cmX12_cells lkX12_409 imX12_cells seX12_cells ⟨rfl, by decide⟩ dX12_hasPlugNear_4 (d1 := d - 1) (by omega) (gt_247 hG) (e_X12_cells E (by omega) (hm h M N) hG) rfl rfl (Nat.le_of_ble_eq_true rfl) ?_
    rw [show hp_i (hm h M N) 247 42 * hp_i (hm h M N) 247 43 = nI (w * g) from by rw [show hp_i (hm h M N) 247 42 = nI w from C.2.1, show hp_i (hm h M N) 247 43 = nI g from C.2.2, pk_mul]]
    refine gf_icmp_ge 37 dX12_hasPlugNear_7 rfl (fun q => absurd q (nI_ge (by omega) (by omega))) (fun _ => ?_)
    refine gf_aload_n 0 dX12_hasPlugNear_10 rfl rfl ?_
    refine gf_getR flX12_125 rfl dX12_hasPlugNear_11 (gt_247 hG) (gp_247_48 hG) ?_
    refine gf_iload_n 2 dX12_hasPlugNear_14 rfl rfl ?_
    refine gf_zald 120 dX12_hasPlugNear_15 (gt_282 hG) (gl_282 hG) rfl (by omega) (by decide) ?_
    refine gf_if_eq 31 dX12_hasPlugNear_16 rfl (fun zc16 => ?_) (fun zc16 => ?_)
    · refine gf_iinc (1) dX12_hasPlugNear_31 rfl rfl (Nat.le_of_ble_eq_true rfl) ?_
      refine gf_goto 2 dX12_hasPlugNear_34 rfl ?_
      exact gf_lw (ih (jz + 1) (by omega) (fun i hi => by rcases Nat.lt_succ_iff_lt_or_eq.mp hi with w9 | w9; exact hno i w9; rw [w9]; exact (show plN (M 35) w c jz = false from by unfold plN; rw [decide_eq_false (not_not_intro (show M 35 jz = 0 from zc16))]; rfl))) ⟨rfl, rfl, lvE (nI_1 jz), trivial⟩
    · refine gf_aload_n 0 dX12_hasPlugNear_19 rfl rfl ?_
      refine gf_iload_n 1 dX12_hasPlugNear_20 rfl rfl ?_
      refine gf_iload_n 2 dX12_hasPlugNear_21 rfl rfl ?_
      refine gf_callV cmX12_apart lkX12_586 imX12_apart seX12_apart ⟨rfl, by decide⟩ dX12_hasPlugNear_22 (d1 := d - 1) (by omega) (gt_247 hG) (e_X12_apart E (by omega) h hG M N C hc (show jz < w * g by omega)) rfl rfl (Nat.le_of_ble_eq_true rfl) ?_
      refine gf_iconst (3) dX12_hasPlugNear_25 rfl ?_
      refine gf_icmp_gt 31 dX12_hasPlugNear_26 rfl (fun zc26 => ?_) (fun zc26 => ?_)
      · refine gf_iinc (1) dX12_hasPlugNear_31 rfl rfl (Nat.le_of_ble_eq_true rfl) ?_
        refine gf_goto 2 dX12_hasPlugNear_34 rfl ?_
        exact gf_lw (ih (jz + 1) (by omega) (fun i hi => by rcases Nat.lt_succ_iff_lt_or_eq.mp hi with w9 | w9; exact hno i w9; rw [w9]; exact (show plN (M 35) w c jz = false from by unfold plN; rw [decide_eq_false (show ¬ apN w c jz ≤ 3 from fun q => nI_nlt (a := 3) q (by omega) zc26), Bool.and_false]))) ⟨rfl, rfl, lvE (nI_1 jz), trivial⟩
      · have hap : apN w c jz ≤ 3 := by rcases Nat.lt_or_ge 3 (apN w c jz) with q | q; exact absurd (nI_lt (a := 3) q (by have := apN_lt (w := w) (g := g) (a := c) (b := jz) w1 w2 g2 hc (by omega); omega)) zc26; exact q
        refine gf_iconst (1) dX12_hasPlugNear_29 rfl ?_
        exact gf_bret dX12_hasPlugNear_30 rfl (by rw [anyb_in (k := jz) (by omega) (show plN (M 35) w c jz = true by unfold plN; rw [decide_eq_true (show ¬ M 35 jz = 0 from zc16), decide_eq_true (show apN w c jz ≤ 3 from hap)]; rfl)]; rfl) (rfl)
theorem e_X12_hasPlugNear (E : gE) {d : Nat} (hd : 2 ≤ d) {w g c : Nat} (h : hp_T) (hG : gr h) (M : mM) (N : mN) (C : mcty M w g) (hc : c < w * g) : ev E mX12_hasPlugNear d [.ref (E.1 + 247), .int (nI c)] (hm h M N) (some (.int (bI (anyb (plN (M 35) w c) (w * g))))) (hm h M N) := by
  refine ev_of rfl (fun q => absurd q (by decide)) (Nat.le_of_ble_eq_true rfl) ?_
  refine gf_iconst (0) dX12_hasPlugNear_0 rfl ?_
  refine gf_istore_n 2 dX12_hasPlugNear_1 rfl (Nat.le_of_ble_eq_true rfl) ?_
  exact gf_lw (l_X12_hasPlugNear E hd h hG M N C hc (w * g) 0 (by omega) (fun i hi => absurd hi (Nat.not_lt_zero i))) ⟨rfl, rfl, rfl, trivial⟩
theorem e_X12_lossOf (E : gE) {d : Nat} (hd : 3 ≤ d) {w g c : Nat} (h : hp_T) (hG : gr h) (M : mM) (N : mN) (C : mcty M w g) (hc : c < w * g) (hwl : ∀ c, c < 120 → ∃ k, k < 4 ∧ M 31 c = nI k) : ev E mX12_lossOf d [.ref (E.1 + 247), .int (nI c)] (hm h M N) (some (.int (mloV M c))) (hm h M N) := by
  obtain ⟨w1, w2, g1, g2⟩ := C.1
  have hn : w * g ≤ 120 := Nat.le_trans (Nat.mul_le_mul w2 g2) (by decide)
  obtain ⟨kw, hk4, hkw⟩ := hwl c (by omega)
  refine ev_of rfl (fun q => absurd q (by decide)) (Nat.le_of_ble_eq_true rfl) ?_
  refine gf_aload_n 0 dX12_lossOf_0 rfl rfl ?_
  refine gf_iload_n 1 dX12_lossOf_1 rfl rfl ?_
  refine gf_callV cmX12_hasHouse lkX12_482 imX12_hasHouse seX12_hasHouse ⟨rfl, by decide⟩ dX12_lossOf_2 (d1 := d - 1) (by omega) (gt_247 hG) (e_X12_hasHouse E (by omega) (nI c) (hm h M N) hG (w := w) (g := g) C) rfl rfl (Nat.le_of_ble_eq_true rfl) ?_
  refine gf_if_eq 34 dX12_lossOf_5 rfl (fun zc5 => ?_) (fun zc5 => ?_)
  · have hz : M 34 c = 0 := by rcases Decidable.em (M 34 c = 0) with q | q; exact q; exact absurd ⟨⟨nI_pos' (by omega), nI_lt hc (by omega)⟩, by rw [nI_clamp (by omega)]; exact q⟩ (zb_0.mp zc5)
    refine gf_iconst (0) dX12_lossOf_34 rfl ?_
    exact gf_iretE dX12_lossOf_35 rfl ((if_pos hz : mloV M c = _).symm) (rfl)
  · have hz : ¬ M 34 c = 0 := by have q := (zb_1.mp zc5).2; rw [nI_clamp (by omega)] at q; exact q
    refine gf_aload_n 0 dX12_lossOf_8 rfl rfl ?_
    refine gf_getR flX12_118 rfl dX12_lossOf_9 (gt_247 hG) (gp_247_46 hG) ?_
    refine gf_iload_n 1 dX12_lossOf_12 rfl rfl ?_
    refine gf_iald 120 dX12_lossOf_13 (gt_280 hG) (gl_280 hG) rfl (by omega) (by decide) ?_
    refine gf_aload_n 0 dX12_lossOf_14 rfl rfl ?_
    refine gf_getR flX12_192 rfl dX12_lossOf_15 (gt_247 hG) (gp_247_78 hG) ?_
    refine gf_iload_n 1 dX12_lossOf_18 rfl rfl ?_
    refine gf_iald 120 dX12_lossOf_19 (gt_303 hG) (gl_303 hG) rfl (by omega) (by decide) ?_
    refine gf_imul dX12_lossOf_20 ?_
    refine gf_aload_n 0 dX12_lossOf_21 rfl rfl ?_
    refine gf_getR flX12_112 rfl dX12_lossOf_22 (gt_247 hG) (gp_247_44 hG) ?_
    refine gf_iload_n 1 dX12_lossOf_25 rfl rfl ?_
    refine gf_iald 120 dX12_lossOf_26 (gt_278 hG) (gl_278 hG) rfl (by omega) (by decide) ?_
    rw [show hp_i (hm h M N) 278 c = nI kw from hkw]
    refine gf_callS cmX12_fuel lkX12_577 stX12_fuel dX12_lossOf_27 (d1 := d - 1) (by omega) (e_X12_fuel E (by omega) hk4 _) rfl rfl (Nat.le_of_ble_eq_true rfl) ?_
    refine gf_idiv dX12_lossOf_30 (fu_pos hk4).2 ?_
    refine gf_goto 35 dX12_lossOf_31 rfl ?_
    exact gf_iretE dX12_lossOf_35 rfl (((if_neg hz).trans (by unfold fuW; rw [hkw, nI_clamp (by omega)]; rfl) : mloV M c = _).symm) (rfl)
theorem l_X12_lossOfAll (E : gE) {d : Nat} (hd : 4 ≤ d) {w g : Nat} (h : hp_T) (hG : gr h) (M : mM) (N : mN) (C : mcty M w g) (hwl : ∀ c, c < 120 → ∃ k, k < 4 ∧ M 31 c = nI k) {v : Option Value} {hz : hp_T} (K : gf E mX12_lossOfAll d 26 [(0, .ref (E.1 + 247)), (1, .int (itN (fun f c => f + mloV M c) 0 ((w * g)))), (2, .int (nI ((w * g))))] [] (hm h M N) v hz) : ∀ (kz jz : Nat), jz + kz = (w * g) → gf E mX12_lossOfAll d 4 [(0, .ref (E.1 + 247)), (1, .int (itN (fun f c => f + mloV M c) 0 (jz))), (2, .int (nI (jz)))] [] (hm h M N) v hz := by
  obtain ⟨w1, w2, g1, g2⟩ := C.1
  have hn : w * g ≤ 120 := Nat.le_trans (Nat.mul_le_mul w2 g2) (by decide)
  intro kz
  induction kz with
  | zero =>
    intro jz hj
    have hj : (w * g) = jz := by omega
    subst hj
    refine gf_iload_n 2 dX12_lossOfAll_4 rfl rfl ?_
    refine gf_aload_n 0 dX12_lossOfAll_5 rfl rfl ?_
    refine gf_callV cmX12_cells lkX12_409 imX12_cells seX12_cells ⟨rfl, by decide⟩ dX12_lossOfAll_6 (d1 := d - 1) (by omega) (gt_247 hG) (e_X12_cells E (by omega) (hm h M N) hG) rfl rfl (Nat.le_of_ble_eq_true rfl) ?_
    rw [show hp_i (hm h M N) 247 42 * hp_i (hm h M N) 247 43 = nI (w * g) from by rw [show hp_i (hm h M N) 247 42 = nI w from C.2.1, show hp_i (hm h M N) 247 43 = nI g from C.2.2, pk_mul]]
    refine gf_icmp_ge 26 dX12_lossOfAll_9 rfl (fun _ => ?_) (fun q => absurd (Int32.le_refl _) q)
    exact gf_lw K ⟨rfl, rfl, rfl, trivial⟩
  | succ kz ih =>
    intro jz hj
    refine gf_iload_n 2 dX12_lossOfAll_4 rfl rfl ?_
    refine gf_aload_n 0 dX12_lossOfAll_5 rfl rfl ?_
    refine gf_callV cmX12_cells lkX12_409 imX12_cells seX12_cells ⟨rfl, by decide⟩ dX12_lossOfAll_6 (d1 := d - 1) (by omega) (gt_247 hG) (e_X12_cells E (by omega) (hm h M N) hG) rfl rfl (Nat.le_of_ble_eq_true rfl) ?_
    rw [show hp_i (hm h M N) 247 42 * hp_i (hm h M N) 247 43 = nI (w * g) from by rw [show hp_i (hm h M N) 247 42 = nI w from C.2.1, show hp_i (hm h M N) 247 43 = nI g from C.2.2, pk_mul]]
    refine gf_icmp_ge 26 dX12_lossOfAll_9 rfl (fun q => absurd q (nI_ge (by omega) (by omega))) (fun _ => ?_)
    refine gf_iload_n 1 dX12_lossOfAll_12 rfl rfl ?_
    refine gf_aload_n 0 dX12_lossOfAll_13 rfl rfl ?_
    refine gf_iload_n 2 dX12_lossOfAll_14 rfl rfl ?_
    refine gf_callV cmX12_lossOf lkX12_595 imX12_lossOf seX12_lossOf ⟨rfl, by decide⟩ dX12_lossOfAll_15 (d1 := d - 1) (by omega) (gt_247 hG) (e_X12_lossOf E (by omega) h hG M N C (show jz < w * g by omega) hwl) rfl rfl (Nat.le_of_ble_eq_true rfl) ?_
    refine gf_iadd dX12_lossOfAll_18 ?_
    refine gf_istore_n 1 dX12_lossOfAll_19 rfl (Nat.le_of_ble_eq_true rfl) ?_
    refine gf_iinc (1) dX12_lossOfAll_20 rfl rfl (Nat.le_of_ble_eq_true rfl) ?_
    refine gf_goto 4 dX12_lossOfAll_23 rfl ?_
    exact gf_lw (ih (jz + 1) (by omega)) ⟨rfl, rfl, lvE (nI_1 jz), trivial⟩
theorem e_X12_lossOfAll (E : gE) {d : Nat} (hd : 4 ≤ d) {w g : Nat} (h : hp_T) (hG : gr h) (M : mM) (N : mN) (C : mcty M w g) (hwl : ∀ c, c < 120 → ∃ k, k < 4 ∧ M 31 c = nI k) : ev E mX12_lossOfAll d [.ref (E.1 + 247)] (hm h M N) (some (.int (itN (fun f c => f + mloV M c) 0 (w * g)))) (hm h M N) := by
  refine ev_of rfl (fun q => absurd q (by decide)) (Nat.le_of_ble_eq_true rfl) ?_
  refine gf_iconst (0) dX12_lossOfAll_0 rfl ?_
  refine gf_istore_n 1 dX12_lossOfAll_1 rfl (Nat.le_of_ble_eq_true rfl) ?_
  refine gf_iconst (0) dX12_lossOfAll_2 rfl ?_
  refine gf_istore_n 2 dX12_lossOfAll_3 rfl (Nat.le_of_ble_eq_true rfl) ?_
  refine gf_lw (l_X12_lossOfAll E hd h hG M N C hwl ?_ (w * g) 0 (by omega)) ⟨rfl, rfl, rfl, trivial⟩
  refine gf_iload_n 1 dX12_lossOfAll_26 rfl rfl ?_
  exact gf_iretE dX12_lossOfAll_27 rfl (rfl) (rfl)
