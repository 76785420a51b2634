/-! ===== the class: which offices can't pay ===== -/
/-- longs b .. b + n - 1 as one state -/
def hbl (h : hp_T) (b n : Nat) (Y : Nat → Nat → Int64) : hp_T := (h.1, h.2.1, h.2.2.1, h.2.2.2.1, h.2.2.2.2.1, (fun x => if b ≤ x ∧ x < b + n then Y (x - b) else h.2.2.2.2.2.1 x), h.2.2.2.2.2.2)
theorem hbl_in (h : hp_T) {b n o : Nat} (Y : Nat → Nat → Int64) (ho : o < n) : hp_l (hbl h b n Y) (b + o) = Y o := by
  show (if b ≤ b + o ∧ b + o < b + n then Y (b + o - b) else _) = Y o
  rw [if_pos ⟨by omega, by omega⟩, show b + o - b = o from by omega]
theorem hbl_set (h : hp_T) {b n o : Nat} (Y : Nat → Nat → Int64) (ho : o < n) (k : Nat) (v : Int64) : hp_setL (hbl h b n Y) (b + o) k v = hbl h b n (up2 Y o k v) := by
  unfold hp_setL hbl
  refine congrArg (fun z => (h.1, h.2.1, h.2.2.1, h.2.2.2.1, h.2.2.2.2.1, z, h.2.2.2.2.2.2)) ?_
  funext x i
  by_cases hx : b ≤ x ∧ x < b + n
  · by_cases e : x = b + o
    · subst e
      have e1 : b + o - b = o := by omega
      simp only [up2, e1, hx, and_self, if_true, true_and]
    · have e1 : ¬ x - b = o := by omega
      simp only [up2, hx, and_self, if_true, e, e1, false_and, if_false]
  · have e : ¬ x = b + o := by omega
    simp only [up2, hx, if_false, e, false_and]
theorem hbl_id (h : hp_T) (b n : Nat) : hbl h b n (fun o => hp_l h (b + o)) = h := by
  obtain ⟨a, bb, cc, dd, ee, ff, gg⟩ := h
  refine congrArg (fun z => (a, bb, cc, dd, ee, z, gg)) ?_
  funext x
  by_cases hx : b ≤ x ∧ x < b + n
  · show (if b ≤ x ∧ x < b + n then ff (b + (x - b)) else ff x) = ff x
    rw [if_pos hx, show b + (x - b) = x from by omega]
  · exact if_neg hx
/-- the heap with the cascade's cells -/
def hfl (h : hp_T) (Y : Nat → Nat → Int64) (X : Nat → Nat → Int32) : hp_T := hb (hbl h 213 30 Y) 212 1 X
theorem hfl_id (h : hp_T) : hfl h (fun o => hp_l h (213 + o)) (fun o => hp_i h (212 + o)) = h := by
  unfold hfl
  rw [hbl_id]
  exact hb_id h 212 1
theorem fs_rc (h : hp_T) (Y : Nat → Nat → Int64) (X : Nat → Nat → Int32) (k : Nat) (v : Int32) : hp_setI (hfl h Y X) 212 k v = hfl h Y (up2 X 0 k v) := hb_set (hbl h 213 30 Y) (b := 212) (n := 1) (o := 0) X (by decide) k v
theorem fl_ow (h : hp_T) (Y : Nat → Nat → Int64) (X : Nat → Nat → Int32) {c : Nat} (hc : c < 9) : hp_l (hfl h Y X) (214 + c) = Y (1 + c) := by
  have e := hbl_in h (b := 213) (n := 30) (o := 1 + c) Y (by omega)
  rw [show 213 + (1 + c) = 214 + c from by omega] at e
  exact e
theorem fs_ow (h : hp_T) (Y : Nat → Nat → Int64) (X : Nat → Nat → Int32) {c : Nat} (hc : c < 9) (k : Nat) (v : Int64) : hp_setL (hfl h Y X) (214 + c) k v = hfl h (up2 Y (1 + c) k v) X := by
  have e := hbl_set h (b := 213) (n := 30) (o := 1 + c) Y (by omega) k v
  rw [show 213 + (1 + c) = 214 + c from by omega] at e
  exact congrArg (fun z => hb z 212 1 X) e
theorem fl_py (h : hp_T) (Y : Nat → Nat → Int64) (X : Nat → Nat → Int32) {c : Nat} (hc : c < 9) : hp_l (hfl h Y X) (224 + c) = Y (11 + c) := by
  have e := hbl_in h (b := 213) (n := 30) (o := 11 + c) Y (by omega)
  rw [show 213 + (11 + c) = 224 + c from by omega] at e
  exact e
theorem fs_py (h : hp_T) (Y : Nat → Nat → Int64) (X : Nat → Nat → Int32) {c : Nat} (hc : c < 9) (k : Nat) (v : Int64) : hp_setL (hfl h Y X) (224 + c) k v = hfl h (up2 Y (11 + c) k v) X := by
  have e := hbl_set h (b := 213) (n := 30) (o := 11 + c) Y (by omega) k v
  rw [show 213 + (11 + c) = 224 + c from by omega] at e
  exact congrArg (fun z => hb z 212 1 X) e
theorem fl_nx (h : hp_T) (Y : Nat → Nat → Int64) (X : Nat → Nat → Int32) {c : Nat} (hc : c < 9) : hp_l (hfl h Y X) (234 + c) = Y (21 + c) := by
  have e := hbl_in h (b := 213) (n := 30) (o := 21 + c) Y (by omega)
  rw [show 213 + (21 + c) = 234 + c from by omega] at e
  exact e
theorem fs_nx (h : hp_T) (Y : Nat → Nat → Int64) (X : Nat → Nat → Int32) {c : Nat} (hc : c < 9) (k : Nat) (v : Int64) : hp_setL (hfl h Y X) (234 + c) k v = hfl h (up2 Y (21 + c) k v) X := by
  have e := hbl_set h (b := 213) (n := 30) (o := 21 + c) Y (by omega) k v
  rw [show 213 + (21 + c) = 234 + c from by omega] at e
  exact congrArg (fun z => hb z 212 1 X) e
def sumL (f : Nat → Int64) (n : Nat) : Int64 := itN (fun s i => s + f i) 0 n
def gotL (Y : Nat → Nat → Int64) (o : Nat) (n : Nat) : Int64 := itN (fun s i => s + Y (11 + i) o) 0 n
def pfV (owed has due : Int64) : Int64 := if 0 < due ∧ has < due then owed * has / due else owed
def pfB (o : Nat) (has due : Int64) (Y : Nat → Nat → Int64) (k : Nat) : Nat → Nat → Int64 := up2 Y (21 + o) k (pfV (Y (1 + o) k) has due)
def pfS (o : Nat) (has : Int64) (Y : Nat → Nat → Int64) : Nat → Nat → Int64 := itN (pfB o has (sumL (Y (1 + o)) 10)) Y 10
def grB (F : Nat → Nat → Int32) (Y : Nat → Nat → Int64) (o : Nat) : Nat → Nat → Int64 := pfS o ((F 134 o).toInt64 + gotL Y o 9) Y
def cgB (o : Nat) (z : Int32 × (Nat → Nat → Int64)) (k : Nat) : Int32 × (Nat → Nat → Int64) := (zb (¬ z.1 = 0 ∨ ¬ z.2 (21 + o) k = z.2 (11 + o) k), up2 z.2 (11 + o) k (z.2 (21 + o) k))
def cgS (z : Int32 × (Nat → Nat → Int64)) (o : Nat) : Int32 × (Nat → Nat → Int64) := itN (cgB o) z 10
def grS (F : Nat → Nat → Int32) (Y : Nat → Nat → Int64) : Int32 × (Nat → Nat → Int64) := itN cgS (0, itN (grB F) Y 9) 9
theorem i64_ne {x : Int64} (h : 0 < x) : ¬ x = 0 := fun q => by rw [q] at h; exact absurd h (by decide)
theorem l_X4_sumOf (E : gE) {d : Nat} {m N : Nat} (h : hp_T) (hm : hp_tag h m = 15 ∧ hp_len h m = N) (hN : N < 1000000) {v : Option Value} {hz : hp_T} (K : gf E mX4_sumOf d 22 [(0, .ref (E.1 + m)), (1, .long (sumL (hp_l h m) (N))), (3, .int (nI (N)))] [] (h) v hz) : ∀ (kz jz : Nat), jz + kz = N → gf E mX4_sumOf d 4 [(0, .ref (E.1 + m)), (1, .long (sumL (hp_l h m) (jz))), (3, .int (nI (jz)))] [] (h) v hz := by
  intro kz
  induction kz with
  | zero =>
    intro jz hj
    have hj : N = jz := by omega
    subst hj
    refine gf_iload_n 3 dX4_sumOf_4 rfl rfl ?_
    refine gf_aload_n 0 dX4_sumOf_5 rfl rfl ?_
    refine gf_alen N dX4_sumOf_6 hm.1 (by decide) (by decide) hm.2 ?_
    refine gf_icmp_ge 22 dX4_sumOf_7 rfl (fun _ => ?_) (fun q => absurd (Int32.le_refl _) q)
    exact gf_lw K ⟨rfl, rfl, rfl, trivial⟩
  | succ kz ih =>
    intro jz hj
    refine gf_iload_n 3 dX4_sumOf_4 rfl rfl ?_
    refine gf_aload_n 0 dX4_sumOf_5 rfl rfl ?_
    refine gf_alen N dX4_sumOf_6 hm.1 (by decide) (by decide) hm.2 ?_
    refine gf_icmp_ge 22 dX4_sumOf_7 rfl (fun q => absurd q (nI_ge (by omega) (by omega))) (fun _ => ?_)
    refine gf_lload_n 1 dX4_sumOf_10 rfl rfl ?_
    refine gf_aload_n 0 dX4_sumOf_11 rfl rfl ?_
    refine gf_iload_n 3 dX4_sumOf_12 rfl rfl ?_
    refine gf_lald N dX4_sumOf_13 hm.1 hm.2 rfl (by omega) (by omega) ?_
    refine gf_ladd dX4_sumOf_14 ?_
    refine gf_lstore_n 1 dX4_sumOf_15 rfl (Nat.le_of_ble_eq_true rfl) ?_
    refine gf_iinc (1) dX4_sumOf_16 rfl rfl (Nat.le_of_ble_eq_true rfl) ?_
    refine gf_goto 4 dX4_sumOf_19 rfl ?_
    exact gf_lw (ih (jz + 1) (by omega)) ⟨rfl, rfl, lvE (nI_1 jz), trivial⟩
theorem e_X4_sumOf (E : gE) {d : Nat} (hd : 0 ≤ d) {m N : Nat} (h : hp_T) (hm : hp_tag h m = 15 ∧ hp_len h m = N) (hN : N < 1000000) : ev E mX4_sumOf d [.ref (E.1 + m)] h (some (.long (sumL (hp_l h m) (N)))) h := by
  refine ev_of rfl (fun q => absurd q (by decide)) (Nat.le_of_ble_eq_true rfl) ?_
  refine gf_lconst (0) dX4_sumOf_0 rfl ?_
  refine gf_lstore_n 1 dX4_sumOf_1 rfl (Nat.le_of_ble_eq_true rfl) ?_
  refine gf_iconst (0) dX4_sumOf_2 rfl ?_
  refine gf_istore_n 3 dX4_sumOf_3 rfl (Nat.le_of_ble_eq_true rfl) ?_
  refine gf_lw (l_X4_sumOf E h hm hN ?_ N 0 (by omega)) ⟨rfl, rfl, rfl, trivial⟩
  refine gf_lload_n 1 dX4_sumOf_22 rfl rfl ?_
  exact gf_lretE dX4_sumOf_23 rfl (rfl) (rfl)
theorem l_X4_got (E : gE) {d : Nat} {o : Nat} (h : hp_T) (hG : gr h) (Y : Nat → Nat → Int64) (X : Nat → Nat → Int32) (ho : o < 9) {v : Option Value} {hz : hp_T} (K : gf E mX4_got d 30 [(0, .ref (E.1 + 212)), (1, .int (nI o)), (2, .long (gotL Y o ((9 : Nat)))), (4, .int (nI ((9 : Nat))))] [] (hfl h (Y) (X)) v hz) : ∀ (kz jz : Nat), jz + kz = (9 : Nat) → gf E mX4_got d 5 [(0, .ref (E.1 + 212)), (1, .int (nI o)), (2, .long (gotL Y o (jz))), (4, .int (nI (jz)))] [] (hfl h (Y) (X)) v hz := by
  intro kz
  induction kz with
  | zero =>
    intro jz hj
    have hj : (9 : Nat) = jz := by omega
    subst hj
    refine gf_iload dX4_got_5 rfl ?_
    refine gf_bipush (9) dX4_got_7 rfl ?_
    refine gf_icmp_ge 30 dX4_got_9 rfl (fun _ => ?_) (fun q => absurd (Int32.le_refl _) q)
    exact gf_lw K ⟨rfl, rfl, rfl, rfl, trivial⟩
  | succ kz ih =>
    intro jz hj
    have hj9 : jz < 9 := by omega
    refine gf_iload dX4_got_5 rfl ?_
    refine gf_bipush (9) dX4_got_7 rfl ?_
    refine gf_icmp_ge 30 dX4_got_9 rfl (fun q => absurd q (nI_ge (b := 9) (by omega) (by omega))) (fun _ => ?_)
    refine gf_lload_n 2 dX4_got_12 rfl rfl ?_
    refine gf_aload_n 0 dX4_got_13 rfl rfl ?_
    refine gf_getR flX4_16 rfl dX4_got_14 (gt_212 hG) (gp_212_2 hG) ?_
    refine gf_iload dX4_got_17 rfl ?_
    refine gf_rald 9 dX4_got_19 (gt_223 hG) (by decide) (by decide) (gl_223 hG) rfl hj9 (by decide) (gq_py hG hj9) ?_
    refine gf_iload_n 1 dX4_got_20 rfl rfl ?_
    refine gf_lald 10 dX4_got_21 (gqt_py hG hj9) (gql_py hG hj9) rfl (by omega) (by decide) ?_
    rw [fl_py h Y X hj9]
    refine gf_ladd dX4_got_22 ?_
    refine gf_lstore_n 2 dX4_got_23 rfl (Nat.le_of_ble_eq_true rfl) ?_
    refine gf_iinc (1) dX4_got_24 rfl rfl (Nat.le_of_ble_eq_true rfl) ?_
    refine gf_goto 5 dX4_got_27 rfl ?_
    exact gf_lw (ih (jz + 1) (by omega)) ⟨rfl, rfl, rfl, lvE (nI_1 jz), trivial⟩
theorem e_X4_got (E : gE) {d : Nat} (hd : 0 ≤ d) {o : Nat} (h : hp_T) (hG : gr h) (Y : Nat → Nat → Int64) (X : Nat → Nat → Int32) (ho : o < 9) : ev E mX4_got d [.ref (E.1 + 212), .int (nI o)] (hfl h (Y) (X)) (some (.long (gotL Y o (9)))) (hfl h (Y) (X)) := by
  refine ev_of rfl (fun q => absurd q (by decide)) (Nat.le_of_ble_eq_true rfl) ?_
  refine gf_lconst (0) dX4_got_0 rfl ?_
  refine gf_lstore_n 2 dX4_got_1 rfl (Nat.le_of_ble_eq_true rfl) ?_
  refine gf_iconst (0) dX4_got_2 rfl ?_
  refine gf_istore dX4_got_3 (Nat.le_of_ble_eq_true rfl) ?_
  refine gf_lw (l_X4_got E h hG Y X ho ?_ 9 0 (by omega)) ⟨rfl, rfl, rfl, rfl, trivial⟩
  refine gf_lload_n 2 dX4_got_30 rfl rfl ?_
  exact gf_lretE dX4_got_31 rfl (rfl) (rfl)
theorem l_X4_payFrom (E : gE) {d : Nat} {o : Nat} (has due : Int64) (h : hp_T) (hG : gr h) (Y : Nat → Nat → Int64) (X : Nat → Nat → Int32) (ho : o < 9) {v : Option Value} {hz : hp_T} (K : gf E mX4_payFrom d 73 [(0, .ref (E.1 + 212)), (1, .int (nI o)), (2, .long has), (4, .long due), (6, .int (nI ((10 : Nat))))] [] (hfl h ((itN (pfB o has due) Y ((10 : Nat)))) (X)) v hz) : ∀ (kz jz : Nat), jz + kz = (10 : Nat) → gf E mX4_payFrom d 14 [(0, .ref (E.1 + 212)), (1, .int (nI o)), (2, .long has), (4, .long due), (6, .int (nI (jz)))] [] (hfl h ((itN (pfB o has due) Y (jz))) (X)) v hz := by
  intro kz
  induction kz with
  | zero =>
    intro jz hj
    have hj : (10 : Nat) = jz := by omega
    subst hj
    refine gf_iload dX4_payFrom_14 rfl ?_
    refine gf_bipush (9) dX4_payFrom_16 rfl ?_
    refine gf_icmp_gt 73 dX4_payFrom_18 rfl (fun _ => ?_) (fun q => absurd (nI_lt (a := 9) (by omega) (by omega)) q)
    exact gf_lw K ⟨rfl, rfl, rfl, rfl, rfl, trivial⟩
  | succ kz ih =>
    intro jz hj
    refine gf_iload dX4_payFrom_14 rfl ?_
    refine gf_bipush (9) dX4_payFrom_16 rfl ?_
    refine gf_icmp_gt 73 dX4_payFrom_18 rfl (fun q => absurd q (fun q => nI_nlt (b := jz) (a := 9) (by omega) (by omega) q)) (fun _ => ?_)
    refine gf_aload_n 0 dX4_payFrom_21 rfl rfl ?_
    refine gf_getR flX4_11 rfl dX4_payFrom_22 (gt_212 hG) (gp_212_1 hG) ?_
    refine gf_iload_n 1 dX4_payFrom_25 rfl rfl ?_
    refine gf_rald 9 dX4_payFrom_26 (gt_213 hG) (by decide) (by decide) (gl_213 hG) rfl ho (by decide) (gq_ow hG ho) ?_
    refine gf_iload dX4_payFrom_27 rfl ?_
    refine gf_lald 10 dX4_payFrom_29 (gqt_ow hG ho) (gql_ow hG ho) rfl (by omega) (by decide) ?_
    rw [fl_ow h (itN (pfB o has due) Y (jz)) X ho]
    refine gf_lstore dX4_payFrom_30 (Nat.le_of_ble_eq_true rfl) ?_
    refine gf_aload_n 0 dX4_payFrom_32 rfl rfl ?_
    refine gf_getR flX4_19 rfl dX4_payFrom_33 (gt_212 hG) (gp_212_3 hG) ?_
    refine gf_iload_n 1 dX4_payFrom_36 rfl rfl ?_
    refine gf_rald 9 dX4_payFrom_37 (gt_233 hG) (by decide) (by decide) (gl_233 hG) rfl ho (by decide) (gq_nx hG ho) ?_
    refine gf_iload dX4_payFrom_38 rfl ?_
    refine gf_lload dX4_payFrom_40 rfl ?_
    refine gf_lconst (0) dX4_payFrom_42 rfl ?_
    refine gf_lcmp dX4_payFrom_43 ?_
    refine gf_if_le 64 dX4_payFrom_44 rfl (fun zc44 => ?_) (fun zc44 => ?_)
    · refine gf_lload dX4_payFrom_64 rfl ?_
      refine gf_last 10 dX4_payFrom_66 (gqt_nx hG ho) (gql_nx hG ho) rfl (by omega) (by decide) ?_
      refine gf_iinc (1) dX4_payFrom_67 rfl rfl (Nat.le_of_ble_eq_true rfl) ?_
      refine gf_goto 14 dX4_payFrom_70 rfl ?_
      exact gf_hE (by rw [fs_nx h _ X ho, show (itN (pfB o has due) Y (jz + 1)) = up2 (itN (pfB o has due) Y (jz)) (21 + o) jz ((itN (pfB o has due) Y (jz)) (1 + o) jz) from congrArg (up2 (itN (pfB o has due) Y (jz)) (21 + o) jz) (if_neg (fun q => by have w := zc44; rw [lg_cmp_le, fa_le64] at w; have w2 := q.1; rw [fa_lt64] at w2; omega))]) (gf_lw (ih (jz + 1) (by omega)) ⟨rfl, rfl, rfl, rfl, lvE (nI_1 jz), trivial⟩)
    · have hdue : 0 < due := by have w := zc44; rw [lg_cmp_le, fa_le64] at w; rw [fa_lt64]; omega
      refine gf_lload_n 2 dX4_payFrom_47 rfl rfl ?_
      refine gf_lload dX4_payFrom_48 rfl ?_
      refine gf_lcmp dX4_payFrom_50 ?_
      refine gf_if_ge 64 dX4_payFrom_51 rfl (fun zc51 => ?_) (fun zc51 => ?_)
      · refine gf_lload dX4_payFrom_64 rfl ?_
        refine gf_last 10 dX4_payFrom_66 (gqt_nx hG ho) (gql_nx hG ho) rfl (by omega) (by decide) ?_
        refine gf_iinc (1) dX4_payFrom_67 rfl rfl (Nat.le_of_ble_eq_true rfl) ?_
        refine gf_goto 14 dX4_payFrom_70 rfl ?_
        exact gf_hE (by rw [fs_nx h _ X ho, show (itN (pfB o has due) Y (jz + 1)) = up2 (itN (pfB o has due) Y (jz)) (21 + o) jz ((itN (pfB o has due) Y (jz)) (1 + o) jz) from congrArg (up2 (itN (pfB o has due) Y (jz)) (21 + o) jz) (if_neg (fun q => by have w := zc51; rw [lg_cmp_ge, fa_le64] at w; have w2 := q.2; rw [fa_lt64] at w2; omega))]) (gf_lw (ih (jz + 1) (by omega)) ⟨rfl, rfl, rfl, rfl, lvE (nI_1 jz), trivial⟩)
      · refine gf_lload dX4_payFrom_54 rfl ?_
        refine gf_lload_n 2 dX4_payFrom_56 rfl rfl ?_
        refine gf_lmul dX4_payFrom_57 ?_
        refine gf_lload dX4_payFrom_58 rfl ?_
        refine gf_ldiv dX4_payFrom_60 (i64_ne hdue) ?_
        refine gf_goto 66 dX4_payFrom_61 rfl ?_
        refine gf_last 10 dX4_payFrom_66 (gqt_nx hG ho) (gql_nx hG ho) rfl (by omega) (by decide) ?_
        refine gf_iinc (1) dX4_payFrom_67 rfl rfl (Nat.le_of_ble_eq_true rfl) ?_
        refine gf_goto 14 dX4_payFrom_70 rfl ?_
        exact gf_hE (by rw [fs_nx h _ X ho, show (itN (pfB o has due) Y (jz + 1)) = up2 (itN (pfB o has due) Y (jz)) (21 + o) jz (((itN (pfB o has due) Y (jz)) (1 + o) jz) * has / due) from congrArg (up2 (itN (pfB o has due) Y (jz)) (21 + o) jz) (if_pos ⟨hdue, by have w := zc51; rw [lg_cmp_ge, fa_le64] at w; rw [fa_lt64]; omega⟩)]) (gf_lw (ih (jz + 1) (by omega)) ⟨rfl, rfl, rfl, rfl, lvE (nI_1 jz), trivial⟩)
theorem e_X4_payFrom (E : gE) {d : Nat} (hd : 1 ≤ d) {o : Nat} (has : Int64) (h : hp_T) (hG : gr h) (Y : Nat → Nat → Int64) (X : Nat → Nat → Int32) (ho : o < 9) : ev E mX4_payFrom d [.ref (E.1 + 212), .int (nI o), .long has] (hfl h (Y) (X)) (none) (hfl h (pfS o has Y) (X)) := by
  refine ev_of rfl (fun q => absurd q (by decide)) (Nat.le_of_ble_eq_true rfl) ?_
  refine gf_aload_n 0 dX4_payFrom_0 rfl rfl ?_
  refine gf_getR flX4_11 rfl dX4_payFrom_1 (gt_212 hG) (gp_212_1 hG) ?_
  refine gf_iload_n 1 dX4_payFrom_4 rfl rfl ?_
  refine gf_rald 9 dX4_payFrom_5 (gt_213 hG) (by decide) (by decide) (gl_213 hG) rfl ho (by decide) (gq_ow hG ho) ?_
  refine gf_callS cmX4_sumOf lkX4_50 stX4_sumOf dX4_payFrom_6 (d1 := d - 1) (by omega) ((e_X4_sumOf E (by omega) (m := 214 + o) (N := 10) (hfl h Y X) ⟨gqt_ow hG ho, gql_ow hG ho⟩ (by omega))) rfl rfl (Nat.le_of_ble_eq_true rfl) ?_
  rw [fl_ow h Y X ho]
  refine gf_lstore dX4_payFrom_9 (Nat.le_of_ble_eq_true rfl) ?_
  refine gf_iconst (0) dX4_payFrom_11 rfl ?_
  refine gf_istore dX4_payFrom_12 (Nat.le_of_ble_eq_true rfl) ?_
  refine gf_lw (l_X4_payFrom E has (sumL (Y (1 + o)) 10) h hG Y X ho ?_ 10 0 (by omega)) ⟨rfl, rfl, rfl, rfl, rfl, trivial⟩
  exact gf_vretE dX4_payFrom_73 rfl (rfl)
