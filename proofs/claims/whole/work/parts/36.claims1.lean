/-! ===== the class: claims over one house ===== -/
/-- the longs of one cell as a function -/
def hrl (h : hp_T) (m : Nat) (f : Nat → Int64) : hp_T := (h.1, h.2.1, h.2.2.1, h.2.2.2.1, h.2.2.2.2.1, (fun x => if x = m then f else h.2.2.2.2.2.1 x), h.2.2.2.2.2.2)
theorem hrl_set (h : hp_T) (m : Nat) (f : Nat → Int64) (k : Nat) (v : Int64) : hp_setL (hrl h m f) m k v = hrl h m (va_up f k v) := by
  unfold hp_setL hrl
  refine congrArg (fun z => (h.1, h.2.1, h.2.2.1, h.2.2.2.1, h.2.2.2.2.1, z, h.2.2.2.2.2.2)) ?_
  funext x i
  by_cases hx : x = m
  · subst hx
    simp [up2, va_up]
  · simp [up2, hx]
theorem hrl_id (h : hp_T) (m : Nat) : hrl h m (hp_l h m) = h := by
  obtain ⟨a, bb, cc, dd, ee, ff, gg⟩ := h
  refine congrArg (fun z => (a, bb, cc, dd, ee, z, gg)) ?_
  funext x
  by_cases hx : x = m
  · subst hx; exact if_pos rfl
  · exact if_neg hx
/-- the heap with a claims object's cells: ints b .. b + 5, longs b + 6 -/
def hcl (h : hp_T) (b : Nat) (X : Nat → Nat → Int32) (R : Nat → Int64) : hp_T := hrl (hb h b 6 X) (b + 6) R
theorem hcl_id (h : hp_T) (b : Nat) : hcl h b (fun o => hp_i h (b + o)) (hp_l h (b + 6)) = h := by
  show hrl (hb h b 6 (fun o => hp_i h (b + o))) (b + 6) (hp_l h (b + 6)) = h
  rw [hb_id, hrl_id]
/-- what an act's office's terms say of standing beside -/
def besB (h : hp_T) (k : Int32) (a : Nat) : Bool := match hp_r h 166 (hp_i h 159 a).toNatClampNeg with
  | none => false
  | some b => decide (hp_i h b 6 = k)
def mn2 (x y : Int32) : Int32 := if y < x then y else x
def herI (h : hp_T) (n : Nat) (X : Nat → Nat → Int32) : Prop := X 0 9 = nI n ∧ n ≤ 200 ∧ ∀ i, i < n → ∃ a x, a < 201 ∧ X 5 i = nI a ∧ x < 9 ∧ hp_i h 159 a = nI x
def tagT (h : hp_T) : Prop := ∀ x, x < 9 → ∀ b, hp_r h 166 x = some b → 333 ≤ b ∧ hp_tag h b = 10
def pitB (B : Nat → Bool) (hr : Nat → Int32) (z : (Nat → Nat → Int32) × Int32) (i : Nat) : (Nat → Nat → Int32) × Int32 :=
  if B (hr i).toNatClampNeg = true then (up2 z.1 3 (hr i).toNatClampNeg (mn2 (z.1 2 (hr i).toNatClampNeg) z.2), z.2 - mn2 (z.1 2 (hr i).toNatClampNeg) z.2) else z
def pitS (B : Nat → Bool) (X : Nat → Nat → Int32) (left : Int32) (n : Nat) : (Nat → Nat → Int32) × Int32 := itN (pitB B (X 5)) (X, left) n
theorem pitB_t {B : Nat → Bool} {hr : Nat → Int32} {z : (Nat → Nat → Int32) × Int32} {i a : Nat} (e : hr i = nI a) (ha : a < 201) (hB : B a = true) : pitB B hr z i = (up2 z.1 3 a (mn2 (z.1 2 a) z.2), z.2 - mn2 (z.1 2 a) z.2) := by
  unfold pitB; rw [e, nI_clamp (by omega), if_pos hB]
theorem pitB_f {B : Nat → Bool} {hr : Nat → Int32} {z : (Nat → Nat → Int32) × Int32} {i a : Nat} (e : hr i = nI a) (ha : a < 201) (hB : ¬ B a = true) : pitB B hr z i = z := by
  unfold pitB; rw [e, nI_clamp (by omega), if_neg hB]
theorem pitB_row {B : Nat → Bool} {hr : Nat → Int32} (z : (Nat → Nat → Int32) × Int32) (i : Nat) {r : Nat} (h3 : r ≠ 3) : (pitB B hr z i).1 r = z.1 r := by
  unfold pitB
  split
  · exact up2_row h3
  · rfl
theorem pitS_row (B : Nat → Bool) (X : Nat → Nat → Int32) (left : Int32) {r : Nat} (h3 : r ≠ 3) : ∀ n, (pitS B X left n).1 r = X r
  | 0 => rfl
  | n + 1 => (pitB_row _ _ h3).trans (pitS_row B X left h3 n)
def togB (B : Nat → Bool) (X : Nat → Nat → Int32) (t : Int32) (i : Nat) : Int32 := if B (X 5 i).toNatClampNeg = true then t + X 2 (X 5 i).toNatClampNeg else t
def flV (left tog ask : Int32) : Int32 := (left.toInt64 * ask.toInt64 / tog.toInt64).toInt32
def flR (left tog ask : Int32) : Int64 := left.toInt64 * ask.toInt64 - left.toInt64 * ask.toInt64 / tog.toInt64 * tog.toInt64
abbrev fS : Type := (Nat → Nat → Int32) × (Nat → Int64)
def flB (B : Nat → Bool) (left tog : Int32) (hr : Nat → Int32) (z : fS × Int32) (i : Nat) : fS × Int32 :=
  if 0 < tog ∧ B (hr i).toNatClampNeg = true then ((up2 z.1.1 3 (hr i).toNatClampNeg (flV left tog (z.1.1 2 (hr i).toNatClampNeg)), va_up (va_up z.1.2 i (-1)) i (flR left tog (z.1.1 2 (hr i).toNatClampNeg))), z.2 - flV left tog (z.1.1 2 (hr i).toNatClampNeg)) else ((z.1.1, va_up z.1.2 i (-1)), z.2)
def flS (B : Nat → Bool) (left tog : Int32) (S : fS) (n : Nat) : fS × Int32 := itN (flB B left tog (S.1 5)) (S, left) n
theorem flB_t {B : Nat → Bool} {left tog : Int32} {hr : Nat → Int32} {z : fS × Int32} {i a : Nat} (e : hr i = nI a) (ha : a < 201) (ht : 0 < tog) (hB : B a = true) : flB B left tog hr z i = ((up2 z.1.1 3 a (flV left tog (z.1.1 2 a)), va_up (va_up z.1.2 i (-1)) i (flR left tog (z.1.1 2 a))), z.2 - flV left tog (z.1.1 2 a)) := by
  unfold flB; rw [e, nI_clamp (by omega), if_pos ⟨ht, hB⟩]
theorem flB_f {B : Nat → Bool} {left tog : Int32} {hr : Nat → Int32} {z : fS × Int32} {i a : Nat} (e : hr i = nI a) (ha : a < 201) (hB : ¬ (0 < tog ∧ B a = true)) : flB B left tog hr z i = ((z.1.1, va_up z.1.2 i (-1)), z.2) := by
  unfold flB; rw [e, nI_clamp (by omega), if_neg hB]
theorem flB_row {B : Nat → Bool} {left tog : Int32} {hr : Nat → Int32} (z : fS × Int32) (i : Nat) {r : Nat} (h3 : r ≠ 3) : (flB B left tog hr z i).1.1 r = z.1.1 r := by
  unfold flB
  split
  · exact up2_row h3
  · rfl
theorem flS_row (B : Nat → Bool) (left tog : Int32) (S : fS) {r : Nat} (h3 : r ≠ 3) : ∀ n, (flS B left tog S n).1.1 r = S.1 r
  | 0 => rfl
  | n + 1 => (flB_row _ _ h3).trans (flS_row B left tog S h3 n)
/-- which of the first k + 1 rests is the greatest, the first of equal ones -/
def greS (R : Nat → Int64) (k : Nat) : Nat := itN (fun g i => if R g < R (i + 1) then i + 1 else g) 0 k
theorem greS_le (R : Nat → Int64) : ∀ k, greS R k ≤ k
  | 0 => Nat.le_refl _
  | k + 1 => by
    show (if R (greS R k) < R (k + 1) then k + 1 else greS R k) ≤ k + 1
    have := greS_le R k
    split <;> omega
def prB (n : Nat) (z : fS) (_ : Nat) : fS := (up2 z.1 3 (z.1 5 (greS z.2 (n - 1))).toNatClampNeg (z.1 3 (z.1 5 (greS z.2 (n - 1))).toNatClampNeg + 1), va_up z.2 (greS z.2 (n - 1)) (-1))
def prS (n : Nat) (S : fS) (m : Nat) : fS := itN (prB n) S m
theorem prS_row (n : Nat) (S : fS) {r : Nat} (h3 : r ≠ 3) : ∀ m, (prS n S m).1 r = S.1 r
  | 0 => rfl
  | m + 1 => (up2_row h3).trans (prS_row n S h3 m)
def pbpT (B : Nat → Bool) (X : Nat → Nat → Int32) (n : Nat) : Int32 := itN (togB B X) 0 n
def pbpS (B : Nat → Bool) (S : fS) (left : Int32) (n : Nat) : fS × Int32 :=
  if left < pbpT B S.1 n then (prS n (flS B left (pbpT B S.1 n) S n).1 (min (flS B left (pbpT B S.1 n) S n).2.toNatClampNeg n), 0)
  else (((pitS B S.1 left n).1, S.2), (pitS B S.1 left n).2)
theorem nI_min_go {x : Int32} {n k : Nat} (h : k < min x.toNatClampNeg n) : ¬ x ≤ nI k ∧ k < n := by
  refine ⟨?_, by omega⟩
  by_cases h0 : x < 0
  · have e : x.toNatClampNeg = x.toInt.toNat := rfl
    rw [fa_lt, ti_0] at h0
    omega
  · obtain ⟨j, hj, e⟩ := nI_of h0
    subst e
    rw [nI_clamp hj] at h
    exact nI_ge (by omega) hj
theorem nI_min_end {x : Int32} {n : Nat} (h : ¬ x ≤ nI (min x.toNatClampNeg n)) (h2 : min x.toNatClampNeg n < n) : False := by
  by_cases h0 : x < 0
  · have e : x.toNatClampNeg = x.toInt.toNat := rfl
    have h1 := h0
    rw [fa_lt, ti_0] at h1
    apply h
    rw [show min x.toNatClampNeg n = 0 by omega]
    exact (fa_of_lt h0).1
  · obtain ⟨j, hj, e⟩ := nI_of h0
    subst e
    rw [nI_clamp hj] at h h2
    apply h
    rw [show min j n = j by omega]
    exact Int32.le_refl _
theorem hc186_0 (h : hp_T) (X : Nat → Nat → Int32) (R : Nat → Int64) (k : Nat) (v : Int32) : hp_setI (hcl h 186 X R) 186 k v = hcl h 186 (up2 X 0 k v) R := by
  show hrl (hp_setI (hb h 186 6 X) 186 k v) 192 R = _
  rw [show hp_setI (hb h 186 6 X) 186 k v = hb h 186 6 (up2 X 0 k v) from hb_set h (b := 186) (n := 6) (o := 0) X (by decide) k v]
  rfl
theorem hc186_1 (h : hp_T) (X : Nat → Nat → Int32) (R : Nat → Int64) (k : Nat) (v : Int32) : hp_setI (hcl h 186 X R) 187 k v = hcl h 186 (up2 X 1 k v) R := by
  show hrl (hp_setI (hb h 186 6 X) 187 k v) 192 R = _
  rw [show hp_setI (hb h 186 6 X) 187 k v = hb h 186 6 (up2 X 1 k v) from hb_set h (b := 186) (n := 6) (o := 1) X (by decide) k v]
  rfl
theorem hc186_2 (h : hp_T) (X : Nat → Nat → Int32) (R : Nat → Int64) (k : Nat) (v : Int32) : hp_setI (hcl h 186 X R) 188 k v = hcl h 186 (up2 X 2 k v) R := by
  show hrl (hp_setI (hb h 186 6 X) 188 k v) 192 R = _
  rw [show hp_setI (hb h 186 6 X) 188 k v = hb h 186 6 (up2 X 2 k v) from hb_set h (b := 186) (n := 6) (o := 2) X (by decide) k v]
  rfl
theorem hc186_3 (h : hp_T) (X : Nat → Nat → Int32) (R : Nat → Int64) (k : Nat) (v : Int32) : hp_setI (hcl h 186 X R) 189 k v = hcl h 186 (up2 X 3 k v) R := by
  show hrl (hp_setI (hb h 186 6 X) 189 k v) 192 R = _
  rw [show hp_setI (hb h 186 6 X) 189 k v = hb h 186 6 (up2 X 3 k v) from hb_set h (b := 186) (n := 6) (o := 3) X (by decide) k v]
  rfl
theorem hc186_4 (h : hp_T) (X : Nat → Nat → Int32) (R : Nat → Int64) (k : Nat) (v : Int32) : hp_setI (hcl h 186 X R) 190 k v = hcl h 186 (up2 X 4 k v) R := by
  show hrl (hp_setI (hb h 186 6 X) 190 k v) 192 R = _
  rw [show hp_setI (hb h 186 6 X) 190 k v = hb h 186 6 (up2 X 4 k v) from hb_set h (b := 186) (n := 6) (o := 4) X (by decide) k v]
  rfl
theorem hc186_5 (h : hp_T) (X : Nat → Nat → Int32) (R : Nat → Int64) (k : Nat) (v : Int32) : hp_setI (hcl h 186 X R) 191 k v = hcl h 186 (up2 X 5 k v) R := by
  show hrl (hp_setI (hb h 186 6 X) 191 k v) 192 R = _
  rw [show hp_setI (hb h 186 6 X) 191 k v = hb h 186 6 (up2 X 5 k v) from hb_set h (b := 186) (n := 6) (o := 5) X (by decide) k v]
  rfl
theorem hc186_6 (h : hp_T) (X : Nat → Nat → Int32) (R : Nat → Int64) (k : Nat) (v : Int64) : hp_setL (hcl h 186 X R) 192 k v = hcl h 186 X (va_up R k v) := hrl_set _ _ _ _ _
theorem hcT186 {h : hp_T} (X : Nat → Nat → Int32) (R : Nat → Int64) {a : Nat} (ha : 333 ≤ a) : hp_i (hcl h 186 X R) a = hp_i h a := if_neg (by omega)
theorem e_X2_isBeside_186 (E : gE) {d : Nat} (hd : 0 ≤ d) {a x : Nat} (k : Int32) (h : hp_T) (hG : gr h) (X : Nat → Nat → Int32) (R : Nat → Int64) (hT : tagT h) (ha : a < 201) (hx9 : x < 9) (hx : hp_i h 159 a = nI x) : ev E mX2_isBeside d [.ref (E.1 + 186), .int (nI a), .int k] (hcl h 186 X R) (some (.int (zb (besB h k a = true)))) (hcl h 186 X R) := by
  have eB : besB h k a = (match hp_r h 166 x with | none => false | some b => decide (hp_i h b 6 = k)) := by unfold besB; rw [hx, nI_clamp (by omega)]
  rw [eB]
  refine ev_of rfl (fun q => absurd q (by decide)) (Nat.le_of_ble_eq_true rfl) ?_
  cases e : hp_r h 166 x with
  | none =>
    refine gf_aload_n 0 dX2_isBeside_0 rfl rfl ?_
    refine gf_getR flX2_36 rfl dX2_isBeside_1 (gt_186 hG) (gp_186_5 hG) ?_
    refine gf_getR flX2_95 rfl dX2_isBeside_4 (gt_165 hG) (gp_165_1 hG) ?_
    refine gf_aload_n 0 dX2_isBeside_7 rfl rfl ?_
    refine gf_getR flX2_32 rfl dX2_isBeside_8 (gt_186 hG) (gp_186_4 hG) ?_
    refine gf_getR flX2_71 rfl dX2_isBeside_11 (gt_158 hG) (gp_158_2 hG) ?_
    refine gf_iload_n 1 dX2_isBeside_14 rfl rfl ?_
    refine gf_iald 201 dX2_isBeside_15 (gt_159 hG) (gl_159 hG) rfl ha (by decide) ?_
    refine gf_rald 9 dX2_isBeside_16 (gt_166 hG) (by decide) (by decide) (gl_166 hG) hx hx9 (by decide) e ?_
    refine gf_astore_nN 3 dX2_isBeside_17 rfl (Nat.le_of_ble_eq_true rfl) ?_
    refine gf_aload_nN 3 dX2_isBeside_18 rfl rfl ?_
    refine gf_ifnull_yes 34 dX2_isBeside_19 rfl ?_
    refine gf_iconst (0) dX2_isBeside_34 rfl ?_
    exact gf_zretE dX2_isBeside_35 rfl (rfl) ((zb_f (fun q => Bool.noConfusion (show false = true from q))).symm) (rfl)
  | some b' =>
    obtain ⟨hb3, hbt⟩ := hT x hx9 b' e
    refine gf_aload_n 0 dX2_isBeside_0 rfl rfl ?_
    refine gf_getR flX2_36 rfl dX2_isBeside_1 (gt_186 hG) (gp_186_5 hG) ?_
    refine gf_getR flX2_95 rfl dX2_isBeside_4 (gt_165 hG) (gp_165_1 hG) ?_
    refine gf_aload_n 0 dX2_isBeside_7 rfl rfl ?_
    refine gf_getR flX2_32 rfl dX2_isBeside_8 (gt_186 hG) (gp_186_4 hG) ?_
    refine gf_getR flX2_71 rfl dX2_isBeside_11 (gt_158 hG) (gp_158_2 hG) ?_
    refine gf_iload_n 1 dX2_isBeside_14 rfl rfl ?_
    refine gf_iald 201 dX2_isBeside_15 (gt_159 hG) (gl_159 hG) rfl ha (by decide) ?_
    refine gf_rald 9 dX2_isBeside_16 (gt_166 hG) (by decide) (by decide) (gl_166 hG) hx hx9 (by decide) e ?_
    refine gf_astore_n 3 dX2_isBeside_17 rfl (Nat.le_of_ble_eq_true rfl) ?_
    refine gf_aload_n 3 dX2_isBeside_18 rfl rfl ?_
    refine gf_ifnull_no dX2_isBeside_19 ?_
    refine gf_aload_n 3 dX2_isBeside_22 rfl rfl ?_
    refine gf_getI flX2_111 rfl dX2_isBeside_23 hbt ?_
    rw [hcT186 X R hb3]
    refine gf_iload_n 2 dX2_isBeside_26 rfl rfl ?_
    refine gf_icmp_ne 34 dX2_isBeside_27 rfl (fun zc27 => ?_) (fun zc27 => ?_)
    · refine gf_iconst (0) dX2_isBeside_34 rfl ?_
      exact gf_zretE dX2_isBeside_35 rfl (rfl) ((zb_f (fun q => zc27 (of_decide_eq_true q))).symm) (rfl)
    · refine gf_iconst (1) dX2_isBeside_30 rfl ?_
      refine gf_goto 35 dX2_isBeside_31 rfl ?_
      exact gf_zretE dX2_isBeside_35 rfl (rfl) ((zb_t (decide_eq_true zc27)).symm) (rfl)
theorem l_X2_payInTurn_186 (E : gE) {d : Nat} (hd : 1 ≤ d) {n : Nat} (k left : Int32) (h : hp_T) (hG : gr h) (X : Nat → Nat → Int32) (R : Nat → Int64) (hT : tagT h) (I : herI h n X) {v : Option Value} {hz : hp_T} (K : gf E mX2_payInTurn d 78 [(0, .ref (E.1 + 186)), (1, .int k), (2, .int left), (3, .int (pitS (besB h k) X left (n)).2), (4, .int (nI (n)))] [] (hcl h 186 (pitS (besB h k) X left (n)).1 R) v hz) : ∀ (kz jz : Nat), jz + kz = n → gf E mX2_payInTurn d 5 [(0, .ref (E.1 + 186)), (1, .int k), (2, .int left), (3, .int (pitS (besB h k) X left (jz)).2), (4, .int (nI (jz)))] [] (hcl h 186 (pitS (besB h k) X left (jz)).1 R) v hz := by
  obtain ⟨hn, hn2, hh⟩ := I
  intro kz
  induction kz with
  | zero =>
    intro jz hj
    have hj : n = jz := by omega
    subst hj
    refine gf_iload dX2_payInTurn_5 rfl ?_
    refine gf_aload_n 0 dX2_payInTurn_7 rfl rfl ?_
    refine gf_getI flX2_82 rfl dX2_payInTurn_8 (gt_186 hG) ?_
    refine gf_icmp_ge 78 dX2_payInTurn_11 rfl (fun _ => ?_) (fun q => absurd (by rw [show hp_i (hcl h 186 (pitS (besB h k) X left (n)).1 R) 186 9 = nI n from (congrFun (pitS_row _ _ _ (by decide) _) 9).trans hn]; exact Int32.le_refl _) q)
    exact gf_lw K ⟨rfl, rfl, rfl, rfl, rfl, trivial⟩
  | succ kz ih =>
    intro jz hj
    obtain ⟨a, x, ha, ea, hx9, hx⟩ := hh jz (by omega)
    have e5 : (pitS (besB h k) X left (jz)).1 5 jz = nI a := by rw [pitS_row _ _ _ (by decide)]; exact ea
    have hS1 : (pitS (besB h k) X left (jz + 1)) = pitB (besB h k) (X 5) (pitS (besB h k) X left (jz)) jz := rfl
    refine gf_iload dX2_payInTurn_5 rfl ?_
    refine gf_aload_n 0 dX2_payInTurn_7 rfl rfl ?_
    refine gf_getI flX2_82 rfl dX2_payInTurn_8 (gt_186 hG) ?_
    refine gf_icmp_ge 78 dX2_payInTurn_11 rfl (fun q => absurd q (by rw [show hp_i (hcl h 186 (pitS (besB h k) X left (jz)).1 R) 186 9 = nI n from (congrFun (pitS_row _ _ _ (by decide) _) 9).trans hn]; exact nI_ge (by omega) (by omega))) (fun _ => ?_)
    refine gf_aload_n 0 dX2_payInTurn_14 rfl rfl ?_
    refine gf_aload_n 0 dX2_payInTurn_15 rfl rfl ?_
    refine gf_getR flX2_25 rfl dX2_payInTurn_16 (gt_186 hG) (gp_186_7 hG) ?_
    refine gf_iload dX2_payInTurn_19 rfl ?_
    refine gf_iald 200 dX2_payInTurn_21 (gt_191 hG) (gl_191 hG) rfl (by omega) (by decide) ?_
    rw [show hp_i (hcl h 186 (pitS (besB h k) X left (jz)).1 R) 191 jz = nI a from e5]
    refine gf_iload_n 1 dX2_payInTurn_22 rfl rfl ?_
    refine gf_callV cmX2_isBeside lkX2_116 imX2_isBeside seX2_isBeside ⟨rfl, by decide⟩ dX2_payInTurn_23 (d1 := d - 1) (by omega) (gt_186 hG) (e_X2_isBeside_186 E (by omega) k h hG (pitS (besB h k) X left (jz)).1 R hT ha hx9 hx) rfl rfl (Nat.le_of_ble_eq_true rfl) ?_
    refine gf_if_eq 72 dX2_payInTurn_26 rfl (fun zc26 => ?_) (fun zc26 => ?_)
    · refine gf_iinc (1) dX2_payInTurn_72 rfl rfl (Nat.le_of_ble_eq_true rfl) ?_
      refine gf_goto 5 dX2_payInTurn_75 rfl ?_
      exact gf_hE (by rw [hS1, pitB_f ea ha (zb_0.mp zc26)]) (gf_lw (ih (jz + 1) (by omega)) ⟨rfl, rfl, rfl, lvE (by rw [hS1, pitB_f ea ha (zb_0.mp zc26)]), lvE (nI_1 jz), trivial⟩)
    · refine gf_aload_n 0 dX2_payInTurn_29 rfl rfl ?_
      refine gf_getR flX2_19 rfl dX2_payInTurn_30 (gt_186 hG) (gp_186_2 hG) ?_
      refine gf_aload_n 0 dX2_payInTurn_33 rfl rfl ?_
      refine gf_getR flX2_25 rfl dX2_payInTurn_34 (gt_186 hG) (gp_186_7 hG) ?_
      refine gf_iload dX2_payInTurn_37 rfl ?_
      refine gf_iald 200 dX2_payInTurn_39 (gt_191 hG) (gl_191 hG) rfl (by omega) (by decide) ?_
      refine gf_aload_n 0 dX2_payInTurn_40 rfl rfl ?_
      refine gf_getR flX2_15 rfl dX2_payInTurn_41 (gt_186 hG) (gp_186_1 hG) ?_
      refine gf_aload_n 0 dX2_payInTurn_44 rfl rfl ?_
      refine gf_getR flX2_25 rfl dX2_payInTurn_45 (gt_186 hG) (gp_186_7 hG) ?_
      refine gf_iload dX2_payInTurn_48 rfl ?_
      refine gf_iald 200 dX2_payInTurn_50 (gt_191 hG) (gl_191 hG) rfl (by omega) (by decide) ?_
      refine gf_iald 201 dX2_payInTurn_51 (gt_188 hG) (gl_188 hG) e5 (by omega) (by decide) ?_
      refine gf_iload_n 3 dX2_payInTurn_52 rfl rfl ?_
      refine gf_min lkX2_120 kMmin.1 kMmin.2.1 kMmin.2.2 dX2_payInTurn_53 (by omega) (Nat.le_of_ble_eq_true rfl) ?_
      rw [show (if (pitS (besB h k) X left (jz)).2 < hp_i (hcl h 186 (pitS (besB h k) X left (jz)).1 R) 188 a then (pitS (besB h k) X left (jz)).2 else hp_i (hcl h 186 (pitS (besB h k) X left (jz)).1 R) 188 a) = (mn2 ((pitS (besB h k) X left (jz)).1 2 a) (pitS (besB h k) X left (jz)).2) from rfl]
      refine gf_iast 201 dX2_payInTurn_56 (gt_189 hG) (gl_189 hG) e5 (by omega) (by decide) ?_
      rw [hc186_3]
      refine gf_iload_n 3 dX2_payInTurn_57 rfl rfl ?_
      refine gf_aload_n 0 dX2_payInTurn_58 rfl rfl ?_
      refine gf_getR flX2_19 rfl dX2_payInTurn_59 (gt_186 hG) (gp_186_2 hG) ?_
      refine gf_aload_n 0 dX2_payInTurn_62 rfl rfl ?_
      refine gf_getR flX2_25 rfl dX2_payInTurn_63 (gt_186 hG) (gp_186_7 hG) ?_
      refine gf_iload dX2_payInTurn_66 rfl ?_
      refine gf_iald 200 dX2_payInTurn_68 (gt_191 hG) (gl_191 hG) rfl (by omega) (by decide) ?_
      refine gf_iald 201 dX2_payInTurn_69 (gt_189 hG) (gl_189 hG) e5 (by omega) (by decide) ?_
      rw [show hp_i (hcl h 186 (up2 (pitS (besB h k) X left (jz)).1 3 a (mn2 ((pitS (besB h k) X left (jz)).1 2 a) (pitS (besB h k) X left (jz)).2)) R) 189 a = (mn2 ((pitS (besB h k) X left (jz)).1 2 a) (pitS (besB h k) X left (jz)).2) from up2_s _ _ _ _]
      refine gf_isub dX2_payInTurn_70 ?_
      refine gf_istore_n 3 dX2_payInTurn_71 rfl (Nat.le_of_ble_eq_true rfl) ?_
      refine gf_iinc (1) dX2_payInTurn_72 rfl rfl (Nat.le_of_ble_eq_true rfl) ?_
      refine gf_goto 5 dX2_payInTurn_75 rfl ?_
      exact gf_hE (by rw [hS1, pitB_t ea ha (zb_1.mp zc26)]) (gf_lw (ih (jz + 1) (by omega)) ⟨rfl, rfl, rfl, lvE (by rw [hS1, pitB_t ea ha (zb_1.mp zc26)]), lvE (nI_1 jz), trivial⟩)
theorem e_X2_payInTurn_186 (E : gE) {d : Nat} (hd : 1 ≤ d) {n : Nat} (k left : Int32) (h : hp_T) (hG : gr h) (X : Nat → Nat → Int32) (R : Nat → Int64) (hT : tagT h) (I : herI h n X) : ev E mX2_payInTurn d [.ref (E.1 + 186), .int k, .int left] (hcl h 186 X R) (some (.int (pitS (besB h k) X left (n)).2)) (hcl h 186 (pitS (besB h k) X left (n)).1 R) := by
  refine ev_of rfl (fun q => absurd q (by decide)) (Nat.le_of_ble_eq_true rfl) ?_
  refine gf_iload_n 2 dX2_payInTurn_0 rfl rfl ?_
  refine gf_istore_n 3 dX2_payInTurn_1 rfl (Nat.le_of_ble_eq_true rfl) ?_
  refine gf_iconst (0) dX2_payInTurn_2 rfl ?_
  refine gf_istore dX2_payInTurn_3 (Nat.le_of_ble_eq_true rfl) ?_
  refine gf_lw (l_X2_payInTurn_186 E hd k left h hG X R hT I ?_ n 0 (by omega)) ⟨rfl, rfl, rfl, rfl, rfl, trivial⟩
  refine gf_iload_n 3 dX2_payInTurn_78 rfl rfl ?_
  exact gf_iretE dX2_payInTurn_79 rfl (rfl) (rfl)
theorem hc205_0 (h : hp_T) (X : Nat → Nat → Int32) (R : Nat → Int64) (k : Nat) (v : Int32) : hp_setI (hcl h 205 X R) 205 k v = hcl h 205 (up2 X 0 k v) R := by
  show hrl (hp_setI (hb h 205 6 X) 205 k v) 211 R = _
  rw [show hp_setI (hb h 205 6 X) 205 k v = hb h 205 6 (up2 X 0 k v) from hb_set h (b := 205) (n := 6) (o := 0) X (by decide) k v]
  rfl
theorem hc205_1 (h : hp_T) (X : Nat → Nat → Int32) (R : Nat → Int64) (k : Nat) (v : Int32) : hp_setI (hcl h 205 X R) 206 k v = hcl h 205 (up2 X 1 k v) R := by
  show hrl (hp_setI (hb h 205 6 X) 206 k v) 211 R = _
  rw [show hp_setI (hb h 205 6 X) 206 k v = hb h 205 6 (up2 X 1 k v) from hb_set h (b := 205) (n := 6) (o := 1) X (by decide) k v]
  rfl
theorem hc205_2 (h : hp_T) (X : Nat → Nat → Int32) (R : Nat → Int64) (k : Nat) (v : Int32) : hp_setI (hcl h 205 X R) 207 k v = hcl h 205 (up2 X 2 k v) R := by
  show hrl (hp_setI (hb h 205 6 X) 207 k v) 211 R = _
  rw [show hp_setI (hb h 205 6 X) 207 k v = hb h 205 6 (up2 X 2 k v) from hb_set h (b := 205) (n := 6) (o := 2) X (by decide) k v]
  rfl
theorem hc205_3 (h : hp_T) (X : Nat → Nat → Int32) (R : Nat → Int64) (k : Nat) (v : Int32) : hp_setI (hcl h 205 X R) 208 k v = hcl h 205 (up2 X 3 k v) R := by
  show hrl (hp_setI (hb h 205 6 X) 208 k v) 211 R = _
  rw [show hp_setI (hb h 205 6 X) 208 k v = hb h 205 6 (up2 X 3 k v) from hb_set h (b := 205) (n := 6) (o := 3) X (by decide) k v]
  rfl
theorem hc205_4 (h : hp_T) (X : Nat → Nat → Int32) (R : Nat → Int64) (k : Nat) (v : Int32) : hp_setI (hcl h 205 X R) 209 k v = hcl h 205 (up2 X 4 k v) R := by
  show hrl (hp_setI (hb h 205 6 X) 209 k v) 211 R = _
  rw [show hp_setI (hb h 205 6 X) 209 k v = hb h 205 6 (up2 X 4 k v) from hb_set h (b := 205) (n := 6) (o := 4) X (by decide) k v]
  rfl
theorem hc205_5 (h : hp_T) (X : Nat → Nat → Int32) (R : Nat → Int64) (k : Nat) (v : Int32) : hp_setI (hcl h 205 X R) 210 k v = hcl h 205 (up2 X 5 k v) R := by
  show hrl (hp_setI (hb h 205 6 X) 210 k v) 211 R = _
  rw [show hp_setI (hb h 205 6 X) 210 k v = hb h 205 6 (up2 X 5 k v) from hb_set h (b := 205) (n := 6) (o := 5) X (by decide) k v]
  rfl
theorem hc205_6 (h : hp_T) (X : Nat → Nat → Int32) (R : Nat → Int64) (k : Nat) (v : Int64) : hp_setL (hcl h 205 X R) 211 k v = hcl h 205 X (va_up R k v) := hrl_set _ _ _ _ _
theorem hcT205 {h : hp_T} (X : Nat → Nat → Int32) (R : Nat → Int64) {a : Nat} (ha : 333 ≤ a) : hp_i (hcl h 205 X R) a = hp_i h a := if_neg (by omega)
theorem e_X2_isBeside_205 (E : gE) {d : Nat} (hd : 0 ≤ d) {a x : Nat} (k : Int32) (h : hp_T) (hG : gr h) (X : Nat → Nat → Int32) (R : Nat → Int64) (hT : tagT h) (ha : a < 201) (hx9 : x < 9) (hx : hp_i h 159 a = nI x) : ev E mX2_isBeside d [.ref (E.1 + 205), .int (nI a), .int k] (hcl h 205 X R) (some (.int (zb (besB h k a = true)))) (hcl h 205 X R) := by
  have eB : besB h k a = (match hp_r h 166 x with | none => false | some b => decide (hp_i h b 6 = k)) := by unfold besB; rw [hx, nI_clamp (by omega)]
  rw [eB]
  refine ev_of rfl (fun q => absurd q (by decide)) (Nat.le_of_ble_eq_true rfl) ?_
  cases e : hp_r h 166 x with
  | none =>
    refine gf_aload_n 0 dX2_isBeside_0 rfl rfl ?_
    refine gf_getR flX2_36 rfl dX2_isBeside_1 (gt_205 hG) (gp_205_5 hG) ?_
    refine gf_getR flX2_95 rfl dX2_isBeside_4 (gt_165 hG) (gp_165_1 hG) ?_
    refine gf_aload_n 0 dX2_isBeside_7 rfl rfl ?_
    refine gf_getR flX2_32 rfl dX2_isBeside_8 (gt_205 hG) (gp_205_4 hG) ?_
    refine gf_getR flX2_71 rfl dX2_isBeside_11 (gt_158 hG) (gp_158_2 hG) ?_
    refine gf_iload_n 1 dX2_isBeside_14 rfl rfl ?_
    refine gf_iald 201 dX2_isBeside_15 (gt_159 hG) (gl_159 hG) rfl ha (by decide) ?_
    refine gf_rald 9 dX2_isBeside_16 (gt_166 hG) (by decide) (by decide) (gl_166 hG) hx hx9 (by decide) e ?_
    refine gf_astore_nN 3 dX2_isBeside_17 rfl (Nat.le_of_ble_eq_true rfl) ?_
    refine gf_aload_nN 3 dX2_isBeside_18 rfl rfl ?_
    refine gf_ifnull_yes 34 dX2_isBeside_19 rfl ?_
    refine gf_iconst (0) dX2_isBeside_34 rfl ?_
    exact gf_zretE dX2_isBeside_35 rfl (rfl) ((zb_f (fun q => Bool.noConfusion (show false = true from q))).symm) (rfl)
  | some b' =>
    obtain ⟨hb3, hbt⟩ := hT x hx9 b' e
    refine gf_aload_n 0 dX2_isBeside_0 rfl rfl ?_
    refine gf_getR flX2_36 rfl dX2_isBeside_1 (gt_205 hG) (gp_205_5 hG) ?_
    refine gf_getR flX2_95 rfl dX2_isBeside_4 (gt_165 hG) (gp_165_1 hG) ?_
    refine gf_aload_n 0 dX2_isBeside_7 rfl rfl ?_
    refine gf_getR flX2_32 rfl dX2_isBeside_8 (gt_205 hG) (gp_205_4 hG) ?_
    refine gf_getR flX2_71 rfl dX2_isBeside_11 (gt_158 hG) (gp_158_2 hG) ?_
    refine gf_iload_n 1 dX2_isBeside_14 rfl rfl ?_
    refine gf_iald 201 dX2_isBeside_15 (gt_159 hG) (gl_159 hG) rfl ha (by decide) ?_
    refine gf_rald 9 dX2_isBeside_16 (gt_166 hG) (by decide) (by decide) (gl_166 hG) hx hx9 (by decide) e ?_
    refine gf_astore_n 3 dX2_isBeside_17 rfl (Nat.le_of_ble_eq_true rfl) ?_
    refine gf_aload_n 3 dX2_isBeside_18 rfl rfl ?_
    refine gf_ifnull_no dX2_isBeside_19 ?_
    refine gf_aload_n 3 dX2_isBeside_22 rfl rfl ?_
    refine gf_getI flX2_111 rfl dX2_isBeside_23 hbt ?_
    rw [hcT205 X R hb3]
    refine gf_iload_n 2 dX2_isBeside_26 rfl rfl ?_
    refine gf_icmp_ne 34 dX2_isBeside_27 rfl (fun zc27 => ?_) (fun zc27 => ?_)
    · refine gf_iconst (0) dX2_isBeside_34 rfl ?_
      exact gf_zretE dX2_isBeside_35 rfl (rfl) ((zb_f (fun q => zc27 (of_decide_eq_true q))).symm) (rfl)
    · refine gf_iconst (1) dX2_isBeside_30 rfl ?_
      refine gf_goto 35 dX2_isBeside_31 rfl ?_
      exact gf_zretE dX2_isBeside_35 rfl (rfl) ((zb_t (decide_eq_true zc27)).symm) (rfl)
theorem l_X2_payInTurn_205 (E : gE) {d : Nat} (hd : 1 ≤ d) {n : Nat} (k left : Int32) (h : hp_T) (hG : gr h) (X : Nat → Nat → Int32) (R : Nat → Int64) (hT : tagT h) (I : herI h n X) {v : Option Value} {hz : hp_T} (K : gf E mX2_payInTurn d 78 [(0, .ref (E.1 + 205)), (1, .int k), (2, .int left), (3, .int (pitS (besB h k) X left (n)).2), (4, .int (nI (n)))] [] (hcl h 205 (pitS (besB h k) X left (n)).1 R) v hz) : ∀ (kz jz : Nat), jz + kz = n → gf E mX2_payInTurn d 5 [(0, .ref (E.1 + 205)), (1, .int k), (2, .int left), (3, .int (pitS (besB h k) X left (jz)).2), (4, .int (nI (jz)))] [] (hcl h 205 (pitS (besB h k) X left (jz)).1 R) v hz := by
  obtain ⟨hn, hn2, hh⟩ := I
  intro kz
  induction kz with
  | zero =>
    intro jz hj
    have hj : n = jz := by omega
    subst hj
    refine gf_iload dX2_payInTurn_5 rfl ?_
    refine gf_aload_n 0 dX2_payInTurn_7 rfl rfl ?_
    refine gf_getI flX2_82 rfl dX2_payInTurn_8 (gt_205 hG) ?_
    refine gf_icmp_ge 78 dX2_payInTurn_11 rfl (fun _ => ?_) (fun q => absurd (by rw [show hp_i (hcl h 205 (pitS (besB h k) X left (n)).1 R) 205 9 = nI n from (congrFun (pitS_row _ _ _ (by decide) _) 9).trans hn]; exact Int32.le_refl _) q)
    exact gf_lw K ⟨rfl, rfl, rfl, rfl, rfl, trivial⟩
  | succ kz ih =>
    intro jz hj
    obtain ⟨a, x, ha, ea, hx9, hx⟩ := hh jz (by omega)
    have e5 : (pitS (besB h k) X left (jz)).1 5 jz = nI a := by rw [pitS_row _ _ _ (by decide)]; exact ea
    have hS1 : (pitS (besB h k) X left (jz + 1)) = pitB (besB h k) (X 5) (pitS (besB h k) X left (jz)) jz := rfl
    refine gf_iload dX2_payInTurn_5 rfl ?_
    refine gf_aload_n 0 dX2_payInTurn_7 rfl rfl ?_
    refine gf_getI flX2_82 rfl dX2_payInTurn_8 (gt_205 hG) ?_
    refine gf_icmp_ge 78 dX2_payInTurn_11 rfl (fun q => absurd q (by rw [show hp_i (hcl h 205 (pitS (besB h k) X left (jz)).1 R) 205 9 = nI n from (congrFun (pitS_row _ _ _ (by decide) _) 9).trans hn]; exact nI_ge (by omega) (by omega))) (fun _ => ?_)
    refine gf_aload_n 0 dX2_payInTurn_14 rfl rfl ?_
    refine gf_aload_n 0 dX2_payInTurn_15 rfl rfl ?_
    refine gf_getR flX2_25 rfl dX2_payInTurn_16 (gt_205 hG) (gp_205_7 hG) ?_
    refine gf_iload dX2_payInTurn_19 rfl ?_
    refine gf_iald 200 dX2_payInTurn_21 (gt_210 hG) (gl_210 hG) rfl (by omega) (by decide) ?_
    rw [show hp_i (hcl h 205 (pitS (besB h k) X left (jz)).1 R) 210 jz = nI a from e5]
    refine gf_iload_n 1 dX2_payInTurn_22 rfl rfl ?_
    refine gf_callV cmX2_isBeside lkX2_116 imX2_isBeside seX2_isBeside ⟨rfl, by decide⟩ dX2_payInTurn_23 (d1 := d - 1) (by omega) (gt_205 hG) (e_X2_isBeside_205 E (by omega) k h hG (pitS (besB h k) X left (jz)).1 R hT ha hx9 hx) rfl rfl (Nat.le_of_ble_eq_true rfl) ?_
    refine gf_if_eq 72 dX2_payInTurn_26 rfl (fun zc26 => ?_) (fun zc26 => ?_)
    · refine gf_iinc (1) dX2_payInTurn_72 rfl rfl (Nat.le_of_ble_eq_true rfl) ?_
      refine gf_goto 5 dX2_payInTurn_75 rfl ?_
      exact gf_hE (by rw [hS1, pitB_f ea ha (zb_0.mp zc26)]) (gf_lw (ih (jz + 1) (by omega)) ⟨rfl, rfl, rfl, lvE (by rw [hS1, pitB_f ea ha (zb_0.mp zc26)]), lvE (nI_1 jz), trivial⟩)
    · refine gf_aload_n 0 dX2_payInTurn_29 rfl rfl ?_
      refine gf_getR flX2_19 rfl dX2_payInTurn_30 (gt_205 hG) (gp_205_2 hG) ?_
      refine gf_aload_n 0 dX2_payInTurn_33 rfl rfl ?_
      refine gf_getR flX2_25 rfl dX2_payInTurn_34 (gt_205 hG) (gp_205_7 hG) ?_
      refine gf_iload dX2_payInTurn_37 rfl ?_
      refine gf_iald 200 dX2_payInTurn_39 (gt_210 hG) (gl_210 hG) rfl (by omega) (by decide) ?_
      refine gf_aload_n 0 dX2_payInTurn_40 rfl rfl ?_
      refine gf_getR flX2_15 rfl dX2_payInTurn_41 (gt_205 hG) (gp_205_1 hG) ?_
      refine gf_aload_n 0 dX2_payInTurn_44 rfl rfl ?_
      refine gf_getR flX2_25 rfl dX2_payInTurn_45 (gt_205 hG) (gp_205_7 hG) ?_
      refine gf_iload dX2_payInTurn_48 rfl ?_
      refine gf_iald 200 dX2_payInTurn_50 (gt_210 hG) (gl_210 hG) rfl (by omega) (by decide) ?_
      refine gf_iald 201 dX2_payInTurn_51 (gt_207 hG) (gl_207 hG) e5 (by omega) (by decide) ?_
      refine gf_iload_n 3 dX2_payInTurn_52 rfl rfl ?_
      refine gf_min lkX2_120 kMmin.1 kMmin.2.1 kMmin.2.2 dX2_payInTurn_53 (by omega) (Nat.le_of_ble_eq_true rfl) ?_
      rw [show (if (pitS (besB h k) X left (jz)).2 < hp_i (hcl h 205 (pitS (besB h k) X left (jz)).1 R) 207 a then (pitS (besB h k) X left (jz)).2 else hp_i (hcl h 205 (pitS (besB h k) X left (jz)).1 R) 207 a) = (mn2 ((pitS (besB h k) X left (jz)).1 2 a) (pitS (besB h k) X left (jz)).2) from rfl]
      refine gf_iast 201 dX2_payInTurn_56 (gt_208 hG) (gl_208 hG) e5 (by omega) (by decide) ?_
      rw [hc205_3]
      refine gf_iload_n 3 dX2_payInTurn_57 rfl rfl ?_
      refine gf_aload_n 0 dX2_payInTurn_58 rfl rfl ?_
      refine gf_getR flX2_19 rfl dX2_payInTurn_59 (gt_205 hG) (gp_205_2 hG) ?_
      refine gf_aload_n 0 dX2_payInTurn_62 rfl rfl ?_
      refine gf_getR flX2_25 rfl dX2_payInTurn_63 (gt_205 hG) (gp_205_7 hG) ?_
      refine gf_iload dX2_payInTurn_66 rfl ?_
      refine gf_iald 200 dX2_payInTurn_68 (gt_210 hG) (gl_210 hG) rfl (by omega) (by decide) ?_
      refine gf_iald 201 dX2_payInTurn_69 (gt_208 hG) (gl_208 hG) e5 (by omega) (by decide) ?_
      rw [show hp_i (hcl h 205 (up2 (pitS (besB h k) X left (jz)).1 3 a (mn2 ((pitS (besB h k) X left (jz)).1 2 a) (pitS (besB h k) X left (jz)).2)) R) 208 a = (mn2 ((pitS (besB h k) X left (jz)).1 2 a) (pitS (besB h k) X left (jz)).2) from up2_s _ _ _ _]
      refine gf_isub dX2_payInTurn_70 ?_
      refine gf_istore_n 3 dX2_payInTurn_71 rfl (Nat.le_of_ble_eq_true rfl) ?_
      refine gf_iinc (1) dX2_payInTurn_72 rfl rfl (Nat.le_of_ble_eq_true rfl) ?_
      refine gf_goto 5 dX2_payInTurn_75 rfl ?_
      exact gf_hE (by rw [hS1, pitB_t ea ha (zb_1.mp zc26)]) (gf_lw (ih (jz + 1) (by omega)) ⟨rfl, rfl, rfl, lvE (by rw [hS1, pitB_t ea ha (zb_1.mp zc26)]), lvE (nI_1 jz), trivial⟩)
theorem e_X2_payInTurn_205 (E : gE) {d : Nat} (hd : 1 ≤ d) {n : Nat} (k left : Int32) (h : hp_T) (hG : gr h) (X : Nat → Nat → Int32) (R : Nat → Int64) (hT : tagT h) (I : herI h n X) : ev E mX2_payInTurn d [.ref (E.1 + 205), .int k, .int left] (hcl h 205 X R) (some (.int (pitS (besB h k) X left (n)).2)) (hcl h 205 (pitS (besB h k) X left (n)).1 R) := by
  refine ev_of rfl (fun q => absurd q (by decide)) (Nat.le_of_ble_eq_true rfl) ?_
  refine gf_iload_n 2 dX2_payInTurn_0 rfl rfl ?_
  refine gf_istore_n 3 dX2_payInTurn_1 rfl (Nat.le_of_ble_eq_true rfl) ?_
  refine gf_iconst (0) dX2_payInTurn_2 rfl ?_
  refine gf_istore dX2_payInTurn_3 (Nat.le_of_ble_eq_true rfl) ?_
  refine gf_lw (l_X2_payInTurn_205 E hd k left h hG X R hT I ?_ n 0 (by omega)) ⟨rfl, rfl, rfl, rfl, rfl, trivial⟩
  refine gf_iload_n 3 dX2_payInTurn_78 rfl rfl ?_
  exact gf_iretE dX2_payInTurn_79 rfl (rfl) (rfl)
