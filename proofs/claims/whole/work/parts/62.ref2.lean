/-! ===== the reference: a statement worked out ===== -/
def mcl (v : Int64) : Int64 := if 1000000000 < v then 1000000000 else if v < -1000000000 then -1000000000 else v
def mfl (a b : Int64) : Int64 := if b = 0 then 0 else if ¬ a - a / b * b = 0 ∧ ¬ (a < 0 ↔ b < 0) then a / b - 1 else a / b
def mjn (t : Int32) (a b : Int64) : Int64 :=
  if t = 1 then mcl (a + b) else if t = 2 then mcl (a - b) else if t = 3 then mcl (a * b) else if t = 4 then mfl a b
  else if t = 5 then (if a < b then a else b) else if t = 6 then (if b < a then a else b)
  else if t = 11 then (if a < b then 1 else 0) else if t = 12 then (if b < a then 1 else 0) else if t = 13 then (if a = b then 1 else 0)
  else if t = 14 then a * b else (if 0 < a + b then 1 else 0)
def uprL (X : mN) (o : Nat) (f : Nat → Int64) : mN := fun x => if x = o then f else X x
theorem uprL_up (X : mN) (o : Nat) (f : Nat → Int64) (k : Nat) (v : Int64) : up2 (uprL X o f) o k v = uprL X o (va_up f k v) := by
  funext x i
  by_cases e : x = o
  · subst e
    simp [up2, uprL, va_up]
  · simp [up2, uprL, e]
theorem uprL_id (X : mN) (o : Nat) : uprL X o (X o) = X := by
  funext x
  by_cases e : x = o
  · rw [e]; exact if_pos rfl
  · exact if_neg e
theorem up2_up2 {α : Type} (X : Nat → Nat → α) (a k : Nat) (v w : α) : up2 (up2 X a k v) a k w = up2 X a k w := by
  funext x i
  unfold up2
  split <;> rfl
/-- the heap with the pile: its height, its numbers -/
def sP (h : hp_T) (M : mM) (N : mN) (W : Nat × (Nat → Int64)) : hp_T := hm h (up2 M 0 70 (nI W.1)) (uprL N 52 W.2)
theorem lt_of_lg {a b : Int64} (h : ¬ lg_cmp a b ≤ 0) : b < a := by rw [lg_cmp_le, fa_le64] at h; rw [fa_lt64]; omega
theorem nlt_of_lg {a b : Int64} (h : lg_cmp a b ≤ 0) : ¬ b < a := by rw [lg_cmp_le, fa_le64] at h; rw [fa_lt64]; omega
theorem lt_of_lgg {a b : Int64} (h : ¬ 0 ≤ lg_cmp a b) : a < b := by rw [lg_cmp_ge, fa_le64] at h; rw [fa_lt64]; omega
theorem nlt_of_lgg {a b : Int64} (h : 0 ≤ lg_cmp a b) : ¬ a < b := by rw [lg_cmp_ge, fa_le64] at h; rw [fa_lt64]; omega
theorem e_X12_clip (E : gE) {d : Nat} (hd : 0 ≤ d) (v : Int64) (h : hp_T) : ev E mX12_clip d [.long v] h (some (.long (mcl v))) h := by
  refine ev_of rfl (fun q => absurd q (by decide)) (Nat.le_of_ble_eq_true rfl) ?_
  refine gf_lload_n 0 dX12_clip_0 rfl rfl ?_
  refine gf_ldc2 (1000000000) kcX12_498 dX12_clip_1 ?_
  refine gf_lcmp dX12_clip_4 ?_
  refine gf_if_le 14 dX12_clip_5 rfl (fun zc5 => ?_) (fun zc5 => ?_)
  · refine gf_lload_n 0 dX12_clip_14 rfl rfl ?_
    refine gf_ldc2 (-1000000000) kcX12_500 dX12_clip_15 ?_
    refine gf_lcmp dX12_clip_18 ?_
    refine gf_if_ge 28 dX12_clip_19 rfl (fun zc19 => ?_) (fun zc19 => ?_)
    · refine gf_lload_n 0 dX12_clip_28 rfl rfl ?_
      exact gf_lretE dX12_clip_29 rfl (((if_neg (nlt_of_lg zc5)).trans (if_neg (nlt_of_lgg zc19)) : mcl v = _).symm) (rfl)
    · refine gf_ldc2 (-1000000000) kcX12_500 dX12_clip_22 ?_
      refine gf_goto 29 dX12_clip_25 rfl ?_
      exact gf_lretE dX12_clip_29 rfl (((if_neg (nlt_of_lg zc5)).trans (if_pos (lt_of_lgg zc19)) : mcl v = _).symm) (rfl)
  · refine gf_ldc2 (1000000000) kcX12_498 dX12_clip_8 ?_
    refine gf_goto 29 dX12_clip_11 rfl ?_
    exact gf_lretE dX12_clip_29 rfl ((if_pos (lt_of_lg zc5) : mcl v = _).symm) (rfl)
theorem e_X12_floor (E : gE) {d : Nat} (hd : 0 ≤ d) (a b : Int64) (h : hp_T) : ev E mX12_floor d [.long a, .long b] h (some (.long (mfl a b))) h := by
  refine ev_of rfl (fun q => absurd q (by decide)) (Nat.le_of_ble_eq_true rfl) ?_
  refine gf_lload_n 2 dX12_floor_0 rfl rfl ?_
  refine gf_lconst (0) dX12_floor_1 rfl ?_
  refine gf_lcmp dX12_floor_2 ?_
  refine gf_if_ne 8 dX12_floor_3 rfl (fun zc3 => ?_) (fun zc3 => ?_)
  · refine gf_lload_n 0 dX12_floor_8 rfl rfl ?_
    refine gf_lload_n 2 dX12_floor_9 rfl rfl ?_
    refine gf_ldiv dX12_floor_10 (fun q => zc3 ((lg_cmp_eq _ _).mpr q)) ?_
    refine gf_lstore dX12_floor_11 (Nat.le_of_ble_eq_true rfl) ?_
    refine gf_lload_n 0 dX12_floor_13 rfl rfl ?_
    refine gf_lload_n 2 dX12_floor_14 rfl rfl ?_
    refine gf_lrem dX12_floor_15 (fun q => zc3 ((lg_cmp_eq _ _).mpr q)) ?_
    refine gf_lconst (0) dX12_floor_16 rfl ?_
    refine gf_lcmp dX12_floor_17 ?_
    refine gf_if_eq 53 dX12_floor_18 rfl (fun zc18 => ?_) (fun zc18 => ?_)
    · refine gf_lload dX12_floor_53 rfl ?_
      exact gf_lretE dX12_floor_55 rfl (((if_neg (fun q => zc3 ((lg_cmp_eq _ _).mpr q))).trans (if_neg (fun q => q.1 ((lg_cmp_eq _ _).mp zc18))) : mfl a b = _).symm) (rfl)
    · refine gf_lload_n 0 dX12_floor_21 rfl rfl ?_
      refine gf_lconst (0) dX12_floor_22 rfl ?_
      refine gf_lcmp dX12_floor_23 ?_
      refine gf_if_ge 31 dX12_floor_24 rfl (fun zc24 => ?_) (fun zc24 => ?_)
      · refine gf_iconst (0) dX12_floor_31 rfl ?_
        refine gf_lload_n 2 dX12_floor_32 rfl rfl ?_
        refine gf_lconst (0) dX12_floor_33 rfl ?_
        refine gf_lcmp dX12_floor_34 ?_
        refine gf_if_ge 42 dX12_floor_35 rfl (fun zc35 => ?_) (fun zc35 => ?_)
        · refine gf_iconst (0) dX12_floor_42 rfl ?_
          refine gf_icmp_eq 53 dX12_floor_43 rfl (fun _ => ?_) (fun q => absurd (rfl) q)
          refine gf_lload dX12_floor_53 rfl ?_
          exact gf_lretE dX12_floor_55 rfl (((if_neg (fun q => zc3 ((lg_cmp_eq _ _).mpr q))).trans (if_neg (fun q => q.2 ⟨fun q => absurd q (nlt_of_lgg zc24), fun q => absurd q (nlt_of_lgg zc35)⟩)) : mfl a b = _).symm) (rfl)
        · refine gf_iconst (1) dX12_floor_38 rfl ?_
          refine gf_goto 43 dX12_floor_39 rfl ?_
          refine gf_icmp_eq 53 dX12_floor_43 rfl (fun q => absurd q (by decide)) (fun _ => ?_)
          refine gf_lload dX12_floor_46 rfl ?_
          refine gf_lconst (1) dX12_floor_48 rfl ?_
          refine gf_lsub dX12_floor_49 ?_
          refine gf_goto 55 dX12_floor_50 rfl ?_
          exact gf_lretE dX12_floor_55 rfl (((if_neg (fun q => zc3 ((lg_cmp_eq _ _).mpr q))).trans (if_pos ⟨fun q => zc18 ((lg_cmp_eq _ _).mpr q), fun q => (nlt_of_lgg zc24) (q.mpr (lt_of_lgg zc35))⟩) : mfl a b = _).symm) (rfl)
      · refine gf_iconst (1) dX12_floor_27 rfl ?_
        refine gf_goto 32 dX12_floor_28 rfl ?_
        refine gf_lload_n 2 dX12_floor_32 rfl rfl ?_
        refine gf_lconst (0) dX12_floor_33 rfl ?_
        refine gf_lcmp dX12_floor_34 ?_
        refine gf_if_ge 42 dX12_floor_35 rfl (fun zc35 => ?_) (fun zc35 => ?_)
        · refine gf_iconst (0) dX12_floor_42 rfl ?_
          refine gf_icmp_eq 53 dX12_floor_43 rfl (fun q => absurd q (by decide)) (fun _ => ?_)
          refine gf_lload dX12_floor_46 rfl ?_
          refine gf_lconst (1) dX12_floor_48 rfl ?_
          refine gf_lsub dX12_floor_49 ?_
          refine gf_goto 55 dX12_floor_50 rfl ?_
          exact gf_lretE dX12_floor_55 rfl (((if_neg (fun q => zc3 ((lg_cmp_eq _ _).mpr q))).trans (if_pos ⟨fun q => zc18 ((lg_cmp_eq _ _).mpr q), fun q => (nlt_of_lgg zc35) (q.mp (lt_of_lgg zc24))⟩) : mfl a b = _).symm) (rfl)
        · refine gf_iconst (1) dX12_floor_38 rfl ?_
          refine gf_goto 43 dX12_floor_39 rfl ?_
          refine gf_icmp_eq 53 dX12_floor_43 rfl (fun _ => ?_) (fun q => absurd (rfl) q)
          refine gf_lload dX12_floor_53 rfl ?_
          exact gf_lretE dX12_floor_55 rfl (((if_neg (fun q => zc3 ((lg_cmp_eq _ _).mpr q))).trans (if_neg (fun q => q.2 ⟨fun _ => lt_of_lgg zc35, fun _ => lt_of_lgg zc24⟩)) : mfl a b = _).symm) (rfl)
  · refine gf_lconst (0) dX12_floor_6 rfl ?_
    exact gf_lretE dX12_floor_7 rfl ((if_pos ((lg_cmp_eq _ _).mp zc3) : mfl a b = _).symm) (rfl)
theorem e_X12_puts (E : gE) {d : Nat} (hd : 0 ≤ d) {p : Nat} (Q : Nat → Int64) (v : Int64) (h : hp_T) (hG : gr h) (M : mM) (N : mN) (hp : p < 700) : ev E mX12_puts d [.ref (E.1 + 247), .long v] (sP h M N (p, Q)) (none) (sP h M N (p + 1, va_up Q p v)) := by
  refine ev_of rfl (fun q => absurd q (by decide)) (Nat.le_of_ble_eq_true rfl) ?_
  refine gf_aload_n 0 dX12_puts_0 rfl rfl ?_
  refine gf_getR flX12_179 rfl dX12_puts_1 (gt_247 hG) (gp_247_69 hG) ?_
  refine gf_aload_n 0 dX12_puts_4 rfl rfl ?_
  refine gf_getI flX12_502 rfl dX12_puts_5 (gt_247 hG) ?_
  refine gf_lload_n 1 dX12_puts_8 rfl rfl ?_
  refine gf_last 700 dX12_puts_9 (gt_299 hG) (gl_299 hG) (show hp_i (sP h M N (p, Q)) 247 70 = nI p from rfl) hp (by decide) ?_
  unfold sP
  rw [mL_52]
  refine gf_aload_n 0 dX12_puts_10 rfl rfl ?_
  refine gf_dup dX12_puts_11 rfl ?_
  refine gf_getI flX12_502 rfl dX12_puts_12 (gt_247 hG) ?_
  rw [show hp_i (hm h (up2 M 0 70 (nI (p, Q).1)) (up2 (uprL N 52 (p, Q).2) 52 p v)) 247 70 = nI p from rfl]
  refine gf_iconst (1) dX12_puts_15 rfl ?_
  refine gf_iadd dX12_puts_16 ?_
  refine gf_putI flX12_502 rfl rfl dX12_puts_17 (gt_247 hG) ⟨rfl, rfl⟩ ?_
  rw [mI_0, nI_1, up2_up2, uprL_up]
  exact gf_vretE dX12_puts_20 rfl (rfl)
theorem e_X12_joins (E : gE) {d : Nat} (hd : 1 ≤ d) {p : Nat} (t : Int32) (Q : Nat → Int64) (h : hp_T) (hG : gr h) (M : mM) (N : mN) (hp : p + 2 ≤ 700) : ev E mX12_joins d [.ref (E.1 + 247), .int t] (sP h M N (p + 2, Q)) (none) (sP h M N (p + 1, va_up Q p (mjn t (Q p) (Q (p + 1))))) := by
  refine ev_of rfl (fun q => absurd q (by decide)) (Nat.le_of_ble_eq_true rfl) ?_
  refine gf_aload_n 0 dX12_joins_0 rfl rfl ?_
  refine gf_getR flX12_179 rfl dX12_joins_1 (gt_247 hG) (gp_247_69 hG) ?_
  refine gf_aload_n 0 dX12_joins_4 rfl rfl ?_
  refine gf_getI flX12_502 rfl dX12_joins_5 (gt_247 hG) ?_
  rw [show hp_i (sP h M N (p + 2, Q)) 247 70 = nI (p + 2) from rfl]
  refine gf_iconst (1) dX12_joins_8 rfl ?_
  refine gf_isub dX12_joins_9 ?_
  refine gf_lald 700 dX12_joins_10 (gt_299 hG) (gl_299 hG) (show nI (p + 2) - 1 = nI (p + 1) from pk_sub (b := 1) (by omega)) (by omega) (by decide) ?_
  rw [show hp_l (sP h M N (p + 2, Q)) 299 (p + 1) = Q (p + 1) from rfl]
  refine gf_lstore_n 2 dX12_joins_11 rfl (Nat.le_of_ble_eq_true rfl) ?_
  refine gf_aload_n 0 dX12_joins_12 rfl rfl ?_
  refine gf_getR flX12_179 rfl dX12_joins_13 (gt_247 hG) (gp_247_69 hG) ?_
  refine gf_aload_n 0 dX12_joins_16 rfl rfl ?_
  refine gf_getI flX12_502 rfl dX12_joins_17 (gt_247 hG) ?_
  rw [show hp_i (sP h M N (p + 2, Q)) 247 70 = nI (p + 2) from rfl]
  refine gf_iconst (2) dX12_joins_20 rfl ?_
  refine gf_isub dX12_joins_21 ?_
  refine gf_lald 700 dX12_joins_22 (gt_299 hG) (gl_299 hG) (show nI (p + 2) - 2 = nI p from pk_sub (b := 2) (by omega)) (by omega) (by decide) ?_
  rw [show hp_l (sP h M N (p + 2, Q)) 299 p = Q p from rfl]
  refine gf_lstore dX12_joins_23 (Nat.le_of_ble_eq_true rfl) ?_
  refine gf_aload_n 0 dX12_joins_25 rfl rfl ?_
  refine gf_dup dX12_joins_26 rfl ?_
  refine gf_getI flX12_502 rfl dX12_joins_27 (gt_247 hG) ?_
  rw [show hp_i (sP h M N (p + 2, Q)) 247 70 = nI (p + 2) from rfl]
  refine gf_iconst (2) dX12_joins_30 rfl ?_
  refine gf_isub dX12_joins_31 ?_
  rw [show nI (p + 2) - 2 = nI p from pk_sub (b := 2) (by omega)]
  refine gf_putI flX12_502 rfl rfl dX12_joins_32 (gt_247 hG) ⟨rfl, rfl⟩ ?_
  unfold sP
  rw [mI_0, up2_up2]
  change gf _ _ _ _ _ _ (sP h M N (p, Q)) _ (sP h M N (p + 1, va_up Q p (mjn t (Q p) (Q (p + 1)))))
  refine gf_iload_n 1 dX12_joins_35 rfl rfl ?_
  by_cases zs36_1 : t = 1
  · refine gf_tableIn 108 dX12_joins_36 (by rw [zs36_1]; decide) (by rw [zs36_1]; decide) (by rw [zs36_1]; rfl) rfl ?_
    refine gf_aload_n 0 dX12_joins_108 rfl rfl ?_
    refine gf_lload dX12_joins_109 rfl ?_
    refine gf_lload_n 2 dX12_joins_111 rfl rfl ?_
    refine gf_ladd dX12_joins_112 ?_
    refine gf_callS cmX12_clip lkX12_505 stX12_clip dX12_joins_113 (d1 := d - 1) (by omega) (e_X12_clip E (by omega) _ _) rfl rfl (Nat.le_of_ble_eq_true rfl) ?_
    refine gf_callV cmX12_puts lkX12_509 imX12_puts seX12_puts ⟨rfl, by decide⟩ dX12_joins_116 (d1 := d - 1) (by omega) (gt_247 hG) (e_X12_puts E (by omega) Q _ h hG M N (by omega)) rfl rfl (Nat.le_of_ble_eq_true rfl) ?_
    refine gf_goto 289 dX12_joins_119 rfl ?_
    exact gf_vretE dX12_joins_289 rfl (by rw [show mjn t (Q p) (Q (p + 1)) = _ from if_pos zs36_1])
  by_cases zs36_2 : t = 2
  · refine gf_tableIn 122 dX12_joins_36 (by rw [zs36_2]; decide) (by rw [zs36_2]; decide) (by rw [zs36_2]; rfl) rfl ?_
    refine gf_aload_n 0 dX12_joins_122 rfl rfl ?_
    refine gf_lload dX12_joins_123 rfl ?_
    refine gf_lload_n 2 dX12_joins_125 rfl rfl ?_
    refine gf_lsub dX12_joins_126 ?_
    refine gf_callS cmX12_clip lkX12_505 stX12_clip dX12_joins_127 (d1 := d - 1) (by omega) (e_X12_clip E (by omega) _ _) rfl rfl (Nat.le_of_ble_eq_true rfl) ?_
    refine gf_callV cmX12_puts lkX12_509 imX12_puts seX12_puts ⟨rfl, by decide⟩ dX12_joins_130 (d1 := d - 1) (by omega) (gt_247 hG) (e_X12_puts E (by omega) Q _ h hG M N (by omega)) rfl rfl (Nat.le_of_ble_eq_true rfl) ?_
    refine gf_goto 289 dX12_joins_133 rfl ?_
    exact gf_vretE dX12_joins_289 rfl (by rw [show mjn t (Q p) (Q (p + 1)) = _ from (if_neg (by rw [zs36_2]; decide)).trans (if_pos zs36_2)])
  by_cases zs36_3 : t = 3
  · refine gf_tableIn 136 dX12_joins_36 (by rw [zs36_3]; decide) (by rw [zs36_3]; decide) (by rw [zs36_3]; rfl) rfl ?_
    refine gf_aload_n 0 dX12_joins_136 rfl rfl ?_
    refine gf_lload dX12_joins_137 rfl ?_
    refine gf_lload_n 2 dX12_joins_139 rfl rfl ?_
    refine gf_lmul dX12_joins_140 ?_
    refine gf_callS cmX12_clip lkX12_505 stX12_clip dX12_joins_141 (d1 := d - 1) (by omega) (e_X12_clip E (by omega) _ _) rfl rfl (Nat.le_of_ble_eq_true rfl) ?_
    refine gf_callV cmX12_puts lkX12_509 imX12_puts seX12_puts ⟨rfl, by decide⟩ dX12_joins_144 (d1 := d - 1) (by omega) (gt_247 hG) (e_X12_puts E (by omega) Q _ h hG M N (by omega)) rfl rfl (Nat.le_of_ble_eq_true rfl) ?_
    refine gf_goto 289 dX12_joins_147 rfl ?_
    exact gf_vretE dX12_joins_289 rfl (by rw [show mjn t (Q p) (Q (p + 1)) = _ from (if_neg (by rw [zs36_3]; decide)).trans ((if_neg (by rw [zs36_3]; decide)).trans (if_pos zs36_3))])
  by_cases zs36_4 : t = 4
  · refine gf_tableIn 150 dX12_joins_36 (by rw [zs36_4]; decide) (by rw [zs36_4]; decide) (by rw [zs36_4]; rfl) rfl ?_
    refine gf_aload_n 0 dX12_joins_150 rfl rfl ?_
    refine gf_lload dX12_joins_151 rfl ?_
    refine gf_lload_n 2 dX12_joins_153 rfl rfl ?_
    refine gf_callS cmX12_floor lkX12_513 stX12_floor dX12_joins_154 (d1 := d - 1) (by omega) (e_X12_floor E (by omega) _ _ _) rfl rfl (Nat.le_of_ble_eq_true rfl) ?_
    refine gf_callV cmX12_puts lkX12_509 imX12_puts seX12_puts ⟨rfl, by decide⟩ dX12_joins_157 (d1 := d - 1) (by omega) (gt_247 hG) (e_X12_puts E (by omega) Q _ h hG M N (by omega)) rfl rfl (Nat.le_of_ble_eq_true rfl) ?_
    refine gf_goto 289 dX12_joins_160 rfl ?_
    exact gf_vretE dX12_joins_289 rfl (by rw [show mjn t (Q p) (Q (p + 1)) = _ from (if_neg (by rw [zs36_4]; decide)).trans ((if_neg (by rw [zs36_4]; decide)).trans ((if_neg (by rw [zs36_4]; decide)).trans (if_pos zs36_4)))])
  by_cases zs36_5 : t = 5
  · refine gf_tableIn 163 dX12_joins_36 (by rw [zs36_5]; decide) (by rw [zs36_5]; decide) (by rw [zs36_5]; rfl) rfl ?_
    refine gf_aload_n 0 dX12_joins_163 rfl rfl ?_
    refine gf_lload dX12_joins_164 rfl ?_
    refine gf_lload_n 2 dX12_joins_166 rfl rfl ?_
    refine gf_lcmp dX12_joins_167 ?_
    refine gf_if_ge 176 dX12_joins_168 rfl (fun zc168 => ?_) (fun zc168 => ?_)
    · refine gf_lload_n 2 dX12_joins_176 rfl rfl ?_
      refine gf_callV cmX12_puts lkX12_509 imX12_puts seX12_puts ⟨rfl, by decide⟩ dX12_joins_177 (d1 := d - 1) (by omega) (gt_247 hG) (e_X12_puts E (by omega) Q _ h hG M N (by omega)) rfl rfl (Nat.le_of_ble_eq_true rfl) ?_
      refine gf_goto 289 dX12_joins_180 rfl ?_
      exact gf_vretE dX12_joins_289 rfl (by rw [show mjn t (Q p) (Q (p + 1)) = _ from (if_neg (by rw [zs36_5]; decide)).trans ((if_neg (by rw [zs36_5]; decide)).trans ((if_neg (by rw [zs36_5]; decide)).trans ((if_neg (by rw [zs36_5]; decide)).trans ((if_pos zs36_5).trans (if_neg (nlt_of_lgg zc168))))))])
    · refine gf_lload dX12_joins_171 rfl ?_
      refine gf_goto 177 dX12_joins_173 rfl ?_
      refine gf_callV cmX12_puts lkX12_509 imX12_puts seX12_puts ⟨rfl, by decide⟩ dX12_joins_177 (d1 := d - 1) (by omega) (gt_247 hG) (e_X12_puts E (by omega) Q _ h hG M N (by omega)) rfl rfl (Nat.le_of_ble_eq_true rfl) ?_
      refine gf_goto 289 dX12_joins_180 rfl ?_
      exact gf_vretE dX12_joins_289 rfl (by rw [show mjn t (Q p) (Q (p + 1)) = _ from (if_neg (by rw [zs36_5]; decide)).trans ((if_neg (by rw [zs36_5]; decide)).trans ((if_neg (by rw [zs36_5]; decide)).trans ((if_neg (by rw [zs36_5]; decide)).trans ((if_pos zs36_5).trans (if_pos (lt_of_lgg zc168))))))])
  by_cases zs36_6 : t = 6
  · refine gf_tableIn 183 dX12_joins_36 (by rw [zs36_6]; decide) (by rw [zs36_6]; decide) (by rw [zs36_6]; rfl) rfl ?_
    refine gf_aload_n 0 dX12_joins_183 rfl rfl ?_
    refine gf_lload dX12_joins_184 rfl ?_
    refine gf_lload_n 2 dX12_joins_186 rfl rfl ?_
    refine gf_lcmp dX12_joins_187 ?_
    refine gf_if_le 196 dX12_joins_188 rfl (fun zc188 => ?_) (fun zc188 => ?_)
    · refine gf_lload_n 2 dX12_joins_196 rfl rfl ?_
      refine gf_callV cmX12_puts lkX12_509 imX12_puts seX12_puts ⟨rfl, by decide⟩ dX12_joins_197 (d1 := d - 1) (by omega) (gt_247 hG) (e_X12_puts E (by omega) Q _ h hG M N (by omega)) rfl rfl (Nat.le_of_ble_eq_true rfl) ?_
      refine gf_goto 289 dX12_joins_200 rfl ?_
      exact gf_vretE dX12_joins_289 rfl (by rw [show mjn t (Q p) (Q (p + 1)) = _ from (if_neg (by rw [zs36_6]; decide)).trans ((if_neg (by rw [zs36_6]; decide)).trans ((if_neg (by rw [zs36_6]; decide)).trans ((if_neg (by rw [zs36_6]; decide)).trans ((if_neg (by rw [zs36_6]; decide)).trans ((if_pos zs36_6).trans (if_neg (nlt_of_lg zc188)))))))])
    · refine gf_lload dX12_joins_191 rfl ?_
      refine gf_goto 197 dX12_joins_193 rfl ?_
      refine gf_callV cmX12_puts lkX12_509 imX12_puts seX12_puts ⟨rfl, by decide⟩ dX12_joins_197 (d1 := d - 1) (by omega) (gt_247 hG) (e_X12_puts E (by omega) Q _ h hG M N (by omega)) rfl rfl (Nat.le_of_ble_eq_true rfl) ?_
      refine gf_goto 289 dX12_joins_200 rfl ?_
      exact gf_vretE dX12_joins_289 rfl (by rw [show mjn t (Q p) (Q (p + 1)) = _ from (if_neg (by rw [zs36_6]; decide)).trans ((if_neg (by rw [zs36_6]; decide)).trans ((if_neg (by rw [zs36_6]; decide)).trans ((if_neg (by rw [zs36_6]; decide)).trans ((if_neg (by rw [zs36_6]; decide)).trans ((if_pos zs36_6).trans (if_pos (lt_of_lg zc188)))))))])
  by_cases zs36_7 : t = 7
  · refine gf_tableIn 271 dX12_joins_36 (by rw [zs36_7]; decide) (by rw [zs36_7]; decide) (by rw [zs36_7]; rfl) rfl ?_
    refine gf_aload_n 0 dX12_joins_271 rfl rfl ?_
    refine gf_lload dX12_joins_272 rfl ?_
    refine gf_lload_n 2 dX12_joins_274 rfl rfl ?_
    refine gf_ladd dX12_joins_275 ?_
    refine gf_lconst (0) dX12_joins_276 rfl ?_
    refine gf_lcmp dX12_joins_277 ?_
    refine gf_if_le 285 dX12_joins_278 rfl (fun zc278 => ?_) (fun zc278 => ?_)
    · refine gf_lconst (0) dX12_joins_285 rfl ?_
      refine gf_callV cmX12_puts lkX12_509 imX12_puts seX12_puts ⟨rfl, by decide⟩ dX12_joins_286 (d1 := d - 1) (by omega) (gt_247 hG) (e_X12_puts E (by omega) Q _ h hG M N (by omega)) rfl rfl (Nat.le_of_ble_eq_true rfl) ?_
      exact gf_vretE dX12_joins_289 rfl (by rw [show mjn t (Q p) (Q (p + 1)) = _ from (if_neg (by rw [zs36_7]; decide)).trans ((if_neg (by rw [zs36_7]; decide)).trans ((if_neg (by rw [zs36_7]; decide)).trans ((if_neg (by rw [zs36_7]; decide)).trans ((if_neg (by rw [zs36_7]; decide)).trans ((if_neg (by rw [zs36_7]; decide)).trans ((if_neg (by rw [zs36_7]; decide)).trans ((if_neg (by rw [zs36_7]; decide)).trans ((if_neg (by rw [zs36_7]; decide)).trans ((if_neg (by rw [zs36_7]; decide)).trans (if_neg (nlt_of_lg zc278)))))))))))])
    · refine gf_lconst (1) dX12_joins_281 rfl ?_
      refine gf_goto 286 dX12_joins_282 rfl ?_
      refine gf_callV cmX12_puts lkX12_509 imX12_puts seX12_puts ⟨rfl, by decide⟩ dX12_joins_286 (d1 := d - 1) (by omega) (gt_247 hG) (e_X12_puts E (by omega) Q _ h hG M N (by omega)) rfl rfl (Nat.le_of_ble_eq_true rfl) ?_
      exact gf_vretE dX12_joins_289 rfl (by rw [show mjn t (Q p) (Q (p + 1)) = _ from (if_neg (by rw [zs36_7]; decide)).trans ((if_neg (by rw [zs36_7]; decide)).trans ((if_neg (by rw [zs36_7]; decide)).trans ((if_neg (by rw [zs36_7]; decide)).trans ((if_neg (by rw [zs36_7]; decide)).trans ((if_neg (by rw [zs36_7]; decide)).trans ((if_neg (by rw [zs36_7]; decide)).trans ((if_neg (by rw [zs36_7]; decide)).trans ((if_neg (by rw [zs36_7]; decide)).trans ((if_neg (by rw [zs36_7]; decide)).trans (if_pos (lt_of_lg zc278)))))))))))])
  by_cases zs36_8 : t = 8
  · refine gf_tableIn 271 dX12_joins_36 (by rw [zs36_8]; decide) (by rw [zs36_8]; decide) (by rw [zs36_8]; rfl) rfl ?_
    refine gf_aload_n 0 dX12_joins_271 rfl rfl ?_
    refine gf_lload dX12_joins_272 rfl ?_
    refine gf_lload_n 2 dX12_joins_274 rfl rfl ?_
    refine gf_ladd dX12_joins_275 ?_
    refine gf_lconst (0) dX12_joins_276 rfl ?_
    refine gf_lcmp dX12_joins_277 ?_
    refine gf_if_le 285 dX12_joins_278 rfl (fun zc278 => ?_) (fun zc278 => ?_)
    · refine gf_lconst (0) dX12_joins_285 rfl ?_
      refine gf_callV cmX12_puts lkX12_509 imX12_puts seX12_puts ⟨rfl, by decide⟩ dX12_joins_286 (d1 := d - 1) (by omega) (gt_247 hG) (e_X12_puts E (by omega) Q _ h hG M N (by omega)) rfl rfl (Nat.le_of_ble_eq_true rfl) ?_
      exact gf_vretE dX12_joins_289 rfl (by rw [show mjn t (Q p) (Q (p + 1)) = _ from (if_neg (by rw [zs36_8]; decide)).trans ((if_neg (by rw [zs36_8]; decide)).trans ((if_neg (by rw [zs36_8]; decide)).trans ((if_neg (by rw [zs36_8]; decide)).trans ((if_neg (by rw [zs36_8]; decide)).trans ((if_neg (by rw [zs36_8]; decide)).trans ((if_neg (by rw [zs36_8]; decide)).trans ((if_neg (by rw [zs36_8]; decide)).trans ((if_neg (by rw [zs36_8]; decide)).trans ((if_neg (by rw [zs36_8]; decide)).trans (if_neg (nlt_of_lg zc278)))))))))))])
    · refine gf_lconst (1) dX12_joins_281 rfl ?_
      refine gf_goto 286 dX12_joins_282 rfl ?_
      refine gf_callV cmX12_puts lkX12_509 imX12_puts seX12_puts ⟨rfl, by decide⟩ dX12_joins_286 (d1 := d - 1) (by omega) (gt_247 hG) (e_X12_puts E (by omega) Q _ h hG M N (by omega)) rfl rfl (Nat.le_of_ble_eq_true rfl) ?_
      exact gf_vretE dX12_joins_289 rfl (by rw [show mjn t (Q p) (Q (p + 1)) = _ from (if_neg (by rw [zs36_8]; decide)).trans ((if_neg (by rw [zs36_8]; decide)).trans ((if_neg (by rw [zs36_8]; decide)).trans ((if_neg (by rw [zs36_8]; decide)).trans ((if_neg (by rw [zs36_8]; decide)).trans ((if_neg (by rw [zs36_8]; decide)).trans ((if_neg (by rw [zs36_8]; decide)).trans ((if_neg (by rw [zs36_8]; decide)).trans ((if_neg (by rw [zs36_8]; decide)).trans ((if_neg (by rw [zs36_8]; decide)).trans (if_pos (lt_of_lg zc278)))))))))))])
  by_cases zs36_9 : t = 9
  · refine gf_tableIn 271 dX12_joins_36 (by rw [zs36_9]; decide) (by rw [zs36_9]; decide) (by rw [zs36_9]; rfl) rfl ?_
    refine gf_aload_n 0 dX12_joins_271 rfl rfl ?_
    refine gf_lload dX12_joins_272 rfl ?_
    refine gf_lload_n 2 dX12_joins_274 rfl rfl ?_
    refine gf_ladd dX12_joins_275 ?_
    refine gf_lconst (0) dX12_joins_276 rfl ?_
    refine gf_lcmp dX12_joins_277 ?_
    refine gf_if_le 285 dX12_joins_278 rfl (fun zc278 => ?_) (fun zc278 => ?_)
    · refine gf_lconst (0) dX12_joins_285 rfl ?_
      refine gf_callV cmX12_puts lkX12_509 imX12_puts seX12_puts ⟨rfl, by decide⟩ dX12_joins_286 (d1 := d - 1) (by omega) (gt_247 hG) (e_X12_puts E (by omega) Q _ h hG M N (by omega)) rfl rfl (Nat.le_of_ble_eq_true rfl) ?_
      exact gf_vretE dX12_joins_289 rfl (by rw [show mjn t (Q p) (Q (p + 1)) = _ from (if_neg (by rw [zs36_9]; decide)).trans ((if_neg (by rw [zs36_9]; decide)).trans ((if_neg (by rw [zs36_9]; decide)).trans ((if_neg (by rw [zs36_9]; decide)).trans ((if_neg (by rw [zs36_9]; decide)).trans ((if_neg (by rw [zs36_9]; decide)).trans ((if_neg (by rw [zs36_9]; decide)).trans ((if_neg (by rw [zs36_9]; decide)).trans ((if_neg (by rw [zs36_9]; decide)).trans ((if_neg (by rw [zs36_9]; decide)).trans (if_neg (nlt_of_lg zc278)))))))))))])
    · refine gf_lconst (1) dX12_joins_281 rfl ?_
      refine gf_goto 286 dX12_joins_282 rfl ?_
      refine gf_callV cmX12_puts lkX12_509 imX12_puts seX12_puts ⟨rfl, by decide⟩ dX12_joins_286 (d1 := d - 1) (by omega) (gt_247 hG) (e_X12_puts E (by omega) Q _ h hG M N (by omega)) rfl rfl (Nat.le_of_ble_eq_true rfl) ?_
      exact gf_vretE dX12_joins_289 rfl (by rw [show mjn t (Q p) (Q (p + 1)) = _ from (if_neg (by rw [zs36_9]; decide)).trans ((if_neg (by rw [zs36_9]; decide)).trans ((if_neg (by rw [zs36_9]; decide)).trans ((if_neg (by rw [zs36_9]; decide)).trans ((if_neg (by rw [zs36_9]; decide)).trans ((if_neg (by rw [zs36_9]; decide)).trans ((if_neg (by rw [zs36_9]; decide)).trans ((if_neg (by rw [zs36_9]; decide)).trans ((if_neg (by rw [zs36_9]; decide)).trans ((if_neg (by rw [zs36_9]; decide)).trans (if_pos (lt_of_lg zc278)))))))))))])
  by_cases zs36_10 : t = 10
  · refine gf_tableIn 271 dX12_joins_36 (by rw [zs36_10]; decide) (by rw [zs36_10]; decide) (by rw [zs36_10]; rfl) rfl ?_
    refine gf_aload_n 0 dX12_joins_271 rfl rfl ?_
    refine gf_lload dX12_joins_272 rfl ?_
    refine gf_lload_n 2 dX12_joins_274 rfl rfl ?_
    refine gf_ladd dX12_joins_275 ?_
    refine gf_lconst (0) dX12_joins_276 rfl ?_
    refine gf_lcmp dX12_joins_277 ?_
    refine gf_if_le 285 dX12_joins_278 rfl (fun zc278 => ?_) (fun zc278 => ?_)
    · refine gf_lconst (0) dX12_joins_285 rfl ?_
      refine gf_callV cmX12_puts lkX12_509 imX12_puts seX12_puts ⟨rfl, by decide⟩ dX12_joins_286 (d1 := d - 1) (by omega) (gt_247 hG) (e_X12_puts E (by omega) Q _ h hG M N (by omega)) rfl rfl (Nat.le_of_ble_eq_true rfl) ?_
      exact gf_vretE dX12_joins_289 rfl (by rw [show mjn t (Q p) (Q (p + 1)) = _ from (if_neg (by rw [zs36_10]; decide)).trans ((if_neg (by rw [zs36_10]; decide)).trans ((if_neg (by rw [zs36_10]; decide)).trans ((if_neg (by rw [zs36_10]; decide)).trans ((if_neg (by rw [zs36_10]; decide)).trans ((if_neg (by rw [zs36_10]; decide)).trans ((if_neg (by rw [zs36_10]; decide)).trans ((if_neg (by rw [zs36_10]; decide)).trans ((if_neg (by rw [zs36_10]; decide)).trans ((if_neg (by rw [zs36_10]; decide)).trans (if_neg (nlt_of_lg zc278)))))))))))])
    · refine gf_lconst (1) dX12_joins_281 rfl ?_
      refine gf_goto 286 dX12_joins_282 rfl ?_
      refine gf_callV cmX12_puts lkX12_509 imX12_puts seX12_puts ⟨rfl, by decide⟩ dX12_joins_286 (d1 := d - 1) (by omega) (gt_247 hG) (e_X12_puts E (by omega) Q _ h hG M N (by omega)) rfl rfl (Nat.le_of_ble_eq_true rfl) ?_
      exact gf_vretE dX12_joins_289 rfl (by rw [show mjn t (Q p) (Q (p + 1)) = _ from (if_neg (by rw [zs36_10]; decide)).trans ((if_neg (by rw [zs36_10]; decide)).trans ((if_neg (by rw [zs36_10]; decide)).trans ((if_neg (by rw [zs36_10]; decide)).trans ((if_neg (by rw [zs36_10]; decide)).trans ((if_neg (by rw [zs36_10]; decide)).trans ((if_neg (by rw [zs36_10]; decide)).trans ((if_neg (by rw [zs36_10]; decide)).trans ((if_neg (by rw [zs36_10]; decide)).trans ((if_neg (by rw [zs36_10]; decide)).trans (if_pos (lt_of_lg zc278)))))))))))])
  by_cases zs36_11 : t = 11
  · refine gf_tableIn 203 dX12_joins_36 (by rw [zs36_11]; decide) (by rw [zs36_11]; decide) (by rw [zs36_11]; rfl) rfl ?_
    refine gf_aload_n 0 dX12_joins_203 rfl rfl ?_
    refine gf_lload dX12_joins_204 rfl ?_
    refine gf_lload_n 2 dX12_joins_206 rfl rfl ?_
    refine gf_lcmp dX12_joins_207 ?_
    refine gf_if_ge 215 dX12_joins_208 rfl (fun zc208 => ?_) (fun zc208 => ?_)
    · refine gf_lconst (0) dX12_joins_215 rfl ?_
      refine gf_callV cmX12_puts lkX12_509 imX12_puts seX12_puts ⟨rfl, by decide⟩ dX12_joins_216 (d1 := d - 1) (by omega) (gt_247 hG) (e_X12_puts E (by omega) Q _ h hG M N (by omega)) rfl rfl (Nat.le_of_ble_eq_true rfl) ?_
      refine gf_goto 289 dX12_joins_219 rfl ?_
      exact gf_vretE dX12_joins_289 rfl (by rw [show mjn t (Q p) (Q (p + 1)) = _ from (if_neg (by rw [zs36_11]; decide)).trans ((if_neg (by rw [zs36_11]; decide)).trans ((if_neg (by rw [zs36_11]; decide)).trans ((if_neg (by rw [zs36_11]; decide)).trans ((if_neg (by rw [zs36_11]; decide)).trans ((if_neg (by rw [zs36_11]; decide)).trans ((if_pos zs36_11).trans (if_neg (nlt_of_lgg zc208))))))))])
    · refine gf_lconst (1) dX12_joins_211 rfl ?_
      refine gf_goto 216 dX12_joins_212 rfl ?_
      refine gf_callV cmX12_puts lkX12_509 imX12_puts seX12_puts ⟨rfl, by decide⟩ dX12_joins_216 (d1 := d - 1) (by omega) (gt_247 hG) (e_X12_puts E (by omega) Q _ h hG M N (by omega)) rfl rfl (Nat.le_of_ble_eq_true rfl) ?_
      refine gf_goto 289 dX12_joins_219 rfl ?_
      exact gf_vretE dX12_joins_289 rfl (by rw [show mjn t (Q p) (Q (p + 1)) = _ from (if_neg (by rw [zs36_11]; decide)).trans ((if_neg (by rw [zs36_11]; decide)).trans ((if_neg (by rw [zs36_11]; decide)).trans ((if_neg (by rw [zs36_11]; decide)).trans ((if_neg (by rw [zs36_11]; decide)).trans ((if_neg (by rw [zs36_11]; decide)).trans ((if_pos zs36_11).trans (if_pos (lt_of_lgg zc208))))))))])
  by_cases zs36_12 : t = 12
  · refine gf_tableIn 222 dX12_joins_36 (by rw [zs36_12]; decide) (by rw [zs36_12]; decide) (by rw [zs36_12]; rfl) rfl ?_
    refine gf_aload_n 0 dX12_joins_222 rfl rfl ?_
    refine gf_lload dX12_joins_223 rfl ?_
    refine gf_lload_n 2 dX12_joins_225 rfl rfl ?_
    refine gf_lcmp dX12_joins_226 ?_
    refine gf_if_le 234 dX12_joins_227 rfl (fun zc227 => ?_) (fun zc227 => ?_)
    · refine gf_lconst (0) dX12_joins_234 rfl ?_
      refine gf_callV cmX12_puts lkX12_509 imX12_puts seX12_puts ⟨rfl, by decide⟩ dX12_joins_235 (d1 := d - 1) (by omega) (gt_247 hG) (e_X12_puts E (by omega) Q _ h hG M N (by omega)) rfl rfl (Nat.le_of_ble_eq_true rfl) ?_
      refine gf_goto 289 dX12_joins_238 rfl ?_
      exact gf_vretE dX12_joins_289 rfl (by rw [show mjn t (Q p) (Q (p + 1)) = _ from (if_neg (by rw [zs36_12]; decide)).trans ((if_neg (by rw [zs36_12]; decide)).trans ((if_neg (by rw [zs36_12]; decide)).trans ((if_neg (by rw [zs36_12]; decide)).trans ((if_neg (by rw [zs36_12]; decide)).trans ((if_neg (by rw [zs36_12]; decide)).trans ((if_neg (by rw [zs36_12]; decide)).trans ((if_pos zs36_12).trans (if_neg (nlt_of_lg zc227)))))))))])
    · refine gf_lconst (1) dX12_joins_230 rfl ?_
      refine gf_goto 235 dX12_joins_231 rfl ?_
      refine gf_callV cmX12_puts lkX12_509 imX12_puts seX12_puts ⟨rfl, by decide⟩ dX12_joins_235 (d1 := d - 1) (by omega) (gt_247 hG) (e_X12_puts E (by omega) Q _ h hG M N (by omega)) rfl rfl (Nat.le_of_ble_eq_true rfl) ?_
      refine gf_goto 289 dX12_joins_238 rfl ?_
      exact gf_vretE dX12_joins_289 rfl (by rw [show mjn t (Q p) (Q (p + 1)) = _ from (if_neg (by rw [zs36_12]; decide)).trans ((if_neg (by rw [zs36_12]; decide)).trans ((if_neg (by rw [zs36_12]; decide)).trans ((if_neg (by rw [zs36_12]; decide)).trans ((if_neg (by rw [zs36_12]; decide)).trans ((if_neg (by rw [zs36_12]; decide)).trans ((if_neg (by rw [zs36_12]; decide)).trans ((if_pos zs36_12).trans (if_pos (lt_of_lg zc227)))))))))])
  by_cases zs36_13 : t = 13
  · refine gf_tableIn 241 dX12_joins_36 (by rw [zs36_13]; decide) (by rw [zs36_13]; decide) (by rw [zs36_13]; rfl) rfl ?_
    refine gf_aload_n 0 dX12_joins_241 rfl rfl ?_
    refine gf_lload dX12_joins_242 rfl ?_
    refine gf_lload_n 2 dX12_joins_244 rfl rfl ?_
    refine gf_lcmp dX12_joins_245 ?_
    refine gf_if_ne 253 dX12_joins_246 rfl (fun zc246 => ?_) (fun zc246 => ?_)
    · refine gf_lconst (0) dX12_joins_253 rfl ?_
      refine gf_callV cmX12_puts lkX12_509 imX12_puts seX12_puts ⟨rfl, by decide⟩ dX12_joins_254 (d1 := d - 1) (by omega) (gt_247 hG) (e_X12_puts E (by omega) Q _ h hG M N (by omega)) rfl rfl (Nat.le_of_ble_eq_true rfl) ?_
      refine gf_goto 289 dX12_joins_257 rfl ?_
      exact gf_vretE dX12_joins_289 rfl (by rw [show mjn t (Q p) (Q (p + 1)) = _ from (if_neg (by rw [zs36_13]; decide)).trans ((if_neg (by rw [zs36_13]; decide)).trans ((if_neg (by rw [zs36_13]; decide)).trans ((if_neg (by rw [zs36_13]; decide)).trans ((if_neg (by rw [zs36_13]; decide)).trans ((if_neg (by rw [zs36_13]; decide)).trans ((if_neg (by rw [zs36_13]; decide)).trans ((if_neg (by rw [zs36_13]; decide)).trans ((if_pos zs36_13).trans (if_neg (fun q => zc246 ((lg_cmp_eq _ _).mpr q)))))))))))])
    · refine gf_lconst (1) dX12_joins_249 rfl ?_
      refine gf_goto 254 dX12_joins_250 rfl ?_
      refine gf_callV cmX12_puts lkX12_509 imX12_puts seX12_puts ⟨rfl, by decide⟩ dX12_joins_254 (d1 := d - 1) (by omega) (gt_247 hG) (e_X12_puts E (by omega) Q _ h hG M N (by omega)) rfl rfl (Nat.le_of_ble_eq_true rfl) ?_
      refine gf_goto 289 dX12_joins_257 rfl ?_
      exact gf_vretE dX12_joins_289 rfl (by rw [show mjn t (Q p) (Q (p + 1)) = _ from (if_neg (by rw [zs36_13]; decide)).trans ((if_neg (by rw [zs36_13]; decide)).trans ((if_neg (by rw [zs36_13]; decide)).trans ((if_neg (by rw [zs36_13]; decide)).trans ((if_neg (by rw [zs36_13]; decide)).trans ((if_neg (by rw [zs36_13]; decide)).trans ((if_neg (by rw [zs36_13]; decide)).trans ((if_neg (by rw [zs36_13]; decide)).trans ((if_pos zs36_13).trans (if_pos ((lg_cmp_eq _ _).mp zc246))))))))))])
  by_cases zs36_14 : t = 14
  · refine gf_tableIn 260 dX12_joins_36 (by rw [zs36_14]; decide) (by rw [zs36_14]; decide) (by rw [zs36_14]; rfl) rfl ?_
    refine gf_aload_n 0 dX12_joins_260 rfl rfl ?_
    refine gf_lload dX12_joins_261 rfl ?_
    refine gf_lload_n 2 dX12_joins_263 rfl rfl ?_
    refine gf_lmul dX12_joins_264 ?_
    refine gf_callV cmX12_puts lkX12_509 imX12_puts seX12_puts ⟨rfl, by decide⟩ dX12_joins_265 (d1 := d - 1) (by omega) (gt_247 hG) (e_X12_puts E (by omega) Q _ h hG M N (by omega)) rfl rfl (Nat.le_of_ble_eq_true rfl) ?_
    refine gf_goto 289 dX12_joins_268 rfl ?_
    exact gf_vretE dX12_joins_289 rfl (by rw [show mjn t (Q p) (Q (p + 1)) = _ from (if_neg (by rw [zs36_14]; decide)).trans ((if_neg (by rw [zs36_14]; decide)).trans ((if_neg (by rw [zs36_14]; decide)).trans ((if_neg (by rw [zs36_14]; decide)).trans ((if_neg (by rw [zs36_14]; decide)).trans ((if_neg (by rw [zs36_14]; decide)).trans ((if_neg (by rw [zs36_14]; decide)).trans ((if_neg (by rw [zs36_14]; decide)).trans ((if_neg (by rw [zs36_14]; decide)).trans (if_pos zs36_14)))))))))])
  refine gf_tableOut 271 dX12_joins_36 (by have y1 : ¬ (t).toInt = 1 := fun z => zs36_1 ((fa_eq _ _).mpr z); have y2 : ¬ (t).toInt = 2 := fun z => zs36_2 ((fa_eq _ _).mpr z); have y3 : ¬ (t).toInt = 3 := fun z => zs36_3 ((fa_eq _ _).mpr z); have y4 : ¬ (t).toInt = 4 := fun z => zs36_4 ((fa_eq _ _).mpr z); have y5 : ¬ (t).toInt = 5 := fun z => zs36_5 ((fa_eq _ _).mpr z); have y6 : ¬ (t).toInt = 6 := fun z => zs36_6 ((fa_eq _ _).mpr z); have y7 : ¬ (t).toInt = 7 := fun z => zs36_7 ((fa_eq _ _).mpr z); have y8 : ¬ (t).toInt = 8 := fun z => zs36_8 ((fa_eq _ _).mpr z); have y9 : ¬ (t).toInt = 9 := fun z => zs36_9 ((fa_eq _ _).mpr z); have y10 : ¬ (t).toInt = 10 := fun z => zs36_10 ((fa_eq _ _).mpr z); have y11 : ¬ (t).toInt = 11 := fun z => zs36_11 ((fa_eq _ _).mpr z); have y12 : ¬ (t).toInt = 12 := fun z => zs36_12 ((fa_eq _ _).mpr z); have y13 : ¬ (t).toInt = 13 := fun z => zs36_13 ((fa_eq _ _).mpr z); have y14 : ¬ (t).toInt = 14 := fun z => zs36_14 ((fa_eq _ _).mpr z); omega) rfl ?_
  refine gf_aload_n 0 dX12_joins_271 rfl rfl ?_
  refine gf_lload dX12_joins_272 rfl ?_
  refine gf_lload_n 2 dX12_joins_274 rfl rfl ?_
  refine gf_ladd dX12_joins_275 ?_
  refine gf_lconst (0) dX12_joins_276 rfl ?_
  refine gf_lcmp dX12_joins_277 ?_
  refine gf_if_le 285 dX12_joins_278 rfl (fun zc278 => ?_) (fun zc278 => ?_)
  · refine gf_lconst (0) dX12_joins_285 rfl ?_
    refine gf_callV cmX12_puts lkX12_509 imX12_puts seX12_puts ⟨rfl, by decide⟩ dX12_joins_286 (d1 := d - 1) (by omega) (gt_247 hG) (e_X12_puts E (by omega) Q _ h hG M N (by omega)) rfl rfl (Nat.le_of_ble_eq_true rfl) ?_
    exact gf_vretE dX12_joins_289 rfl (by rw [show mjn t (Q p) (Q (p + 1)) = _ from (if_neg zs36_1).trans ((if_neg zs36_2).trans ((if_neg zs36_3).trans ((if_neg zs36_4).trans ((if_neg zs36_5).trans ((if_neg zs36_6).trans ((if_neg zs36_11).trans ((if_neg zs36_12).trans ((if_neg zs36_13).trans ((if_neg zs36_14).trans (if_neg (nlt_of_lg zc278)))))))))))])
  · refine gf_lconst (1) dX12_joins_281 rfl ?_
    refine gf_goto 286 dX12_joins_282 rfl ?_
    refine gf_callV cmX12_puts lkX12_509 imX12_puts seX12_puts ⟨rfl, by decide⟩ dX12_joins_286 (d1 := d - 1) (by omega) (gt_247 hG) (e_X12_puts E (by omega) Q _ h hG M N (by omega)) rfl rfl (Nat.le_of_ble_eq_true rfl) ?_
    exact gf_vretE dX12_joins_289 rfl (by rw [show mjn t (Q p) (Q (p + 1)) = _ from (if_neg zs36_1).trans ((if_neg zs36_2).trans ((if_neg zs36_3).trans ((if_neg zs36_4).trans ((if_neg zs36_5).trans ((if_neg zs36_6).trans ((if_neg zs36_11).trans ((if_neg zs36_12).trans ((if_neg zs36_13).trans ((if_neg zs36_14).trans (if_pos (lt_of_lg zc278)))))))))))])
