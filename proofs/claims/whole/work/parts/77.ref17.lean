/-! ===== the reference: claims ===== -/
def inrB (c how : Int32) (z : mM × Int32) (jz : Nat) : mM × Int32 := (if (z.1 66 (jz + 1)) = 0 then (z.1, z.2) else (if (z.1 49 (jz + 1)) = c then (if (z.1 65 (jz + 1)) = how then (if z.2 ≤ (z.1 63 (jz + 1)) then ((up2 z.1 64 (jz + 1) z.2), (z.2 - ((up2 z.1 64 (jz + 1) z.2) 64 (jz + 1)))) else ((up2 z.1 64 (jz + 1) (z.1 63 (jz + 1))), (z.2 - ((up2 z.1 64 (jz + 1) (z.1 63 (jz + 1))) 64 (jz + 1))))) else (z.1, z.2)) else (z.1, z.2)))
theorem inr_row {c how : Int32} {z : mM × Int32} {r : Nat} (h : r ≠ 64) : ∀ n, (itN (inrB c how) z n).1 r = z.1 r
  | 0 => rfl
  | n + 1 => by
    refine Eq.trans ?_ (inr_row (c := c) (how := how) h n)
    show (inrB c how (itN (inrB c how) z n) n).1 r = _
    unfold inrB
    repeat' split
    all_goals first | rfl | exact up2_row h
theorem l_inr (E : gE) {d : Nat} {n : Nat} (c how left : Int32) (h : hp_T) (hG : gr h) (M : mM) (N : mN) (hN : M 0 62 = nI n) (hn2 : n ≤ 200) {v : Option Value} {hz : hp_T} (K : gf E mX12_inRow d 99 [(0, .ref (E.1 + 247)), (1, .int c), (2, .int how), (3, .int left), (4, .int ((itN (inrB c how) (M, left) n).2)), (5, .int (nI (n + 1)))] [] (hm h ((itN (inrB c how) (M, left) n).1) N) v hz) : ∀ (kz jz : Nat), jz + kz = n → gf E mX12_inRow d 6 [(0, .ref (E.1 + 247)), (1, .int c), (2, .int how), (3, .int left), (4, .int ((itN (inrB c how) (M, left) jz).2)), (5, .int (nI (jz + 1)))] [] (hm h ((itN (inrB c how) (M, left) jz).1) N) v hz := by
  intro kz
  induction kz with
  | zero =>
    intro jz hj
    have hj : n = jz := by omega
    subst hj
    have Iz := inr_row (c := c) (how := how) (z := (M, left)) (r := 0) (by decide) n
    generalize ez : (itN (inrB c how) (M, left) n) = z at K Iz ⊢
    refine gf_iload dX12_inRow_6 rfl ?_
    refine gf_aload_n 0 dX12_inRow_8 rfl rfl ?_
    refine gf_getI flX12_424 rfl dX12_inRow_9 (gt_247 hG) ?_
    rw [show hp_i (hm h z.1 N) 247 62 = nI n from (congrFun Iz 62).trans hN]
    refine gf_icmp_gt 99 dX12_inRow_12 rfl (fun _ => ?_) (fun q => absurd (nI_lt (by omega) (by omega)) q)
    exact gf_lw K ⟨rfl, rfl, rfl, rfl, rfl, rfl, trivial⟩
  | succ kz ih =>
    intro jz hj
    have ih1 := ih (jz + 1) (by omega)
    have Iz := inr_row (c := c) (how := how) (z := (M, left)) (r := 0) (by decide) jz
    rw [show (itN (inrB c how) (M, left) (jz + 1)) = inrB c how (itN (inrB c how) (M, left) jz) jz from itN_s _ _ _] at ih1
    generalize (itN (inrB c how) (M, left) jz) = z at ih1 Iz ⊢
    refine gf_iload dX12_inRow_6 rfl ?_
    refine gf_aload_n 0 dX12_inRow_8 rfl rfl ?_
    refine gf_getI flX12_424 rfl dX12_inRow_9 (gt_247 hG) ?_
    rw [show hp_i (hm h z.1 N) 247 62 = nI n from (congrFun Iz 62).trans hN]
    refine gf_icmp_gt 99 dX12_inRow_12 rfl (fun q => absurd q (nI_nlt (by omega) (by omega))) (fun _ => ?_)
    refine gf_aload_n 0 dX12_inRow_15 rfl rfl ?_
    refine gf_getR flX12_222 rfl dX12_inRow_16 (gt_247 hG) (gp_247_88 hG) ?_
    refine gf_iload dX12_inRow_19 rfl ?_
    refine gf_zald 201 dX12_inRow_21 (gt_313 hG) (gl_313 hG) rfl (by omega) (by decide) ?_
    refine gf_if_eq 93 dX12_inRow_22 rfl (fun zc22 => ?_) (fun zc22 => ?_)
    · refine gf_iinc (1) dX12_inRow_93 rfl rfl (Nat.le_of_ble_eq_true rfl) ?_
      refine gf_goto 6 dX12_inRow_96 rfl ?_
      rw [show inrB c how z jz = (z.1, z.2) from if_pos zc22] at ih1
      exact gf_lw ih1 ⟨rfl, rfl, rfl, rfl, rfl, lvE (nI_1 (jz + 1)), trivial⟩
    · refine gf_aload_n 0 dX12_inRow_25 rfl rfl ?_
      refine gf_getR flX12_167 rfl dX12_inRow_26 (gt_247 hG) (gp_247_65 hG) ?_
      refine gf_iload dX12_inRow_29 rfl ?_
      refine gf_iald 201 dX12_inRow_31 (gt_296 hG) (gl_296 hG) rfl (by omega) (by decide) ?_
      refine gf_iload_n 1 dX12_inRow_32 rfl rfl ?_
      refine gf_icmp_ne 93 dX12_inRow_33 rfl (fun zc33 => ?_) (fun zc33 => ?_)
      · refine gf_iinc (1) dX12_inRow_93 rfl rfl (Nat.le_of_ble_eq_true rfl) ?_
        refine gf_goto 6 dX12_inRow_96 rfl ?_
        rw [show inrB c how z jz = (z.1, z.2) from (if_neg zc22).trans (if_neg zc33)] at ih1
        exact gf_lw ih1 ⟨rfl, rfl, rfl, rfl, rfl, lvE (nI_1 (jz + 1)), trivial⟩
      · refine gf_aload_n 0 dX12_inRow_36 rfl rfl ?_
        refine gf_getR flX12_219 rfl dX12_inRow_37 (gt_247 hG) (gp_247_87 hG) ?_
        refine gf_iload dX12_inRow_40 rfl ?_
        refine gf_iald 201 dX12_inRow_42 (gt_312 hG) (gl_312 hG) rfl (by omega) (by decide) ?_
        refine gf_iload_n 2 dX12_inRow_43 rfl rfl ?_
        refine gf_icmp_eq 50 dX12_inRow_44 rfl (fun zc44 => ?_) (fun zc44 => ?_)
        · refine gf_aload_n 0 dX12_inRow_50 rfl rfl ?_
          refine gf_getR flX12_216 rfl dX12_inRow_51 (gt_247 hG) (gp_247_86 hG) ?_
          refine gf_iload dX12_inRow_54 rfl ?_
          refine gf_aload_n 0 dX12_inRow_56 rfl rfl ?_
          refine gf_getR flX12_213 rfl dX12_inRow_57 (gt_247 hG) (gp_247_85 hG) ?_
          refine gf_iload dX12_inRow_60 rfl ?_
          refine gf_iald 201 dX12_inRow_62 (gt_310 hG) (gl_310 hG) rfl (by omega) (by decide) ?_
          refine gf_iload dX12_inRow_63 rfl ?_
          refine gf_icmp_ge 78 dX12_inRow_65 rfl (fun zc65 => ?_) (fun zc65 => ?_)
          · refine gf_iload dX12_inRow_78 rfl ?_
            refine gf_iast 201 dX12_inRow_80 (gt_311 hG) (gl_311 hG) rfl (by omega) (by decide) ?_
            rw [mI_64]
            refine gf_iload dX12_inRow_81 rfl ?_
            refine gf_aload_n 0 dX12_inRow_83 rfl rfl ?_
            refine gf_getR flX12_216 rfl dX12_inRow_84 (gt_247 hG) (gp_247_86 hG) ?_
            refine gf_iload dX12_inRow_87 rfl ?_
            refine gf_iald 201 dX12_inRow_89 (gt_311 hG) (gl_311 hG) rfl (by omega) (by decide) ?_
            refine gf_isub dX12_inRow_90 ?_
            refine gf_istore dX12_inRow_91 (Nat.le_of_ble_eq_true rfl) ?_
            refine gf_iinc (1) dX12_inRow_93 rfl rfl (Nat.le_of_ble_eq_true rfl) ?_
            refine gf_goto 6 dX12_inRow_96 rfl ?_
            rw [show inrB c how z jz = ((up2 z.1 64 (jz + 1) z.2), (z.2 - ((up2 z.1 64 (jz + 1) z.2) 64 (jz + 1)))) from (if_neg zc22).trans ((if_pos zc33).trans ((if_pos zc44).trans (if_pos zc65)))] at ih1
            exact gf_lw ih1 ⟨rfl, rfl, rfl, rfl, rfl, lvE (nI_1 (jz + 1)), trivial⟩
          · refine gf_aload_n 0 dX12_inRow_68 rfl rfl ?_
            refine gf_getR flX12_213 rfl dX12_inRow_69 (gt_247 hG) (gp_247_85 hG) ?_
            refine gf_iload dX12_inRow_72 rfl ?_
            refine gf_iald 201 dX12_inRow_74 (gt_310 hG) (gl_310 hG) rfl (by omega) (by decide) ?_
            refine gf_goto 80 dX12_inRow_75 rfl ?_
            refine gf_iast 201 dX12_inRow_80 (gt_311 hG) (gl_311 hG) rfl (by omega) (by decide) ?_
            rw [mI_64]
            refine gf_iload dX12_inRow_81 rfl ?_
            refine gf_aload_n 0 dX12_inRow_83 rfl rfl ?_
            refine gf_getR flX12_216 rfl dX12_inRow_84 (gt_247 hG) (gp_247_86 hG) ?_
            refine gf_iload dX12_inRow_87 rfl ?_
            refine gf_iald 201 dX12_inRow_89 (gt_311 hG) (gl_311 hG) rfl (by omega) (by decide) ?_
            refine gf_isub dX12_inRow_90 ?_
            refine gf_istore dX12_inRow_91 (Nat.le_of_ble_eq_true rfl) ?_
            refine gf_iinc (1) dX12_inRow_93 rfl rfl (Nat.le_of_ble_eq_true rfl) ?_
            refine gf_goto 6 dX12_inRow_96 rfl ?_
            rw [show inrB c how z jz = ((up2 z.1 64 (jz + 1) (z.1 63 (jz + 1))), (z.2 - ((up2 z.1 64 (jz + 1) (z.1 63 (jz + 1))) 64 (jz + 1)))) from (if_neg zc22).trans ((if_pos zc33).trans ((if_pos zc44).trans (if_neg zc65)))] at ih1
            exact gf_lw ih1 ⟨rfl, rfl, rfl, rfl, rfl, lvE (nI_1 (jz + 1)), trivial⟩
        · refine gf_goto 93 dX12_inRow_47 rfl ?_
          refine gf_iinc (1) dX12_inRow_93 rfl rfl (Nat.le_of_ble_eq_true rfl) ?_
          refine gf_goto 6 dX12_inRow_96 rfl ?_
          rw [show inrB c how z jz = (z.1, z.2) from (if_neg zc22).trans ((if_pos zc33).trans (if_neg zc44))] at ih1
          exact gf_lw ih1 ⟨rfl, rfl, rfl, rfl, rfl, lvE (nI_1 (jz + 1)), trivial⟩
def inrS (n : Nat) (c how left : Int32) (M : mM) : mM × Int32 := itN (inrB c how) (M, left) n
theorem e_X12_inRow (E : gE) {d : Nat} {n : Nat} (c how left : Int32) (h : hp_T) (hG : gr h) (M : mM) (N : mN) (hN : M 0 62 = nI n) (hn2 : n ≤ 200) : ev E mX12_inRow d [.ref (E.1 + 247), .int c, .int how, .int left] (hm h M N) (some (.int (inrS n c how left M).2)) (hm h (inrS n c how left M).1 N) := by
  refine ev_of rfl (fun q => absurd q (by decide)) (Nat.le_of_ble_eq_true rfl) ?_
  refine gf_iload_n 3 dX12_inRow_0 rfl rfl ?_
  refine gf_istore dX12_inRow_1 (Nat.le_of_ble_eq_true rfl) ?_
  refine gf_iconst (1) dX12_inRow_3 rfl ?_
  refine gf_istore dX12_inRow_4 (Nat.le_of_ble_eq_true rfl) ?_
  refine gf_lw (l_inr E c how left h hG M N hN hn2 ?_ n 0 (by omega)) ⟨rfl, rfl, rfl, rfl, rfl, rfl, trivial⟩
  refine gf_iload dX12_inRow_99 rfl ?_
  exact gf_iretE dX12_inRow_101 rfl (rfl) (rfl)
def bpaB (M : mM) (c : Int32) (z : Int64) (jz : Nat) : Int64 := (if (M 66 (jz + 1)) = 0 then z else (if (M 49 (jz + 1)) = c then (if (M 65 (jz + 1)) = 1 then (z + (Int32.toInt64 (M 63 (jz + 1)))) else z) else z))
theorem l_bpa (E : gE) {d : Nat} {n : Nat} (c left : Int32) (h : hp_T) (hG : gr h) (M : mM) (N : mN) (hN : M 0 62 = nI n) (hn2 : n ≤ 200) {v : Option Value} {hz : hp_T} (K : gf E mX12_byParts d 63 [(0, .ref (E.1 + 247)), (1, .int c), (2, .int left), (3, .long (itN (bpaB M c) 0 n)), (5, .int (nI (n + 1)))] [] (hm h M N) v hz) : ∀ (kz jz : Nat), jz + kz = n → gf E mX12_byParts d 5 [(0, .ref (E.1 + 247)), (1, .int c), (2, .int left), (3, .long (itN (bpaB M c) 0 jz)), (5, .int (nI (jz + 1)))] [] (hm h M N) v hz := by
  intro kz
  induction kz with
  | zero =>
    intro jz hj
    have hj : n = jz := by omega
    subst hj
    generalize ez : (itN (bpaB M c) 0 n) = z at K ⊢
    refine gf_iload dX12_byParts_5 rfl ?_
    refine gf_aload_n 0 dX12_byParts_7 rfl rfl ?_
    refine gf_getI flX12_424 rfl dX12_byParts_8 (gt_247 hG) ?_
    rw [show hp_i (hm h M N) 247 62 = nI n from hN]
    refine gf_icmp_gt 63 dX12_byParts_11 rfl (fun _ => ?_) (fun q => absurd (nI_lt (by omega) (by omega)) q)
    exact gf_lw K ⟨rfl, rfl, rfl, rfl, rfl, trivial⟩
  | succ kz ih =>
    intro jz hj
    have ih1 := ih (jz + 1) (by omega)
    rw [show (itN (bpaB M c) 0 (jz + 1)) = bpaB M c (itN (bpaB M c) 0 jz) jz from itN_s _ _ _] at ih1
    generalize (itN (bpaB M c) 0 jz) = z at ih1 ⊢
    refine gf_iload dX12_byParts_5 rfl ?_
    refine gf_aload_n 0 dX12_byParts_7 rfl rfl ?_
    refine gf_getI flX12_424 rfl dX12_byParts_8 (gt_247 hG) ?_
    rw [show hp_i (hm h M N) 247 62 = nI n from hN]
    refine gf_icmp_gt 63 dX12_byParts_11 rfl (fun q => absurd q (nI_nlt (by omega) (by omega))) (fun _ => ?_)
    refine gf_aload_n 0 dX12_byParts_14 rfl rfl ?_
    refine gf_getR flX12_222 rfl dX12_byParts_15 (gt_247 hG) (gp_247_88 hG) ?_
    refine gf_iload dX12_byParts_18 rfl ?_
    refine gf_zald 201 dX12_byParts_20 (gt_313 hG) (gl_313 hG) rfl (by omega) (by decide) ?_
    refine gf_if_eq 57 dX12_byParts_21 rfl (fun zc21 => ?_) (fun zc21 => ?_)
    · refine gf_iinc (1) dX12_byParts_57 rfl rfl (Nat.le_of_ble_eq_true rfl) ?_
      refine gf_goto 5 dX12_byParts_60 rfl ?_
      rw [show bpaB M c z jz = z from if_pos zc21] at ih1
      exact gf_lw ih1 ⟨rfl, rfl, rfl, rfl, lvE (nI_1 (jz + 1)), trivial⟩
    · refine gf_aload_n 0 dX12_byParts_24 rfl rfl ?_
      refine gf_getR flX12_167 rfl dX12_byParts_25 (gt_247 hG) (gp_247_65 hG) ?_
      refine gf_iload dX12_byParts_28 rfl ?_
      refine gf_iald 201 dX12_byParts_30 (gt_296 hG) (gl_296 hG) rfl (by omega) (by decide) ?_
      refine gf_iload_n 1 dX12_byParts_31 rfl rfl ?_
      refine gf_icmp_ne 57 dX12_byParts_32 rfl (fun zc32 => ?_) (fun zc32 => ?_)
      · refine gf_iinc (1) dX12_byParts_57 rfl rfl (Nat.le_of_ble_eq_true rfl) ?_
        refine gf_goto 5 dX12_byParts_60 rfl ?_
        rw [show bpaB M c z jz = z from (if_neg zc21).trans (if_neg zc32)] at ih1
        exact gf_lw ih1 ⟨rfl, rfl, rfl, rfl, lvE (nI_1 (jz + 1)), trivial⟩
      · refine gf_aload_n 0 dX12_byParts_35 rfl rfl ?_
        refine gf_getR flX12_219 rfl dX12_byParts_36 (gt_247 hG) (gp_247_87 hG) ?_
        refine gf_iload dX12_byParts_39 rfl ?_
        refine gf_iald 201 dX12_byParts_41 (gt_312 hG) (gl_312 hG) rfl (by omega) (by decide) ?_
        refine gf_iconst (1) dX12_byParts_42 rfl ?_
        refine gf_icmp_ne 57 dX12_byParts_43 rfl (fun zc43 => ?_) (fun zc43 => ?_)
        · refine gf_iinc (1) dX12_byParts_57 rfl rfl (Nat.le_of_ble_eq_true rfl) ?_
          refine gf_goto 5 dX12_byParts_60 rfl ?_
          rw [show bpaB M c z jz = z from (if_neg zc21).trans ((if_pos zc32).trans (if_neg zc43))] at ih1
          exact gf_lw ih1 ⟨rfl, rfl, rfl, rfl, lvE (nI_1 (jz + 1)), trivial⟩
        · refine gf_lload_n 3 dX12_byParts_46 rfl rfl ?_
          refine gf_aload_n 0 dX12_byParts_47 rfl rfl ?_
          refine gf_getR flX12_213 rfl dX12_byParts_48 (gt_247 hG) (gp_247_85 hG) ?_
          refine gf_iload dX12_byParts_51 rfl ?_
          refine gf_iald 201 dX12_byParts_53 (gt_310 hG) (gl_310 hG) rfl (by omega) (by decide) ?_
          refine gf_i2l dX12_byParts_54 ?_
          refine gf_ladd dX12_byParts_55 ?_
          refine gf_lstore_n 3 dX12_byParts_56 rfl (Nat.le_of_ble_eq_true rfl) ?_
          refine gf_iinc (1) dX12_byParts_57 rfl rfl (Nat.le_of_ble_eq_true rfl) ?_
          refine gf_goto 5 dX12_byParts_60 rfl ?_
          rw [show bpaB M c z jz = (z + (Int32.toInt64 (M 63 (jz + 1)))) from (if_neg zc21).trans ((if_pos zc32).trans (if_pos zc43))] at ih1
          exact gf_lw ih1 ⟨rfl, rfl, rfl, rfl, lvE (nI_1 (jz + 1)), trivial⟩
def bpaS (n : Nat) (c : Int32) (M : mM) : Int64 := itN (bpaB M c) 0 n
def bpfB (c left : Int32) (al : Int64) (z : (mM × mN) × Int32) (jz : Nat) : (mM × mN) × Int32 := (if (z.1.1 66 (jz + 1)) = 0 then ((z.1.1, z.1.2), z.2) else (if (z.1.1 49 (jz + 1)) = c then (if (z.1.1 65 (jz + 1)) = 1 then (((up2 z.1.1 64 (jz + 1) (Int64.toInt32 (((Int32.toInt64 left) * (Int32.toInt64 (z.1.1 63 (jz + 1)))) / al))), (up2 z.1.2 67 (jz + 1) (((Int32.toInt64 left) * (Int32.toInt64 (z.1.1 63 (jz + 1)))) - ((Int32.toInt64 left) * (Int32.toInt64 (z.1.1 63 (jz + 1)))) / al * al))), (z.2 - ((up2 z.1.1 64 (jz + 1) (Int64.toInt32 (((Int32.toInt64 left) * (Int32.toInt64 (z.1.1 63 (jz + 1)))) / al))) 64 (jz + 1)))) else ((z.1.1, z.1.2), z.2)) else ((z.1.1, z.1.2), z.2)))
theorem bpf_row {c left : Int32} {al : Int64} {z : (mM × mN) × Int32} {r : Nat} (h : r ≠ 64) : ∀ n, (itN (bpfB c left al) z n).1.1 r = z.1.1 r
  | 0 => rfl
  | n + 1 => by
    refine Eq.trans ?_ (bpf_row (c := c) (left := left) (al := al) h n)
    show (bpfB c left al (itN (bpfB c left al) z n) n).1.1 r = _
    unfold bpfB
    repeat' split
    all_goals first | rfl | exact up2_row h
theorem l_bpf (E : gE) {d : Nat} {n : Nat} (c left : Int32) (al : Int64) (ha : ¬ al = 0) (h : hp_T) (hG : gr h) (M : mM) (N : mN) (hN : M 0 62 = nI n) (hn2 : n ≤ 200) {v : Option Value} {hz : hp_T} (K : gf E mX12_byParts d 182 [(0, .ref (E.1 + 247)), (1, .int c), (2, .int left), (3, .long al), (5, .int ((itN (bpfB c left al) ((M, N), left) n).2))] [] (hm h ((itN (bpfB c left al) ((M, N), left) n).1.1) ((itN (bpfB c left al) ((M, N), left) n).1.2)) v hz) : ∀ (kz jz : Nat), jz + kz = n → gf E mX12_byParts d 84 [(0, .ref (E.1 + 247)), (1, .int c), (2, .int left), (3, .long al), (5, .int ((itN (bpfB c left al) ((M, N), left) jz).2)), (6, .int (nI (jz + 1)))] [] (hm h ((itN (bpfB c left al) ((M, N), left) jz).1.1) ((itN (bpfB c left al) ((M, N), left) jz).1.2)) v hz := by
  intro kz
  induction kz with
  | zero =>
    intro jz hj
    have hj : n = jz := by omega
    subst hj
    have Iz := bpf_row (c := c) (left := left) (al := al) (z := ((M, N), left)) (r := 0) (by decide) n
    generalize ez : (itN (bpfB c left al) ((M, N), left) n) = z at K Iz ⊢
    refine gf_iload dX12_byParts_84 rfl ?_
    refine gf_aload_n 0 dX12_byParts_86 rfl rfl ?_
    refine gf_getI flX12_424 rfl dX12_byParts_87 (gt_247 hG) ?_
    rw [show hp_i (hm h z.1.1 z.1.2) 247 62 = nI n from (congrFun Iz 62).trans hN]
    refine gf_icmp_gt 182 dX12_byParts_90 rfl (fun _ => ?_) (fun q => absurd (nI_lt (by omega) (by omega)) q)
    exact gf_lw K ⟨rfl, rfl, rfl, rfl, rfl, trivial⟩
  | succ kz ih =>
    intro jz hj
    have ih1 := ih (jz + 1) (by omega)
    have Iz := bpf_row (c := c) (left := left) (al := al) (z := ((M, N), left)) (r := 0) (by decide) jz
    rw [show (itN (bpfB c left al) ((M, N), left) (jz + 1)) = bpfB c left al (itN (bpfB c left al) ((M, N), left) jz) jz from itN_s _ _ _] at ih1
    generalize (itN (bpfB c left al) ((M, N), left) jz) = z at ih1 Iz ⊢
    refine gf_iload dX12_byParts_84 rfl ?_
    refine gf_aload_n 0 dX12_byParts_86 rfl rfl ?_
    refine gf_getI flX12_424 rfl dX12_byParts_87 (gt_247 hG) ?_
    rw [show hp_i (hm h z.1.1 z.1.2) 247 62 = nI n from (congrFun Iz 62).trans hN]
    refine gf_icmp_gt 182 dX12_byParts_90 rfl (fun q => absurd q (nI_nlt (by omega) (by omega))) (fun _ => ?_)
    refine gf_aload_n 0 dX12_byParts_93 rfl rfl ?_
    refine gf_getR flX12_222 rfl dX12_byParts_94 (gt_247 hG) (gp_247_88 hG) ?_
    refine gf_iload dX12_byParts_97 rfl ?_
    refine gf_zald 201 dX12_byParts_99 (gt_313 hG) (gl_313 hG) rfl (by omega) (by decide) ?_
    refine gf_if_eq 176 dX12_byParts_100 rfl (fun zc100 => ?_) (fun zc100 => ?_)
    · refine gf_iinc (1) dX12_byParts_176 rfl rfl (Nat.le_of_ble_eq_true rfl) ?_
      refine gf_goto 84 dX12_byParts_179 rfl ?_
      rw [show bpfB c left al z jz = ((z.1.1, z.1.2), z.2) from if_pos zc100] at ih1
      exact gf_lw ih1 ⟨rfl, rfl, rfl, rfl, rfl, lvE (nI_1 (jz + 1)), trivial⟩
    · refine gf_aload_n 0 dX12_byParts_103 rfl rfl ?_
      refine gf_getR flX12_167 rfl dX12_byParts_104 (gt_247 hG) (gp_247_65 hG) ?_
      refine gf_iload dX12_byParts_107 rfl ?_
      refine gf_iald 201 dX12_byParts_109 (gt_296 hG) (gl_296 hG) rfl (by omega) (by decide) ?_
      refine gf_iload_n 1 dX12_byParts_110 rfl rfl ?_
      refine gf_icmp_ne 176 dX12_byParts_111 rfl (fun zc111 => ?_) (fun zc111 => ?_)
      · refine gf_iinc (1) dX12_byParts_176 rfl rfl (Nat.le_of_ble_eq_true rfl) ?_
        refine gf_goto 84 dX12_byParts_179 rfl ?_
        rw [show bpfB c left al z jz = ((z.1.1, z.1.2), z.2) from (if_neg zc100).trans (if_neg zc111)] at ih1
        exact gf_lw ih1 ⟨rfl, rfl, rfl, rfl, rfl, lvE (nI_1 (jz + 1)), trivial⟩
      · refine gf_aload_n 0 dX12_byParts_114 rfl rfl ?_
        refine gf_getR flX12_219 rfl dX12_byParts_115 (gt_247 hG) (gp_247_87 hG) ?_
        refine gf_iload dX12_byParts_118 rfl ?_
        refine gf_iald 201 dX12_byParts_120 (gt_312 hG) (gl_312 hG) rfl (by omega) (by decide) ?_
        refine gf_iconst (1) dX12_byParts_121 rfl ?_
        refine gf_icmp_eq 128 dX12_byParts_122 rfl (fun zc122 => ?_) (fun zc122 => ?_)
        · refine gf_iload_n 2 dX12_byParts_128 rfl rfl ?_
          refine gf_i2l dX12_byParts_129 ?_
          refine gf_aload_n 0 dX12_byParts_130 rfl rfl ?_
          refine gf_getR flX12_213 rfl dX12_byParts_131 (gt_247 hG) (gp_247_85 hG) ?_
          refine gf_iload dX12_byParts_134 rfl ?_
          refine gf_iald 201 dX12_byParts_136 (gt_310 hG) (gl_310 hG) rfl (by omega) (by decide) ?_
          refine gf_i2l dX12_byParts_137 ?_
          refine gf_lmul dX12_byParts_138 ?_
          refine gf_lstore dX12_byParts_139 (Nat.le_of_ble_eq_true rfl) ?_
          refine gf_aload_n 0 dX12_byParts_141 rfl rfl ?_
          refine gf_getR flX12_216 rfl dX12_byParts_142 (gt_247 hG) (gp_247_86 hG) ?_
          refine gf_iload dX12_byParts_145 rfl ?_
          refine gf_lload dX12_byParts_147 rfl ?_
          refine gf_lload_n 3 dX12_byParts_149 rfl rfl ?_
          refine gf_ldiv dX12_byParts_150 ha ?_
          refine gf_l2i dX12_byParts_151 ?_
          refine gf_iast 201 dX12_byParts_152 (gt_311 hG) (gl_311 hG) rfl (by omega) (by decide) ?_
          rw [mI_64]
          refine gf_aload_n 0 dX12_byParts_153 rfl rfl ?_
          refine gf_getR flX12_225 rfl dX12_byParts_154 (gt_247 hG) (gp_247_89 hG) ?_
          refine gf_iload dX12_byParts_157 rfl ?_
          refine gf_lload dX12_byParts_159 rfl ?_
          refine gf_lload_n 3 dX12_byParts_161 rfl rfl ?_
          refine gf_lrem dX12_byParts_162 ha ?_
          refine gf_last 201 dX12_byParts_163 (gt_314 hG) (gl_314 hG) rfl (by omega) (by decide) ?_
          rw [mL_67]
          refine gf_iload dX12_byParts_164 rfl ?_
          refine gf_aload_n 0 dX12_byParts_166 rfl rfl ?_
          refine gf_getR flX12_216 rfl dX12_byParts_167 (gt_247 hG) (gp_247_86 hG) ?_
          refine gf_iload dX12_byParts_170 rfl ?_
          refine gf_iald 201 dX12_byParts_172 (gt_311 hG) (gl_311 hG) rfl (by omega) (by decide) ?_
          refine gf_isub dX12_byParts_173 ?_
          refine gf_istore dX12_byParts_174 (Nat.le_of_ble_eq_true rfl) ?_
          refine gf_iinc (1) dX12_byParts_176 rfl rfl (Nat.le_of_ble_eq_true rfl) ?_
          refine gf_goto 84 dX12_byParts_179 rfl ?_
          rw [show bpfB c left al z jz = (((up2 z.1.1 64 (jz + 1) (Int64.toInt32 (((Int32.toInt64 left) * (Int32.toInt64 (z.1.1 63 (jz + 1)))) / al))), (up2 z.1.2 67 (jz + 1) (((Int32.toInt64 left) * (Int32.toInt64 (z.1.1 63 (jz + 1)))) - ((Int32.toInt64 left) * (Int32.toInt64 (z.1.1 63 (jz + 1)))) / al * al))), (z.2 - ((up2 z.1.1 64 (jz + 1) (Int64.toInt32 (((Int32.toInt64 left) * (Int32.toInt64 (z.1.1 63 (jz + 1)))) / al))) 64 (jz + 1)))) from (if_neg zc100).trans ((if_pos zc111).trans (if_pos zc122))] at ih1
          exact gf_lw ih1 ⟨rfl, rfl, rfl, rfl, rfl, lvE (nI_1 (jz + 1)), trivial⟩
        · refine gf_goto 176 dX12_byParts_125 rfl ?_
          refine gf_iinc (1) dX12_byParts_176 rfl rfl (Nat.le_of_ble_eq_true rfl) ?_
          refine gf_goto 84 dX12_byParts_179 rfl ?_
          rw [show bpfB c left al z jz = ((z.1.1, z.1.2), z.2) from (if_neg zc100).trans ((if_pos zc111).trans (if_neg zc122))] at ih1
          exact gf_lw ih1 ⟨rfl, rfl, rfl, rfl, rfl, lvE (nI_1 (jz + 1)), trivial⟩
def bpgB (M : mM) (N : mN) (c : Int32) (z : Int32) (jz : Nat) : Int32 := (if (M 66 (jz + 1)) = 0 then z else (if (M 49 (jz + 1)) = c then (if (M 65 (jz + 1)) = 1 then (if z = 0 then (nI (jz + 1)) else (if (lg_cmp (N 67 (jz + 1)) (N 67 z.toNatClampNeg)) ≤ 0 then z else (nI (jz + 1)))) else z) else z))
theorem ax_ixn {x : Int32} {n : Nat} (h : ∃ a, a ≤ n ∧ x = nI a) (hn : n ≤ 100000) : x = nI x.toNatClampNeg ∧ x.toNatClampNeg ≤ n := by
  obtain ⟨a, ha, rfl⟩ := h
  rw [nI_clamp (by omega)]
  exact ⟨rfl, ha⟩
theorem bpg_I (M : mM) (N : mN) (c : Int32) : ∀ n, ∃ a, a ≤ n ∧ itN (bpgB M N c) 0 n = nI a
  | 0 => ⟨0, Nat.le_refl _, rfl⟩
  | n + 1 => by
    obtain ⟨a, ha, e⟩ := bpg_I M N c n
    rw [itN_s]
    generalize itN (bpgB M N c) 0 n = z at e ⊢
    unfold bpgB
    repeat' split
    all_goals first | exact ⟨a, Nat.le_succ_of_le ha, e⟩ | exact ⟨n + 1, Nat.le_refl _, rfl⟩
theorem l_bpg (E : gE) {d : Nat} {n : Nat} (c left lk : Int32) (al : Int64) (h : hp_T) (hG : gr h) (M : mM) (N : mN) (hN : M 0 62 = nI n) (hn2 : n ≤ 200) {v : Option Value} {hz : hp_T} (K : gf E mX12_byParts d 267 [(0, .ref (E.1 + 247)), (1, .int c), (2, .int left), (3, .long al), (5, .int lk), (6, .int (itN (bpgB M N c) 0 n))] [] (hm h M N) v hz) : ∀ (kz jz : Nat), jz + kz = n → gf E mX12_byParts d 193 [(0, .ref (E.1 + 247)), (1, .int c), (2, .int left), (3, .long al), (5, .int lk), (6, .int (itN (bpgB M N c) 0 jz)), (7, .int (nI (jz + 1)))] [] (hm h M N) v hz := by
  intro kz
  induction kz with
  | zero =>
    intro jz hj
    have hj : n = jz := by omega
    subst hj
    have Iz := bpg_I M N c n
    generalize ez : (itN (bpgB M N c) 0 n) = z at K Iz ⊢
    refine gf_iload dX12_byParts_193 rfl ?_
    refine gf_aload_n 0 dX12_byParts_195 rfl rfl ?_
    refine gf_getI flX12_424 rfl dX12_byParts_196 (gt_247 hG) ?_
    rw [show hp_i (hm h M N) 247 62 = nI n from hN]
    refine gf_icmp_gt 267 dX12_byParts_199 rfl (fun _ => ?_) (fun q => absurd (nI_lt (by omega) (by omega)) q)
    exact gf_lw K ⟨rfl, rfl, rfl, rfl, rfl, rfl, trivial⟩
  | succ kz ih =>
    intro jz hj
    have ih1 := ih (jz + 1) (by omega)
    have Iz := bpg_I M N c jz
    rw [show (itN (bpgB M N c) 0 (jz + 1)) = bpgB M N c (itN (bpgB M N c) 0 jz) jz from itN_s _ _ _] at ih1
    generalize (itN (bpgB M N c) 0 jz) = z at ih1 Iz ⊢
    refine gf_iload dX12_byParts_193 rfl ?_
    refine gf_aload_n 0 dX12_byParts_195 rfl rfl ?_
    refine gf_getI flX12_424 rfl dX12_byParts_196 (gt_247 hG) ?_
    rw [show hp_i (hm h M N) 247 62 = nI n from hN]
    refine gf_icmp_gt 267 dX12_byParts_199 rfl (fun q => absurd q (nI_nlt (by omega) (by omega))) (fun _ => ?_)
    refine gf_aload_n 0 dX12_byParts_202 rfl rfl ?_
    refine gf_getR flX12_222 rfl dX12_byParts_203 (gt_247 hG) (gp_247_88 hG) ?_
    refine gf_iload dX12_byParts_206 rfl ?_
    refine gf_zald 201 dX12_byParts_208 (gt_313 hG) (gl_313 hG) rfl (by omega) (by decide) ?_
    refine gf_if_eq 261 dX12_byParts_209 rfl (fun zc209 => ?_) (fun zc209 => ?_)
    · refine gf_iinc (1) dX12_byParts_261 rfl rfl (Nat.le_of_ble_eq_true rfl) ?_
      refine gf_goto 193 dX12_byParts_264 rfl ?_
      rw [show bpgB M N c z jz = z from if_pos zc209] at ih1
      exact gf_lw ih1 ⟨rfl, rfl, rfl, rfl, rfl, rfl, lvE (nI_1 (jz + 1)), trivial⟩
    · refine gf_aload_n 0 dX12_byParts_212 rfl rfl ?_
      refine gf_getR flX12_167 rfl dX12_byParts_213 (gt_247 hG) (gp_247_65 hG) ?_
      refine gf_iload dX12_byParts_216 rfl ?_
      refine gf_iald 201 dX12_byParts_218 (gt_296 hG) (gl_296 hG) rfl (by omega) (by decide) ?_
      refine gf_iload_n 1 dX12_byParts_219 rfl rfl ?_
      refine gf_icmp_ne 261 dX12_byParts_220 rfl (fun zc220 => ?_) (fun zc220 => ?_)
      · refine gf_iinc (1) dX12_byParts_261 rfl rfl (Nat.le_of_ble_eq_true rfl) ?_
        refine gf_goto 193 dX12_byParts_264 rfl ?_
        rw [show bpgB M N c z jz = z from (if_neg zc209).trans (if_neg zc220)] at ih1
        exact gf_lw ih1 ⟨rfl, rfl, rfl, rfl, rfl, rfl, lvE (nI_1 (jz + 1)), trivial⟩
      · refine gf_aload_n 0 dX12_byParts_223 rfl rfl ?_
        refine gf_getR flX12_219 rfl dX12_byParts_224 (gt_247 hG) (gp_247_87 hG) ?_
        refine gf_iload dX12_byParts_227 rfl ?_
        refine gf_iald 201 dX12_byParts_229 (gt_312 hG) (gl_312 hG) rfl (by omega) (by decide) ?_
        refine gf_iconst (1) dX12_byParts_230 rfl ?_
        refine gf_icmp_ne 261 dX12_byParts_231 rfl (fun zc231 => ?_) (fun zc231 => ?_)
        · refine gf_iinc (1) dX12_byParts_261 rfl rfl (Nat.le_of_ble_eq_true rfl) ?_
          refine gf_goto 193 dX12_byParts_264 rfl ?_
          rw [show bpgB M N c z jz = z from (if_neg zc209).trans ((if_pos zc220).trans (if_neg zc231))] at ih1
          exact gf_lw ih1 ⟨rfl, rfl, rfl, rfl, rfl, rfl, lvE (nI_1 (jz + 1)), trivial⟩
        · refine gf_iload dX12_byParts_234 rfl ?_
          refine gf_if_eq 257 dX12_byParts_236 rfl (fun zc236 => ?_) (fun zc236 => ?_)
          · refine gf_iload dX12_byParts_257 rfl ?_
            refine gf_istore dX12_byParts_259 (Nat.le_of_ble_eq_true rfl) ?_
            refine gf_iinc (1) dX12_byParts_261 rfl rfl (Nat.le_of_ble_eq_true rfl) ?_
            refine gf_goto 193 dX12_byParts_264 rfl ?_
            rw [show bpgB M N c z jz = (nI (jz + 1)) from (if_neg zc209).trans ((if_pos zc220).trans ((if_pos zc231).trans (if_pos zc236)))] at ih1
            exact gf_lw ih1 ⟨rfl, rfl, rfl, rfl, rfl, rfl, lvE (nI_1 (jz + 1)), trivial⟩
          · refine gf_aload_n 0 dX12_byParts_239 rfl rfl ?_
            refine gf_getR flX12_225 rfl dX12_byParts_240 (gt_247 hG) (gp_247_89 hG) ?_
            refine gf_iload dX12_byParts_243 rfl ?_
            refine gf_lald 201 dX12_byParts_245 (gt_314 hG) (gl_314 hG) rfl (by omega) (by decide) ?_
            refine gf_aload_n 0 dX12_byParts_246 rfl rfl ?_
            refine gf_getR flX12_225 rfl dX12_byParts_247 (gt_247 hG) (gp_247_89 hG) ?_
            refine gf_iload dX12_byParts_250 rfl ?_
            refine gf_lald 201 dX12_byParts_252 (gt_314 hG) (gl_314 hG) (ax_ixn Iz (by omega)).1 (by have := (ax_ixn Iz (by omega)).2; omega) (by decide) ?_
            refine gf_lcmp dX12_byParts_253 ?_
            refine gf_if_le 261 dX12_byParts_254 rfl (fun zc254 => ?_) (fun zc254 => ?_)
            · refine gf_iinc (1) dX12_byParts_261 rfl rfl (Nat.le_of_ble_eq_true rfl) ?_
              refine gf_goto 193 dX12_byParts_264 rfl ?_
              rw [show bpgB M N c z jz = z from (if_neg zc209).trans ((if_pos zc220).trans ((if_pos zc231).trans ((if_neg zc236).trans (if_pos zc254))))] at ih1
              exact gf_lw ih1 ⟨rfl, rfl, rfl, rfl, rfl, rfl, lvE (nI_1 (jz + 1)), trivial⟩
            · refine gf_iload dX12_byParts_257 rfl ?_
              refine gf_istore dX12_byParts_259 (Nat.le_of_ble_eq_true rfl) ?_
              refine gf_iinc (1) dX12_byParts_261 rfl rfl (Nat.le_of_ble_eq_true rfl) ?_
              refine gf_goto 193 dX12_byParts_264 rfl ?_
              rw [show bpgB M N c z jz = (nI (jz + 1)) from (if_neg zc209).trans ((if_pos zc220).trans ((if_pos zc231).trans ((if_neg zc236).trans (if_neg zc254))))] at ih1
              exact gf_lw ih1 ⟨rfl, rfl, rfl, rfl, rfl, rfl, lvE (nI_1 (jz + 1)), trivial⟩
def bpgS (n : Nat) (c : Int32) (M : mM) (N : mN) : Nat := (itN (bpgB M N c) 0 n).toNatClampNeg
def bpwB (n : Nat) (c : Int32) (z : mM × mN) (_ : Nat) : mM × mN := (up2 z.1 64 (bpgS n c z.1 z.2) (z.1 64 (bpgS n c z.1 z.2) + 1), up2 z.2 67 (bpgS n c z.1 z.2) (-1))
theorem itN_b {α : Type} (f : α → α) (x : α) : ∀ n, itN (fun z _ => f z) x (n + 1) = itN (fun z _ => f z) (f x) n
  | 0 => rfl
  | n + 1 => by
    show f (itN (fun z _ => f z) x (n + 1)) = f (itN (fun z _ => f z) (f x) n)
    rw [itN_b f x n]
def bpwS (n : Nat) (c : Int32) (z : mM × mN) (m : Nat) : mM × mN := itN (fun y _ => bpwB n c y 0) z m
theorem l_bpw (E : gE) {d : Nat} {n : Nat} (c left : Int32) (al : Int64) (h : hp_T) (hG : gr h) (hn2 : n ≤ 200) : ∀ (kz : Nat) (M : mM) (N : mN), M 0 62 = nI n → kz < 2147483648 → gf E mX12_byParts d 182 [(0, .ref (E.1 + 247)), (1, .int c), (2, .int left), (3, .long al), (5, .int (nI kz))] [] (hm h M N) (some (.int 0)) (hm h (bpwS n c (M, N) kz).1 (bpwS n c (M, N) kz).2) := by
  intro kz
  induction kz with
  | zero =>
    intro M N hN _
    refine gf_iload dX12_byParts_182 rfl ?_
    refine gf_if_le 294 dX12_byParts_184 rfl (fun _ => ?_) (fun q => absurd (Int32.le_refl _) q)
    refine gf_iconst (0) dX12_byParts_294 rfl ?_
    exact gf_iretE dX12_byParts_295 rfl (rfl) (rfl)
  | succ kz ih =>
    intro M N hN hk
    have ih1 := ih (bpwB n c (M, N) 0).1 (bpwB n c (M, N) 0).2 (show M 0 62 = nI n from hN) (by omega)
    rw [show bpwS n c ((bpwB n c (M, N) 0).1, (bpwB n c (M, N) 0).2) kz = bpwS n c (M, N) (kz + 1) from (itN_b (fun y => bpwB n c y 0) (M, N) kz).symm] at ih1
    refine gf_iload dX12_byParts_182 rfl ?_
    refine gf_if_le 294 dX12_byParts_184 rfl (fun q => absurd q (nI_nle (by omega) (by omega))) (fun _ => ?_)
    refine gf_iconst (0) dX12_byParts_187 rfl ?_
    refine gf_istore dX12_byParts_188 (Nat.le_of_ble_eq_true rfl) ?_
    refine gf_iconst (1) dX12_byParts_190 rfl ?_
    refine gf_istore dX12_byParts_191 (Nat.le_of_ble_eq_true rfl) ?_
    refine gf_lw (l_bpg E c left _ al h hG M N hN hn2 ?_ n 0 (by omega)) ⟨rfl, rfl, rfl, rfl, rfl, rfl, rfl, trivial⟩
    refine gf_aload_n 0 dX12_byParts_267 rfl rfl ?_
    refine gf_getR flX12_216 rfl dX12_byParts_268 (gt_247 hG) (gp_247_86 hG) ?_
    refine gf_iload dX12_byParts_271 rfl ?_
    refine gf_dup2 dX12_byParts_273 rfl rfl ?_
    refine gf_iald 201 dX12_byParts_274 (gt_311 hG) (gl_311 hG) (show itN (bpgB M N c) 0 n = nI (bpgS n c M N) from (ax_ixn (bpg_I M N c n) (by omega)).1) (show (bpgS n c M N) < 201 by have : (bpgS n c M N) ≤ n := (ax_ixn (bpg_I M N c n) (by omega)).2; omega) (by decide) ?_
    refine gf_iconst (1) dX12_byParts_275 rfl ?_
    refine gf_iadd dX12_byParts_276 ?_
    refine gf_iast 201 dX12_byParts_277 (gt_311 hG) (gl_311 hG) (show itN (bpgB M N c) 0 n = nI (bpgS n c M N) from (ax_ixn (bpg_I M N c n) (by omega)).1) (show (bpgS n c M N) < 201 by have : (bpgS n c M N) ≤ n := (ax_ixn (bpg_I M N c n) (by omega)).2; omega) (by decide) ?_
    rw [mI_64]
    refine gf_aload_n 0 dX12_byParts_278 rfl rfl ?_
    refine gf_getR flX12_225 rfl dX12_byParts_279 (gt_247 hG) (gp_247_89 hG) ?_
    refine gf_iload dX12_byParts_282 rfl ?_
    refine gf_ldc2 (-1) kcX12_487 dX12_byParts_284 ?_
    refine gf_last 201 dX12_byParts_287 (gt_314 hG) (gl_314 hG) (show itN (bpgB M N c) 0 n = nI (bpgS n c M N) from (ax_ixn (bpg_I M N c n) (by omega)).1) (show (bpgS n c M N) < 201 by have : (bpgS n c M N) ≤ n := (ax_ixn (bpg_I M N c n) (by omega)).2; omega) (by decide) ?_
    rw [mL_67]
    refine gf_iinc (-1) dX12_byParts_288 rfl rfl (Nat.le_of_ble_eq_true rfl) ?_
    refine gf_goto 182 dX12_byParts_291 rfl ?_
    exact gf_lw ih1 ⟨rfl, rfl, rfl, rfl, lvE (pk_m1 kz), trivial⟩
/-- one house's parts: what is left over, the settled -/
def bypS (n : Nat) (c left : Int32) (M : mM) (N : mN) : Int32 × (mM × mN) :=
  if 0 < lg_cmp (bpaS n c M) left.toInt64 then (0, bpwS n c (itN (bpfB c left (bpaS n c M)) ((M, N), left) n).1 (itN (bpfB c left (bpaS n c M)) ((M, N), left) n).2.toNatClampNeg)
  else ((inrS n c 1 left M).2, ((inrS n c 1 left M).1, N))
theorem e_X12_byParts (E : gE) {d : Nat} (hd : 1 ≤ d) {n : Nat} (c left : Int32) (h : hp_T) (hG : gr h) (M : mM) (N : mN) (hN : M 0 62 = nI n) (hn2 : n ≤ 200) (hl : 0 ≤ left) : ev E mX12_byParts d [.ref (E.1 + 247), .int c, .int left] (hm h M N) (some (.int (bypS n c left M N).1)) (hm h (bypS n c left M N).2.1 (bypS n c left M N).2.2) := by
  refine ev_of rfl (fun q => absurd q (by decide)) (Nat.le_of_ble_eq_true rfl) ?_
  refine gf_lconst (0) dX12_byParts_0 rfl ?_
  refine gf_lstore_n 3 dX12_byParts_1 rfl (Nat.le_of_ble_eq_true rfl) ?_
  refine gf_iconst (1) dX12_byParts_2 rfl ?_
  refine gf_istore dX12_byParts_3 (Nat.le_of_ble_eq_true rfl) ?_
  refine gf_lw (l_bpa E c left h hG M N hN hn2 ?_ n 0 (by omega)) ⟨rfl, rfl, rfl, rfl, rfl, trivial⟩
  refine gf_lload_n 3 dX12_byParts_63 rfl rfl ?_
  refine gf_iload_n 2 dX12_byParts_64 rfl rfl ?_
  refine gf_i2l dX12_byParts_65 ?_
  refine gf_lcmp dX12_byParts_66 ?_
  refine gf_if_gt 78 dX12_byParts_67 rfl (fun zc67 => ?_) (fun zc67 => ?_)
  · have hal : ¬ bpaS n c M = 0 := fun q => by
      have z9 : left.toInt64 < bpaS n c M := lt_of_lg (fun w => absurd zc67 (Int32.not_lt.mpr w))
      rw [q, fa_lt64] at z9
      rw [fa_le, ti_0] at hl
      have z8 : left.toInt64.toInt = left.toInt := Int32.toInt_toInt64 left
      rw [z8] at z9
      have z7 : (0 : Int64).toInt = 0 := by decide
      omega
    refine gf_iload_n 2 dX12_byParts_78 rfl rfl ?_
    refine gf_istore dX12_byParts_79 (Nat.le_of_ble_eq_true rfl) ?_
    refine gf_iconst (1) dX12_byParts_81 rfl ?_
    refine gf_istore dX12_byParts_82 (Nat.le_of_ble_eq_true rfl) ?_
    refine gf_lw (l_bpf E c left (bpaS n c M) hal h hG M N hN hn2 ?_ n 0 (by omega)) ⟨rfl, rfl, rfl, rfl, rfl, rfl, trivial⟩
    rw [show bypS n c left M N = (0, bpwS n c (itN (bpfB c left (bpaS n c M)) ((M, N), left) n).1 (itN (bpfB c left (bpaS n c M)) ((M, N), left) n).2.toNatClampNeg) from if_pos zc67]
    have hN3 : (itN (bpfB c left (bpaS n c M)) ((M, N), left) n).1.1 0 62 = nI n := (congrFun (bpf_row (c := c) (left := left) (al := bpaS n c M) (z := ((M, N), left)) (r := 0) (by decide) n) 62).trans hN
    generalize (itN (bpfB c left (bpaS n c M)) ((M, N), left) n) = y at hN3 ⊢
    by_cases hy : 0 < y.2
    · have ey := ix_nI (c := y.2) (by rw [fa_lt, ti_0] at hy; omega)
      have hy2 : y.2.toNatClampNeg < 2147483648 := by
        have h9 : ¬ y.2 < 0 := fun q => by rw [fa_lt, ti_0] at hy q; omega
        obtain ⟨j, hj, e⟩ := nI_of h9
        rw [e, nI_clamp hj]
        exact hj
      exact gf_lw (l_bpw E c left (bpaS n c M) h hG hn2 y.2.toNatClampNeg y.1.1 y.1.2 hN3 hy2) ⟨rfl, rfl, rfl, rfl, lvE ey, trivial⟩
    · have ey : y.2.toNatClampNeg = 0 := by
        rw [fa_lt, ti_0] at hy
        show y.2.toInt.toNat = 0
        omega
      rw [ey]
      refine gf_iload dX12_byParts_182 rfl ?_
      refine gf_if_le 294 dX12_byParts_184 rfl (fun _ => ?_) (fun q => absurd (by rw [fa_le, ti_0]; rw [fa_lt, ti_0] at hy; omega) q)
      refine gf_iconst (0) dX12_byParts_294 rfl ?_
      exact gf_iretE dX12_byParts_295 rfl (rfl) (rfl)
  · refine gf_aload_n 0 dX12_byParts_70 rfl rfl ?_
    refine gf_iload_n 1 dX12_byParts_71 rfl rfl ?_
    refine gf_iconst (1) dX12_byParts_72 rfl ?_
    refine gf_iload_n 2 dX12_byParts_73 rfl rfl ?_
    refine gf_callV cmX12_inRow lkX12_598 imX12_inRow seX12_inRow ⟨rfl, by decide⟩ dX12_byParts_74 (d1 := d - 1) (by omega) (gt_247 hG) (e_X12_inRow E c 1 left h hG M N hN hn2) rfl rfl (Nat.le_of_ble_eq_true rfl) ?_
    exact gf_iretE dX12_byParts_77 rfl (by rw [show bypS n c left M N = _ from if_neg zc67]) (by rw [show bypS n c left M N = _ from if_neg zc67])
