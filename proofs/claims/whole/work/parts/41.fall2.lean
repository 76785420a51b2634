/-! ===== the class: round by round ===== -/
theorem itN_s {α : Type} (f : α → Nat → α) (x : α) (n : Nat) : itN f x (n + 1) = f (itN f x n) n := rfl
theorem cg_01 {o : Nat} {z : Int32 × (Nat → Nat → Int64)} (h : z.1 = 0 ∨ z.1 = 1) : ∀ n, (itN (cgB o) z n).1 = 0 ∨ (itN (cgB o) z n).1 = 1
  | 0 => h
  | n + 1 => by
    show zb _ = 0 ∨ zb _ = 1
    unfold zb
    split
    · exact Or.inr rfl
    · exact Or.inl rfl
theorem cgs_01 {z : Int32 × (Nat → Nat → Int64)} (h : z.1 = 0 ∨ z.1 = 1) : ∀ n, (itN cgS z n).1 = 0 ∨ (itN cgS z n).1 = 1
  | 0 => h
  | n + 1 => by
    have e := cgs_01 (z := z) h n
    rw [itN_s]
    generalize itN cgS z n = zz at e ⊢
    unfold cgS
    exact cg_01 e _
theorem nar_01 {x : Int32} (h : x = 0 ∨ x = 1) : narrow .boolean (.int x) = .int x := by
  rcases h with h | h <;> (rw [h]; rfl)
theorem fl_pt (h : hp_T) (Y : Nat → Nat → Int64) (X : Nat → Nat → Int32) {c : Nat} (hc : c < 9) : hp_i (hfl h Y X) (136 + c) = hp_i h (136 + c) := if_neg (by omega)
def w1V (F : Nat → Nat → Int32) (o p : Nat) : Int64 := (F 190 p).toInt64 * (F (136 + o) p).toInt64 / 1000
def w1B (F : Nat → Nat → Int32) (o : Nat) (Y : Nat → Nat → Int64) (p : Nat) : Nat → Nat → Int64 := up2 (up2 Y (1 + o) p (w1V F o p)) (11 + o) p (w1V F o p)
def wB (F : Nat → Nat → Int32) (Y : Nat → Nat → Int64) (o : Nat) : Nat → Nat → Int64 := up2 (up2 (itN (w1B F o) Y 9) (1 + o) 9 (F 190 o).toInt64) (11 + o) 9 (F 190 o).toInt64
abbrev wT : Type := Int32 × (Nat → Nat → Int64) × (Nat → Nat → Int32)
def wkB (F : Nat → Nat → Int32) (z : wT) (_ : Nat) : wT := if z.1 = 0 then z else ((grS F z.2.1).1, (grS F z.2.1).2, up2 z.2.2 0 0 (z.2.2 0 0 + 1))
theorem wk_stop {F : Nat → Nat → Int32} {z : wT} {j : Nat} (h : (itN (wkB F) z j).1 = 0) : ∀ k, itN (wkB F) z (j + k) = itN (wkB F) z j
  | 0 => rfl
  | k + 1 => by
    show wkB F (itN (wkB F) z (j + k)) (j + k) = _
    rw [wk_stop h k]
    exact if_pos h
def wk0 (F : Nat → Nat → Int32) (Y : Nat → Nat → Int64) (X : Nat → Nat → Int32) : wT := (1, itN (wB F) Y 9, up2 X 0 0 0)
def wkS (F : Nat → Nat → Int32) (Y : Nat → Nat → Int64) (X : Nat → Nat → Int32) : wT := itN (wkB F) (wk0 F Y X) 100
def telS (Y : Nat → Nat → Int64) (o : Nat) (t : Int32) : Int64 := if t = 0 then sumL (Y (1 + o)) 10 else if t = 1 then sumL (Y (11 + o)) 10 else if t = 2 then (if sumL (Y (11 + o)) 10 < sumL (Y (1 + o)) 10 then 1 else 0) else if t = 3 then Y (11 + o) 9 else -1
theorem l_X4_goR1 (E : gE) {d : Nat} (hd : 2 ≤ d) (h : hp_T) (hG : gr h) (Y : Nat → Nat → Int64) (X : Nat → Nat → Int32) {v : Option Value} {hz : hp_T} (K : gf E mX4_goRound d 32 [(0, .ref (E.1 + 212)), (1, .ref (E.1 + 1)), (2, .int (nI ((9 : Nat))))] [] (hfl h ((itN (grB (hp_i h)) Y ((9 : Nat)))) (X)) v hz) : ∀ (kz jz : Nat), jz + kz = (9 : Nat) → gf E mX4_goRound d 2 [(0, .ref (E.1 + 212)), (1, .ref (E.1 + 1)), (2, .int (nI (jz)))] [] (hfl h ((itN (grB (hp_i h)) Y (jz))) (X)) v hz := by
  intro kz
  induction kz with
  | zero =>
    intro jz hj
    have hj : (9 : Nat) = jz := by omega
    subst hj
    refine gf_iload_n 2 dX4_goRound_2 rfl rfl ?_
    refine gf_bipush (9) dX4_goRound_3 rfl ?_
    refine gf_icmp_ge 32 dX4_goRound_5 rfl (fun _ => ?_) (fun q => absurd (Int32.le_refl _) q)
    exact gf_lw K ⟨rfl, rfl, rfl, trivial⟩
  | succ kz ih =>
    intro jz hj
    refine gf_iload_n 2 dX4_goRound_2 rfl rfl ?_
    refine gf_bipush (9) dX4_goRound_3 rfl ?_
    refine gf_icmp_ge 32 dX4_goRound_5 rfl (fun q => absurd q (nI_ge (b := 9) (by omega) (by omega))) (fun _ => ?_)
    refine gf_aload_n 0 dX4_goRound_8 rfl rfl ?_
    refine gf_iload_n 2 dX4_goRound_9 rfl rfl ?_
    refine gf_aload_n 1 dX4_goRound_10 rfl rfl ?_
    refine gf_getR flX4_38 rfl dX4_goRound_11 (gt_1 hG) (gp_1_15 hG) ?_
    refine gf_iload_n 2 dX4_goRound_14 rfl rfl ?_
    refine gf_iald 9 dX4_goRound_15 (gt_134 hG) (gl_134 hG) rfl (by omega) (by decide) ?_
    refine gf_i2l dX4_goRound_16 ?_
    refine gf_aload_n 0 dX4_goRound_17 rfl rfl ?_
    refine gf_iload_n 2 dX4_goRound_18 rfl rfl ?_
    refine gf_callV cmX4_got lkX4_42 imX4_got seX4_got ⟨rfl, by decide⟩ dX4_goRound_19 (d1 := d - 1) (by omega) (gt_212 hG) (e_X4_got E (by omega) h hG (itN (grB (hp_i h)) Y (jz)) X (o := jz) (by omega)) rfl rfl (Nat.le_of_ble_eq_true rfl) ?_
    refine gf_ladd dX4_goRound_22 ?_
    refine gf_callV cmX4_payFrom lkX4_46 imX4_payFrom seX4_payFrom ⟨rfl, by decide⟩ dX4_goRound_23 (d1 := d - 1) (by omega) (gt_212 hG) (e_X4_payFrom E (by omega) (o := jz) ((hp_i h 134 jz).toInt64 + gotL (itN (grB (hp_i h)) Y (jz)) jz 9) h hG (itN (grB (hp_i h)) Y (jz)) X (by omega)) rfl rfl (Nat.le_of_ble_eq_true rfl) ?_
    refine gf_iinc (1) dX4_goRound_26 rfl rfl (Nat.le_of_ble_eq_true rfl) ?_
    refine gf_goto 2 dX4_goRound_29 rfl ?_
    exact gf_hE (rfl) (gf_lw (ih (jz + 1) (by omega)) ⟨rfl, rfl, lvE (nI_1 jz), trivial⟩)
theorem l_X4_goR2 (E : gE) {d : Nat} {o : Nat} (h : hp_T) (hG : gr h) (z : Int32 × (Nat → Nat → Int64)) (X : Nat → Nat → Int32) (ho : o < 9) {v : Option Value} {hz : hp_T} (K : gf E mX4_goRound d 108 [(0, .ref (E.1 + 212)), (1, .ref (E.1 + 1)), (2, .int (itN (cgB o) z ((10 : Nat))).1), (3, .int (nI o)), (4, .int (nI ((10 : Nat))))] [] (hfl h ((itN (cgB o) z ((10 : Nat))).2) (X)) v hz) : ∀ (kz jz : Nat), jz + kz = (10 : Nat) → gf E mX4_goRound d 45 [(0, .ref (E.1 + 212)), (1, .ref (E.1 + 1)), (2, .int (itN (cgB o) z (jz)).1), (3, .int (nI o)), (4, .int (nI (jz)))] [] (hfl h ((itN (cgB o) z (jz)).2) (X)) v hz := by
  intro kz
  induction kz with
  | zero =>
    intro jz hj
    have hj : (10 : Nat) = jz := by omega
    subst hj
    refine gf_iload dX4_goRound_45 rfl ?_
    refine gf_bipush (9) dX4_goRound_47 rfl ?_
    refine gf_icmp_gt 108 dX4_goRound_49 rfl (fun _ => ?_) (fun q => absurd (nI_lt (a := 9) (by omega) (by omega)) q)
    exact gf_lw K ⟨rfl, rfl, rfl, rfl, rfl, trivial⟩
  | succ kz ih =>
    intro jz hj
    refine gf_iload dX4_goRound_45 rfl ?_
    refine gf_bipush (9) dX4_goRound_47 rfl ?_
    refine gf_icmp_gt 108 dX4_goRound_49 rfl (fun q => absurd q (fun q => nI_nlt (b := jz) (a := 9) (by omega) (by omega) q)) (fun _ => ?_)
    refine gf_iload_n 2 dX4_goRound_52 rfl rfl ?_
    refine gf_if_ne 78 dX4_goRound_53 rfl (fun zc53 => ?_) (fun zc53 => ?_)
    · refine gf_iconst (1) dX4_goRound_78 rfl ?_
      refine gf_goto 83 dX4_goRound_79 rfl ?_
      refine gf_istore_n 2 dX4_goRound_83 rfl (Nat.le_of_ble_eq_true rfl) ?_
      refine gf_aload_n 0 dX4_goRound_84 rfl rfl ?_
      refine gf_getR flX4_16 rfl dX4_goRound_85 (gt_212 hG) (gp_212_2 hG) ?_
      refine gf_iload_n 3 dX4_goRound_88 rfl rfl ?_
      refine gf_rald 9 dX4_goRound_89 (gt_223 hG) (by decide) (by decide) (gl_223 hG) rfl ho (by decide) (gq_py hG ho) ?_
      refine gf_iload dX4_goRound_90 rfl ?_
      refine gf_aload_n 0 dX4_goRound_92 rfl rfl ?_
      refine gf_getR flX4_19 rfl dX4_goRound_93 (gt_212 hG) (gp_212_3 hG) ?_
      refine gf_iload_n 3 dX4_goRound_96 rfl rfl ?_
      refine gf_rald 9 dX4_goRound_97 (gt_233 hG) (by decide) (by decide) (gl_233 hG) rfl ho (by decide) (gq_nx hG ho) ?_
      refine gf_iload dX4_goRound_98 rfl ?_
      refine gf_lald 10 dX4_goRound_100 (gqt_nx hG ho) (gql_nx hG ho) rfl (by omega) (by decide) ?_
      rw [fl_nx h (itN (cgB o) z (jz)).2 X ho]
      refine gf_last 10 dX4_goRound_101 (gqt_py hG ho) (gql_py hG ho) rfl (by omega) (by decide) ?_
      rw [fs_py h (itN (cgB o) z (jz)).2 X ho]
      refine gf_iinc (1) dX4_goRound_102 rfl rfl (Nat.le_of_ble_eq_true rfl) ?_
      refine gf_goto 45 dX4_goRound_105 rfl ?_
      exact gf_hE (rfl) (gf_lw (ih (jz + 1) (by omega)) ⟨rfl, rfl, lvE ((zb_t (Or.inl zc53)).symm), rfl, lvE (nI_1 jz), trivial⟩)
    · refine gf_aload_n 0 dX4_goRound_56 rfl rfl ?_
      refine gf_getR flX4_19 rfl dX4_goRound_57 (gt_212 hG) (gp_212_3 hG) ?_
      refine gf_iload_n 3 dX4_goRound_60 rfl rfl ?_
      refine gf_rald 9 dX4_goRound_61 (gt_233 hG) (by decide) (by decide) (gl_233 hG) rfl ho (by decide) (gq_nx hG ho) ?_
      refine gf_iload dX4_goRound_62 rfl ?_
      refine gf_lald 10 dX4_goRound_64 (gqt_nx hG ho) (gql_nx hG ho) rfl (by omega) (by decide) ?_
      rw [fl_nx h (itN (cgB o) z (jz)).2 X ho]
      refine gf_aload_n 0 dX4_goRound_65 rfl rfl ?_
      refine gf_getR flX4_16 rfl dX4_goRound_66 (gt_212 hG) (gp_212_2 hG) ?_
      refine gf_iload_n 3 dX4_goRound_69 rfl rfl ?_
      refine gf_rald 9 dX4_goRound_70 (gt_223 hG) (by decide) (by decide) (gl_223 hG) rfl ho (by decide) (gq_py hG ho) ?_
      refine gf_iload dX4_goRound_71 rfl ?_
      refine gf_lald 10 dX4_goRound_73 (gqt_py hG ho) (gql_py hG ho) rfl (by omega) (by decide) ?_
      rw [fl_py h (itN (cgB o) z (jz)).2 X ho]
      refine gf_lcmp dX4_goRound_74 ?_
      refine gf_if_eq 82 dX4_goRound_75 rfl (fun zc75 => ?_) (fun zc75 => ?_)
      · refine gf_iconst (0) dX4_goRound_82 rfl ?_
        refine gf_istore_n 2 dX4_goRound_83 rfl (Nat.le_of_ble_eq_true rfl) ?_
        refine gf_aload_n 0 dX4_goRound_84 rfl rfl ?_
        refine gf_getR flX4_16 rfl dX4_goRound_85 (gt_212 hG) (gp_212_2 hG) ?_
        refine gf_iload_n 3 dX4_goRound_88 rfl rfl ?_
        refine gf_rald 9 dX4_goRound_89 (gt_223 hG) (by decide) (by decide) (gl_223 hG) rfl ho (by decide) (gq_py hG ho) ?_
        refine gf_iload dX4_goRound_90 rfl ?_
        refine gf_aload_n 0 dX4_goRound_92 rfl rfl ?_
        refine gf_getR flX4_19 rfl dX4_goRound_93 (gt_212 hG) (gp_212_3 hG) ?_
        refine gf_iload_n 3 dX4_goRound_96 rfl rfl ?_
        refine gf_rald 9 dX4_goRound_97 (gt_233 hG) (by decide) (by decide) (gl_233 hG) rfl ho (by decide) (gq_nx hG ho) ?_
        refine gf_iload dX4_goRound_98 rfl ?_
        refine gf_lald 10 dX4_goRound_100 (gqt_nx hG ho) (gql_nx hG ho) rfl (by omega) (by decide) ?_
        rw [fl_nx h (itN (cgB o) z (jz)).2 X ho]
        refine gf_last 10 dX4_goRound_101 (gqt_py hG ho) (gql_py hG ho) rfl (by omega) (by decide) ?_
        rw [fs_py h (itN (cgB o) z (jz)).2 X ho]
        refine gf_iinc (1) dX4_goRound_102 rfl rfl (Nat.le_of_ble_eq_true rfl) ?_
        refine gf_goto 45 dX4_goRound_105 rfl ?_
        exact gf_hE (rfl) (gf_lw (ih (jz + 1) (by omega)) ⟨rfl, rfl, lvE ((zb_f (fun q => q.elim (fun w => w zc53) (fun w => w ((lg_cmp_eq _ _).mp zc75)))).symm), rfl, lvE (nI_1 jz), trivial⟩)
      · refine gf_iconst (1) dX4_goRound_78 rfl ?_
        refine gf_goto 83 dX4_goRound_79 rfl ?_
        refine gf_istore_n 2 dX4_goRound_83 rfl (Nat.le_of_ble_eq_true rfl) ?_
        refine gf_aload_n 0 dX4_goRound_84 rfl rfl ?_
        refine gf_getR flX4_16 rfl dX4_goRound_85 (gt_212 hG) (gp_212_2 hG) ?_
        refine gf_iload_n 3 dX4_goRound_88 rfl rfl ?_
        refine gf_rald 9 dX4_goRound_89 (gt_223 hG) (by decide) (by decide) (gl_223 hG) rfl ho (by decide) (gq_py hG ho) ?_
        refine gf_iload dX4_goRound_90 rfl ?_
        refine gf_aload_n 0 dX4_goRound_92 rfl rfl ?_
        refine gf_getR flX4_19 rfl dX4_goRound_93 (gt_212 hG) (gp_212_3 hG) ?_
        refine gf_iload_n 3 dX4_goRound_96 rfl rfl ?_
        refine gf_rald 9 dX4_goRound_97 (gt_233 hG) (by decide) (by decide) (gl_233 hG) rfl ho (by decide) (gq_nx hG ho) ?_
        refine gf_iload dX4_goRound_98 rfl ?_
        refine gf_lald 10 dX4_goRound_100 (gqt_nx hG ho) (gql_nx hG ho) rfl (by omega) (by decide) ?_
        rw [fl_nx h (itN (cgB o) z (jz)).2 X ho]
        refine gf_last 10 dX4_goRound_101 (gqt_py hG ho) (gql_py hG ho) rfl (by omega) (by decide) ?_
        rw [fs_py h (itN (cgB o) z (jz)).2 X ho]
        refine gf_iinc (1) dX4_goRound_102 rfl rfl (Nat.le_of_ble_eq_true rfl) ?_
        refine gf_goto 45 dX4_goRound_105 rfl ?_
        exact gf_hE (rfl) (gf_lw (ih (jz + 1) (by omega)) ⟨rfl, rfl, lvE ((zb_t (p := ¬ (itN (cgB o) z (jz)).1 = 0 ∨ ¬ (itN (cgB o) z (jz)).2 (21 + o) jz = (itN (cgB o) z (jz)).2 (11 + o) jz) (Or.inr (fun w => zc75 ((lg_cmp_eq _ _).mpr w)))).symm), rfl, lvE (nI_1 jz), trivial⟩)
theorem l_X4_goR3 (E : gE) {d : Nat} (h : hp_T) (hG : gr h) (z : Int32 × (Nat → Nat → Int64)) (X : Nat → Nat → Int32) {v : Option Value} {hz : hp_T} (K : gf E mX4_goRound d 114 [(0, .ref (E.1 + 212)), (1, .ref (E.1 + 1)), (2, .int (itN cgS z ((9 : Nat))).1), (3, .int (nI ((9 : Nat))))] [] (hfl h ((itN cgS z ((9 : Nat))).2) (X)) v hz) : ∀ (kz jz : Nat), jz + kz = (9 : Nat) → gf E mX4_goRound d 36 [(0, .ref (E.1 + 212)), (1, .ref (E.1 + 1)), (2, .int (itN cgS z (jz)).1), (3, .int (nI (jz)))] [] (hfl h ((itN cgS z (jz)).2) (X)) v hz := by
  intro kz
  induction kz with
  | zero =>
    intro jz hj
    have hj : (9 : Nat) = jz := by omega
    subst hj
    refine gf_iload_n 3 dX4_goRound_36 rfl rfl ?_
    refine gf_bipush (9) dX4_goRound_37 rfl ?_
    refine gf_icmp_ge 114 dX4_goRound_39 rfl (fun _ => ?_) (fun q => absurd (Int32.le_refl _) q)
    exact gf_lw K ⟨rfl, rfl, rfl, rfl, trivial⟩
  | succ kz ih =>
    intro jz hj
    have ih1 := ih (jz + 1) (by omega)
    rw [itN_s] at ih1
    generalize (itN cgS z (jz)) = zz at ih1 ⊢
    refine gf_iload_n 3 dX4_goRound_36 rfl rfl ?_
    refine gf_bipush (9) dX4_goRound_37 rfl ?_
    refine gf_icmp_ge 114 dX4_goRound_39 rfl (fun q => absurd q (nI_ge (b := 9) (by omega) (by omega))) (fun _ => ?_)
    refine gf_iconst (0) dX4_goRound_42 rfl ?_
    refine gf_istore dX4_goRound_43 (Nat.le_of_ble_eq_true rfl) ?_
    refine gf_lw (l_X4_goR2 E (o := jz) h hG zz X (by omega) ?_ 10 0 (by omega)) ⟨rfl, rfl, rfl, rfl, rfl, trivial⟩
    rw [show itN (cgB jz) zz 10 = cgS zz jz from by unfold cgS; rfl]
    refine gf_iinc (1) dX4_goRound_108 rfl rfl (Nat.le_of_ble_eq_true rfl) ?_
    refine gf_goto 36 dX4_goRound_111 rfl ?_
    exact gf_lw ih1 ⟨rfl, rfl, rfl, lvE (nI_1 jz), trivial⟩
theorem e_X4_goRound (E : gE) {d : Nat} (hd : 2 ≤ d) (h : hp_T) (hG : gr h) (Y : Nat → Nat → Int64) (X : Nat → Nat → Int32) : ev E mX4_goRound d [.ref (E.1 + 212), .ref (E.1 + 1)] (hfl h (Y) (X)) (some (.int (grS (hp_i h) (Y)).1)) (hfl h ((grS (hp_i h) (Y)).2) (X)) := by
  refine ev_of rfl (fun q => absurd q (by decide)) (Nat.le_of_ble_eq_true rfl) ?_
  refine gf_iconst (0) dX4_goRound_0 rfl ?_
  refine gf_istore_n 2 dX4_goRound_1 rfl (Nat.le_of_ble_eq_true rfl) ?_
  refine gf_lw (l_X4_goR1 E hd h hG Y X ?_ 9 0 (by omega)) ⟨rfl, rfl, rfl, trivial⟩
  refine gf_iconst (0) dX4_goRound_32 rfl ?_
  refine gf_istore_n 2 dX4_goRound_33 rfl (Nat.le_of_ble_eq_true rfl) ?_
  refine gf_iconst (0) dX4_goRound_34 rfl ?_
  refine gf_istore_n 3 dX4_goRound_35 rfl (Nat.le_of_ble_eq_true rfl) ?_
  refine gf_lw (l_X4_goR3 E h hG (0, (itN (grB (hp_i h)) Y (9))) X ?_ 9 0 (by omega)) ⟨rfl, rfl, rfl, rfl, trivial⟩
  rw [show itN cgS (0, (itN (grB (hp_i h)) Y (9))) 9 = (grS (hp_i h) (Y)) from by unfold grS; rfl]
  refine gf_iload_n 2 dX4_goRound_114 rfl rfl ?_
  exact gf_zretE dX4_goRound_115 rfl (nar_01 (by unfold grS; exact cgs_01 (Or.inl rfl) _)) (rfl) (rfl)
theorem l_X4_wk1 (E : gE) {d : Nat} {o : Nat} (h : hp_T) (hG : gr h) (Y : Nat → Nat → Int64) (X : Nat → Nat → Int32) (ho : o < 9) {v : Option Value} {hz : hp_T} (K : gf E mX4_work d 71 [(0, .ref (E.1 + 212)), (1, .ref (E.1 + 1)), (2, .ref (E.1 + 190)), (3, .int (nI o)), (4, .int (nI ((9 : Nat))))] [] (hfl h ((itN (w1B (hp_i h) o) Y ((9 : Nat)))) (X)) v hz) : ∀ (kz jz : Nat), jz + kz = (9 : Nat) → gf E mX4_work d 11 [(0, .ref (E.1 + 212)), (1, .ref (E.1 + 1)), (2, .ref (E.1 + 190)), (3, .int (nI o)), (4, .int (nI (jz)))] [] (hfl h ((itN (w1B (hp_i h) o) Y (jz))) (X)) v hz := by
  intro kz
  induction kz with
  | zero =>
    intro jz hj
    have hj : (9 : Nat) = jz := by omega
    subst hj
    refine gf_iload dX4_work_11 rfl ?_
    refine gf_bipush (9) dX4_work_13 rfl ?_
    refine gf_icmp_ge 71 dX4_work_15 rfl (fun _ => ?_) (fun q => absurd (Int32.le_refl _) q)
    exact gf_lw K ⟨rfl, rfl, rfl, rfl, rfl, trivial⟩
  | succ kz ih =>
    intro jz hj
    refine gf_iload dX4_work_11 rfl ?_
    refine gf_bipush (9) dX4_work_13 rfl ?_
    refine gf_icmp_ge 71 dX4_work_15 rfl (fun q => absurd q (nI_ge (b := 9) (by omega) (by omega))) (fun _ => ?_)
    refine gf_aload_n 0 dX4_work_18 rfl rfl ?_
    refine gf_getR flX4_11 rfl dX4_work_19 (gt_212 hG) (gp_212_1 hG) ?_
    refine gf_iload_n 3 dX4_work_22 rfl rfl ?_
    refine gf_rald 9 dX4_work_23 (gt_213 hG) (by decide) (by decide) (gl_213 hG) rfl ho (by decide) (gq_ow hG ho) ?_
    refine gf_iload dX4_work_24 rfl ?_
    refine gf_aload_n 2 dX4_work_26 rfl rfl ?_
    refine gf_iload dX4_work_27 rfl ?_
    refine gf_iald 9 dX4_work_29 (gt_190 hG) (gl_190 hG) rfl (by omega) (by decide) ?_
    refine gf_i2l dX4_work_30 ?_
    refine gf_aload_n 1 dX4_work_31 rfl rfl ?_
    refine gf_getR flX4_22 rfl dX4_work_32 (gt_1 hG) (gp_1_16 hG) ?_
    refine gf_iload_n 3 dX4_work_35 rfl rfl ?_
    refine gf_rald 9 dX4_work_36 (gt_135 hG) (by decide) (by decide) (gl_135 hG) rfl ho (by decide) (gq_pt hG ho) ?_
    refine gf_iload dX4_work_37 rfl ?_
    refine gf_iald 9 dX4_work_39 (gqt_pt hG ho) (gql_pt hG ho) rfl (by omega) (by decide) ?_
    rw [fl_pt h (itN (w1B (hp_i h) o) Y (jz)) X ho]
    refine gf_i2l dX4_work_40 ?_
    refine gf_lmul dX4_work_41 ?_
    refine gf_ldc2 (1000) kcX4_28 dX4_work_42 ?_
    refine gf_ldiv dX4_work_45 (by decide) ?_
    rw [show (hp_i (hfl h ((itN (w1B (hp_i h) o) Y (jz))) (X)) 190 jz).toInt64 * (hp_i h (136 + o) jz).toInt64 / 1000 = (w1V (hp_i h) o jz) from rfl]
    refine gf_last 10 dX4_work_46 (gqt_ow hG ho) (gql_ow hG ho) rfl (by omega) (by decide) ?_
    rw [fs_ow h (itN (w1B (hp_i h) o) Y (jz)) X ho]
    refine gf_aload_n 0 dX4_work_47 rfl rfl ?_
    refine gf_getR flX4_16 rfl dX4_work_48 (gt_212 hG) (gp_212_2 hG) ?_
    refine gf_iload_n 3 dX4_work_51 rfl rfl ?_
    refine gf_rald 9 dX4_work_52 (gt_223 hG) (by decide) (by decide) (gl_223 hG) rfl ho (by decide) (gq_py hG ho) ?_
    refine gf_iload dX4_work_53 rfl ?_
    refine gf_aload_n 0 dX4_work_55 rfl rfl ?_
    refine gf_getR flX4_11 rfl dX4_work_56 (gt_212 hG) (gp_212_1 hG) ?_
    refine gf_iload_n 3 dX4_work_59 rfl rfl ?_
    refine gf_rald 9 dX4_work_60 (gt_213 hG) (by decide) (by decide) (gl_213 hG) rfl ho (by decide) (gq_ow hG ho) ?_
    refine gf_iload dX4_work_61 rfl ?_
    refine gf_lald 10 dX4_work_63 (gqt_ow hG ho) (gql_ow hG ho) rfl (by omega) (by decide) ?_
    rw [fl_ow h (up2 (itN (w1B (hp_i h) o) Y (jz)) (1 + o) jz (w1V (hp_i h) o jz)) X ho, up2_s]
    refine gf_last 10 dX4_work_64 (gqt_py hG ho) (gql_py hG ho) rfl (by omega) (by decide) ?_
    rw [fs_py h (up2 (itN (w1B (hp_i h) o) Y (jz)) (1 + o) jz (w1V (hp_i h) o jz)) X ho]
    refine gf_iinc (1) dX4_work_65 rfl rfl (Nat.le_of_ble_eq_true rfl) ?_
    refine gf_goto 11 dX4_work_68 rfl ?_
    exact gf_hE (rfl) (gf_lw (ih (jz + 1) (by omega)) ⟨rfl, rfl, rfl, rfl, lvE (nI_1 jz), trivial⟩)
theorem l_X4_wk2 (E : gE) {d : Nat} (h : hp_T) (hG : gr h) (Y : Nat → Nat → Int64) (X : Nat → Nat → Int32) {v : Option Value} {hz : hp_T} (K : gf E mX4_work d 108 [(0, .ref (E.1 + 212)), (1, .ref (E.1 + 1)), (2, .ref (E.1 + 190)), (3, .int (nI ((9 : Nat))))] [] (hfl h ((itN (wB (hp_i h)) Y ((9 : Nat)))) (X)) v hz) : ∀ (kz jz : Nat), jz + kz = (9 : Nat) → gf E mX4_work d 2 [(0, .ref (E.1 + 212)), (1, .ref (E.1 + 1)), (2, .ref (E.1 + 190)), (3, .int (nI (jz)))] [] (hfl h ((itN (wB (hp_i h)) Y (jz))) (X)) v hz := by
  intro kz
  induction kz with
  | zero =>
    intro jz hj
    have hj : (9 : Nat) = jz := by omega
    subst hj
    refine gf_iload_n 3 dX4_work_2 rfl rfl ?_
    refine gf_bipush (9) dX4_work_3 rfl ?_
    refine gf_icmp_ge 108 dX4_work_5 rfl (fun _ => ?_) (fun q => absurd (Int32.le_refl _) q)
    exact gf_lw K ⟨rfl, rfl, rfl, rfl, trivial⟩
  | succ kz ih =>
    intro jz hj
    refine gf_iload_n 3 dX4_work_2 rfl rfl ?_
    refine gf_bipush (9) dX4_work_3 rfl ?_
    refine gf_icmp_ge 108 dX4_work_5 rfl (fun q => absurd q (nI_ge (b := 9) (by omega) (by omega))) (fun _ => ?_)
    refine gf_iconst (0) dX4_work_8 rfl ?_
    refine gf_istore dX4_work_9 (Nat.le_of_ble_eq_true rfl) ?_
    refine gf_lw (l_X4_wk1 E (o := jz) h hG (itN (wB (hp_i h)) Y (jz)) X (by omega) ?_ 9 0 (by omega)) ⟨rfl, rfl, rfl, rfl, rfl, trivial⟩
    have hj9 : jz < 9 := by omega
    refine gf_aload_n 0 dX4_work_71 rfl rfl ?_
    refine gf_getR flX4_11 rfl dX4_work_72 (gt_212 hG) (gp_212_1 hG) ?_
    refine gf_iload_n 3 dX4_work_75 rfl rfl ?_
    refine gf_rald 9 dX4_work_76 (gt_213 hG) (by decide) (by decide) (gl_213 hG) rfl hj9 (by decide) (gq_ow hG hj9) ?_
    refine gf_bipush (9) dX4_work_77 rfl ?_
    refine gf_aload_n 2 dX4_work_79 rfl rfl ?_
    refine gf_iload_n 3 dX4_work_80 rfl rfl ?_
    refine gf_iald 9 dX4_work_81 (gt_190 hG) (gl_190 hG) rfl (by omega) (by decide) ?_
    rw [show hp_i (hfl h ((itN (w1B (hp_i h) jz) (itN (wB (hp_i h)) Y (jz)) 9)) (X)) 190 jz = hp_i h 190 jz from rfl]
    refine gf_i2l dX4_work_82 ?_
    refine gf_last 10 dX4_work_83 (gqt_ow hG hj9) (gql_ow hG hj9) (rfl : (9 : Int32) = nI 9) (by decide) (by decide) ?_
    rw [fs_ow h (itN (w1B (hp_i h) jz) (itN (wB (hp_i h)) Y (jz)) 9) X hj9]
    refine gf_aload_n 0 dX4_work_84 rfl rfl ?_
    refine gf_getR flX4_16 rfl dX4_work_85 (gt_212 hG) (gp_212_2 hG) ?_
    refine gf_iload_n 3 dX4_work_88 rfl rfl ?_
    refine gf_rald 9 dX4_work_89 (gt_223 hG) (by decide) (by decide) (gl_223 hG) rfl hj9 (by decide) (gq_py hG hj9) ?_
    refine gf_bipush (9) dX4_work_90 rfl ?_
    refine gf_aload_n 0 dX4_work_92 rfl rfl ?_
    refine gf_getR flX4_11 rfl dX4_work_93 (gt_212 hG) (gp_212_1 hG) ?_
    refine gf_iload_n 3 dX4_work_96 rfl rfl ?_
    refine gf_rald 9 dX4_work_97 (gt_213 hG) (by decide) (by decide) (gl_213 hG) rfl hj9 (by decide) (gq_ow hG hj9) ?_
    refine gf_bipush (9) dX4_work_98 rfl ?_
    refine gf_lald 10 dX4_work_100 (gqt_ow hG hj9) (gql_ow hG hj9) (rfl : (9 : Int32) = nI 9) (by decide) (by decide) ?_
    rw [fl_ow h (up2 (itN (w1B (hp_i h) jz) (itN (wB (hp_i h)) Y (jz)) 9) (1 + jz) 9 (hp_i h 190 jz).toInt64) X hj9, up2_s]
    refine gf_last 10 dX4_work_101 (gqt_py hG hj9) (gql_py hG hj9) (rfl : (9 : Int32) = nI 9) (by decide) (by decide) ?_
    rw [fs_py h (up2 (itN (w1B (hp_i h) jz) (itN (wB (hp_i h)) Y (jz)) 9) (1 + jz) 9 (hp_i h 190 jz).toInt64) X hj9]
    refine gf_iinc (1) dX4_work_102 rfl rfl (Nat.le_of_ble_eq_true rfl) ?_
    refine gf_goto 2 dX4_work_105 rfl ?_
    exact gf_hE (show _ = hfl h (itN (wB (hp_i h)) Y (jz + 1)) X from by show _ = hfl h (wB (hp_i h) (itN (wB (hp_i h)) Y (jz)) jz) X; unfold wB; rfl) (gf_lw (ih (jz + 1) (by omega)) ⟨rfl, rfl, rfl, lvE (nI_1 jz), trivial⟩)
theorem l_X4_wk3 (E : gE) {d : Nat} (hd : 3 ≤ d) (h : hp_T) (hG : gr h) (z : wT) {N : Nat} (hN : N = 100) : ∀ (kz jz : Nat), jz + kz = N → gf E mX4_work d 118 [(0, .ref (E.1 + 212)), (1, .ref (E.1 + 1)), (2, .ref (E.1 + 190)), (3, .int (itN (wkB (hp_i h)) z (jz)).1), (4, .int (nI (jz)))] [] (hfl h (itN (wkB (hp_i h)) z (jz)).2.1 (itN (wkB (hp_i h)) z (jz)).2.2) none (hfl h (itN (wkB (hp_i h)) z (N)).2.1 (itN (wkB (hp_i h)) z (N)).2.2) := by
  intro kz
  induction kz with
  | zero =>
    intro jz hj
    have hj : N = jz := by omega
    rw [hj]
    refine gf_iload dX4_work_118 rfl ?_
    refine gf_bipush (100) dX4_work_120 rfl ?_
    refine gf_icmp_ge 151 dX4_work_122 rfl (fun _ => ?_) (fun q => absurd (nI_le (a := 100) (by omega) (by omega)) q)
    exact gf_vretE dX4_work_151 rfl (rfl)
  | succ kz ih =>
    intro jz hj
    have ih1 := ih (jz + 1) (by omega)
    rw [itN_s] at ih1
    generalize hzz : (itN (wkB (hp_i h)) z (jz)) = zz at ih1 ⊢
    refine gf_iload dX4_work_118 rfl ?_
    refine gf_bipush (100) dX4_work_120 rfl ?_
    refine gf_icmp_ge 151 dX4_work_122 rfl (fun q => absurd q (nI_ge (b := 100) (by omega) (by omega))) (fun _ => ?_)
    refine gf_iload_n 3 dX4_work_125 rfl rfl ?_
    refine gf_if_eq 151 dX4_work_126 rfl (fun zc126 => ?_) (fun zc126 => ?_)
    · exact gf_vretE dX4_work_151 rfl (by rw [show N = jz + (N - jz) from by omega, wk_stop (by rw [hzz]; exact zc126), hzz])
    · refine gf_aload_n 0 dX4_work_129 rfl rfl ?_
      refine gf_aload_n 1 dX4_work_130 rfl rfl ?_
      refine gf_callV cmX4_goRound lkX4_34 imX4_goRound seX4_goRound ⟨rfl, by decide⟩ dX4_work_131 (d1 := d - 1) (by omega) (gt_212 hG) (e_X4_goRound E (by omega) h hG zz.2.1 zz.2.2) rfl rfl (Nat.le_of_ble_eq_true rfl) ?_
      refine gf_istore_n 3 dX4_work_134 rfl (Nat.le_of_ble_eq_true rfl) ?_
      refine gf_aload_n 0 dX4_work_135 rfl rfl ?_
      refine gf_dup dX4_work_136 rfl ?_
      refine gf_getI flX4_30 rfl dX4_work_137 (gt_212 hG) ?_
      rw [show hp_i (hfl h (grS (hp_i h) zz.2.1).2 zz.2.2) 212 0 = zz.2.2 0 0 from rfl]
      refine gf_iconst (1) dX4_work_140 rfl ?_
      refine gf_iadd dX4_work_141 ?_
      refine gf_putI flX4_30 rfl rfl dX4_work_142 (gt_212 hG) ⟨rfl, rfl⟩ ?_
      refine gf_iinc (1) dX4_work_145 rfl rfl (Nat.le_of_ble_eq_true rfl) ?_
      refine gf_goto 118 dX4_work_148 rfl ?_
      rw [show wkB (hp_i h) zz jz = ((grS (hp_i h) zz.2.1).1, (grS (hp_i h) zz.2.1).2, up2 zz.2.2 0 0 (zz.2.2 0 0 + 1)) from if_neg zc126] at ih1
      dsimp only at ih1
      rw [fs_rc]
      exact gf_lw ih1 ⟨rfl, rfl, rfl, rfl, lvE (nI_1 jz), trivial⟩
theorem e_X4_work (E : gE) {d : Nat} (hd : 3 ≤ d) (h : hp_T) (hG : gr h) (Y : Nat → Nat → Int64) (X : Nat → Nat → Int32) : ev E mX4_work d [.ref (E.1 + 212), .ref (E.1 + 1), .ref (E.1 + 190)] (hfl h (Y) (X)) (none) (hfl h (wkS (hp_i h) Y X).2.1 (wkS (hp_i h) Y X).2.2) := by
  refine ev_of rfl (fun q => absurd q (by decide)) (Nat.le_of_ble_eq_true rfl) ?_
  refine gf_iconst (0) dX4_work_0 rfl ?_
  refine gf_istore_n 3 dX4_work_1 rfl (Nat.le_of_ble_eq_true rfl) ?_
  refine gf_lw (l_X4_wk2 E h hG Y X ?_ 9 0 (by omega)) ⟨rfl, rfl, rfl, rfl, trivial⟩
  refine gf_aload_n 0 dX4_work_108 rfl rfl ?_
  refine gf_iconst (0) dX4_work_109 rfl ?_
  refine gf_putI flX4_30 rfl rfl dX4_work_110 (gt_212 hG) ⟨rfl, rfl⟩ ?_
  rw [fs_rc]
  refine gf_iconst (1) dX4_work_113 rfl ?_
  refine gf_istore_n 3 dX4_work_114 rfl (Nat.le_of_ble_eq_true rfl) ?_
  refine gf_iconst (0) dX4_work_115 rfl ?_
  refine gf_istore dX4_work_116 (Nat.le_of_ble_eq_true rfl) ?_
  unfold wkS
  exact gf_lw (l_X4_wk3 E hd h hG (wk0 (hp_i h) Y X) rfl 100 0 (by omega)) ⟨rfl, rfl, rfl, rfl, rfl, trivial⟩
theorem e_X4_tell (E : gE) {d : Nat} (hd : 1 ≤ d) {o : Nat} (t : Int32) (h : hp_T) (hG : gr h) (Y : Nat → Nat → Int64) (X : Nat → Nat → Int32) (ho : o < 9) : ev E mX4_tell d [.ref (E.1 + 212), .int (nI o), .int t] (hfl h (Y) (X)) (some (.long (telS Y o t))) (hfl h (Y) (X)) := by
  refine ev_of rfl (fun q => absurd q (by decide)) (Nat.le_of_ble_eq_true rfl) ?_
  refine gf_iload_n 2 dX4_tell_0 rfl rfl ?_
  by_cases zs1_0 : t = 0
  · refine gf_tableIn 32 dX4_tell_1 (by rw [zs1_0]; decide) (by rw [zs1_0]; decide) (by rw [zs1_0]; rfl) rfl ?_
    refine gf_aload_n 0 dX4_tell_32 rfl rfl ?_
    refine gf_getR flX4_11 rfl dX4_tell_33 (gt_212 hG) (gp_212_1 hG) ?_
    refine gf_iload_n 1 dX4_tell_36 rfl rfl ?_
    refine gf_rald 9 dX4_tell_37 (gt_213 hG) (by decide) (by decide) (gl_213 hG) rfl ho (by decide) (gq_ow hG ho) ?_
    refine gf_callS cmX4_sumOf lkX4_50 stX4_sumOf dX4_tell_38 (d1 := d - 1) (by omega) ((e_X4_sumOf E (by omega) (m := 214 + o) (N := 10) (hfl h Y X) ⟨gqt_ow hG ho, gql_ow hG ho⟩ (by omega))) rfl rfl (Nat.le_of_ble_eq_true rfl) ?_
    rw [fl_ow h Y X ho]
    exact gf_lretE dX4_tell_41 rfl ((if_pos zs1_0 : telS Y o t = _).symm) (rfl)
  by_cases zs1_1 : t = 1
  · refine gf_tableIn 42 dX4_tell_1 (by rw [zs1_1]; decide) (by rw [zs1_1]; decide) (by rw [zs1_1]; rfl) rfl ?_
    refine gf_aload_n 0 dX4_tell_42 rfl rfl ?_
    refine gf_getR flX4_16 rfl dX4_tell_43 (gt_212 hG) (gp_212_2 hG) ?_
    refine gf_iload_n 1 dX4_tell_46 rfl rfl ?_
    refine gf_rald 9 dX4_tell_47 (gt_223 hG) (by decide) (by decide) (gl_223 hG) rfl ho (by decide) (gq_py hG ho) ?_
    refine gf_callS cmX4_sumOf lkX4_50 stX4_sumOf dX4_tell_48 (d1 := d - 1) (by omega) ((e_X4_sumOf E (by omega) (m := 224 + o) (N := 10) (hfl h Y X) ⟨gqt_py hG ho, gql_py hG ho⟩ (by omega))) rfl rfl (Nat.le_of_ble_eq_true rfl) ?_
    rw [fl_py h Y X ho]
    exact gf_lretE dX4_tell_51 rfl (((if_neg zs1_0).trans (if_pos zs1_1) : telS Y o t = _).symm) (rfl)
  by_cases zs1_2 : t = 2
  · refine gf_tableIn 52 dX4_tell_1 (by rw [zs1_2]; decide) (by rw [zs1_2]; decide) (by rw [zs1_2]; rfl) rfl ?_
    refine gf_aload_n 0 dX4_tell_52 rfl rfl ?_
    refine gf_getR flX4_16 rfl dX4_tell_53 (gt_212 hG) (gp_212_2 hG) ?_
    refine gf_iload_n 1 dX4_tell_56 rfl rfl ?_
    refine gf_rald 9 dX4_tell_57 (gt_223 hG) (by decide) (by decide) (gl_223 hG) rfl ho (by decide) (gq_py hG ho) ?_
    refine gf_callS cmX4_sumOf lkX4_50 stX4_sumOf dX4_tell_58 (d1 := d - 1) (by omega) ((e_X4_sumOf E (by omega) (m := 224 + o) (N := 10) (hfl h Y X) ⟨gqt_py hG ho, gql_py hG ho⟩ (by omega))) rfl rfl (Nat.le_of_ble_eq_true rfl) ?_
    rw [fl_py h Y X ho]
    refine gf_aload_n 0 dX4_tell_61 rfl rfl ?_
    refine gf_getR flX4_11 rfl dX4_tell_62 (gt_212 hG) (gp_212_1 hG) ?_
    refine gf_iload_n 1 dX4_tell_65 rfl rfl ?_
    refine gf_rald 9 dX4_tell_66 (gt_213 hG) (by decide) (by decide) (gl_213 hG) rfl ho (by decide) (gq_ow hG ho) ?_
    refine gf_callS cmX4_sumOf lkX4_50 stX4_sumOf dX4_tell_67 (d1 := d - 1) (by omega) ((e_X4_sumOf E (by omega) (m := 214 + o) (N := 10) (hfl h Y X) ⟨gqt_ow hG ho, gql_ow hG ho⟩ (by omega))) rfl rfl (Nat.le_of_ble_eq_true rfl) ?_
    rw [fl_ow h Y X ho]
    refine gf_lcmp dX4_tell_70 ?_
    refine gf_if_ge 78 dX4_tell_71 rfl (fun zc71 => ?_) (fun zc71 => ?_)
    · refine gf_lconst (0) dX4_tell_78 rfl ?_
      exact gf_lretE dX4_tell_79 rfl (((if_neg zs1_0).trans ((if_neg zs1_1).trans ((if_pos zs1_2).trans (if_neg (fun q => by have w := zc71; rw [lg_cmp_ge, fa_le64] at w; rw [fa_lt64] at q; omega)))) : telS Y o t = _).symm) (rfl)
    · refine gf_lconst (1) dX4_tell_74 rfl ?_
      refine gf_goto 79 dX4_tell_75 rfl ?_
      exact gf_lretE dX4_tell_79 rfl (((if_neg zs1_0).trans ((if_neg zs1_1).trans ((if_pos zs1_2).trans (if_pos (by have w := zc71; rw [lg_cmp_ge, fa_le64] at w; rw [fa_lt64]; omega)))) : telS Y o t = _).symm) (rfl)
  by_cases zs1_3 : t = 3
  · refine gf_tableIn 80 dX4_tell_1 (by rw [zs1_3]; decide) (by rw [zs1_3]; decide) (by rw [zs1_3]; rfl) rfl ?_
    refine gf_aload_n 0 dX4_tell_80 rfl rfl ?_
    refine gf_getR flX4_16 rfl dX4_tell_81 (gt_212 hG) (gp_212_2 hG) ?_
    refine gf_iload_n 1 dX4_tell_84 rfl rfl ?_
    refine gf_rald 9 dX4_tell_85 (gt_223 hG) (by decide) (by decide) (gl_223 hG) rfl ho (by decide) (gq_py hG ho) ?_
    refine gf_bipush (9) dX4_tell_86 rfl ?_
    refine gf_lald 10 dX4_tell_88 (gqt_py hG ho) (gql_py hG ho) (rfl : (9 : Int32) = nI 9) (by decide) (by decide) ?_
    rw [fl_py h Y X ho]
    exact gf_lretE dX4_tell_89 rfl (((if_neg zs1_0).trans ((if_neg zs1_1).trans ((if_neg zs1_2).trans (if_pos zs1_3))) : telS Y o t = _).symm) (rfl)
  refine gf_tableOut 90 dX4_tell_1 (by have y0 : ¬ (t).toInt = 0 := fun z => zs1_0 ((fa_eq _ _).mpr z); have y1 : ¬ (t).toInt = 1 := fun z => zs1_1 ((fa_eq _ _).mpr z); have y2 : ¬ (t).toInt = 2 := fun z => zs1_2 ((fa_eq _ _).mpr z); have y3 : ¬ (t).toInt = 3 := fun z => zs1_3 ((fa_eq _ _).mpr z); omega) rfl ?_
  refine gf_ldc2 (-1) kcX4_54 dX4_tell_90 ?_
  exact gf_lretE dX4_tell_93 rfl (((if_neg zs1_0).trans ((if_neg zs1_1).trans ((if_neg zs1_2).trans ((if_neg zs1_3).trans (rfl)))) : telS Y o t = _).symm) (rfl)
