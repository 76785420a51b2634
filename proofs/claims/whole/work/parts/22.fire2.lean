/-! ===== the class's Fire: engines, warmth ===== -/
theorem cty_of {F F1 : Nat → Nat → Int32} {w g : Nat} (e : ∀ x, x < 130 → F1 x = F x) (C : cty F w g) : cty F1 w g := by
  have hn := cty_n C
  obtain ⟨h1, h2, h3, h4, h5⟩ := C
  refine ⟨h1, by rw [e 1 (by decide)]; exact h2, by rw [e 1 (by decide)]; exact h3, by rw [e 1 (by decide)]; exact h4, fun c hc => ?_⟩
  rw [e 7 (by decide), e 8 (by decide), e (10 + c) (by omega)]
  exact h5 c hc
theorem cty_hb {h : hp_T} {b n w g : Nat} (X : Nat → Nat → Int32) (hb1 : 130 ≤ b) (C : cty (hp_i h) w g) : cty (hp_i (hb h b n X)) w g := cty_of (fun x hx => hb_out h X (by omega)) C
def towS (x s : Int32) : Int32 := if -s < (if x < s then x else s) then (if x < s then x else s) else -s
def absS (x : Int32) : Int32 := if 0 ≤ x then x else 0 - x
def gonS (F : Nat → Nat → Int32) (a b : Nat) (s : Int32) : Int32 := nI a + towS (F 8 b - F 8 a) s + towS (F 7 b - F 7 a) (s - absS (towS (F 8 b - F 8 a) s)) * F 1 0
def pouX (X : Nat → Nat → Int32) (e c : Nat) (wt t : Int32) : Nat → Nat → Int32 :=
  let X1 := up2 X 5 c (X 5 c - (if X 8 c = 0 then wt / 2 else wt))
  let X2 := if X 11 e = -1 then up2 X1 11 e t else X1
  if 0 < X 5 c - (if X 8 c = 0 then wt / 2 else wt) then X2 else up2 (up2 (up2 X2 3 c 0) 4 c 0) 5 c 0
def neaB (X : Nat → Nat → Int32) (hp : Nat → Int32) (w a : Nat) (off : Int32) (p : Int32 × Int32) (c : Nat) : Int32 × Int32 := if X 3 c = 1 ∧ (¬ hp c &&& off = 0) ∧ nI (apN w a c) < p.2 then (nI c, nI (apN w a c)) else p
def wrmB (w g c : Nat) (wy sg wm : Int32) (X : Nat → Nat → Int32) (way : Nat) : Nat → Nat → Int32 := match nbo w g c way with
  | none => X
  | some x => if ¬ X 1 x = 0 ∧ X 3 x = 0 then up2 X 4 x (X 4 x + (if nI way = wy then wm + sg else wm)) else X
theorem e_X5_toward (E : gE) {d : Nat} (hd : 1 ≤ d) (x s : Int32) (h : hp_T) : ev E mX5_toward d [.int x, .int s] h (some (.int (towS x s))) h := by
  refine ev_of rfl (fun q => absurd q (by decide)) (Nat.le_of_ble_eq_true rfl) ?_
  refine gf_iload_n 1 dX5_toward_0 rfl rfl ?_
  refine gf_ineg dX5_toward_1 ?_
  refine gf_iload_n 1 dX5_toward_2 rfl rfl ?_
  refine gf_iload_n 0 dX5_toward_3 rfl rfl ?_
  refine gf_min lkX5_103 kMmin.1 kMmin.2.1 kMmin.2.2 dX5_toward_4 (by omega) (Nat.le_of_ble_eq_true rfl) ?_
  refine gf_max lkX5_116 kMmax.1 kMmax.2.1 kMmax.2.2 dX5_toward_7 (by omega) (Nat.le_of_ble_eq_true rfl) ?_
  exact gf_iretE dX5_toward_10 rfl (rfl) (rfl)
theorem e_X5_gone_174 (E : gE) {d : Nat} (hd : 2 ≤ d) {a b : Nat} (s : Int32) (h : hp_T) (hG : gr h) (X : Nat → Nat → Int32) (ha : a < 120) (hb1 : b < 120) : ev E mX5_gone d [.ref (E.1 + 174), .int (nI a), .int (nI b), .int s] (hb h 174 12 X) (some (.int (gonS (hp_i h) a b s))) (hb h 174 12 X) := by
  refine ev_of rfl (fun q => absurd q (by decide)) (Nat.le_of_ble_eq_true rfl) ?_
  refine gf_aload_n 0 dX5_gone_0 rfl rfl ?_
  refine gf_getR flX5_46 rfl dX5_gone_1 (gt_174 hG) (gp_174_5 hG) ?_
  refine gf_getR flX5_162 rfl dX5_gone_4 (gt_1 hG) (gp_1_9 hG) ?_
  refine gf_iload_n 2 dX5_gone_7 rfl rfl ?_
  refine gf_iald 120 dX5_gone_8 (gt_8 hG) (gl_8 hG) rfl (by omega) (by decide) ?_
  refine gf_aload_n 0 dX5_gone_9 rfl rfl ?_
  refine gf_getR flX5_46 rfl dX5_gone_10 (gt_174 hG) (gp_174_5 hG) ?_
  refine gf_getR flX5_162 rfl dX5_gone_13 (gt_1 hG) (gp_1_9 hG) ?_
  refine gf_iload_n 1 dX5_gone_16 rfl rfl ?_
  refine gf_iald 120 dX5_gone_17 (gt_8 hG) (gl_8 hG) rfl (by omega) (by decide) ?_
  refine gf_isub dX5_gone_18 ?_
  refine gf_iload_n 3 dX5_gone_19 rfl rfl ?_
  refine gf_callS cmX5_toward lkX5_165 stX5_toward dX5_gone_20 (d1 := d - 1) (by omega) (e_X5_toward E (by omega) _ _ _) rfl rfl (Nat.le_of_ble_eq_true rfl) ?_
  refine gf_istore dX5_gone_23 (Nat.le_of_ble_eq_true rfl) ?_
  refine gf_iload_n 3 dX5_gone_25 rfl rfl ?_
  refine gf_iload dX5_gone_26 rfl ?_
  refine gf_abs lkX5_168 kMabs.1 kMabs.2.1 kMabs.2.2 dX5_gone_28 (by omega) (Nat.le_of_ble_eq_true rfl) ?_
  refine gf_isub dX5_gone_31 ?_
  refine gf_istore dX5_gone_32 (Nat.le_of_ble_eq_true rfl) ?_
  refine gf_aload_n 0 dX5_gone_34 rfl rfl ?_
  refine gf_getR flX5_46 rfl dX5_gone_35 (gt_174 hG) (gp_174_5 hG) ?_
  refine gf_getR flX5_171 rfl dX5_gone_38 (gt_1 hG) (gp_1_8 hG) ?_
  refine gf_iload_n 2 dX5_gone_41 rfl rfl ?_
  refine gf_iald 120 dX5_gone_42 (gt_7 hG) (gl_7 hG) rfl (by omega) (by decide) ?_
  refine gf_aload_n 0 dX5_gone_43 rfl rfl ?_
  refine gf_getR flX5_46 rfl dX5_gone_44 (gt_174 hG) (gp_174_5 hG) ?_
  refine gf_getR flX5_171 rfl dX5_gone_47 (gt_1 hG) (gp_1_8 hG) ?_
  refine gf_iload_n 1 dX5_gone_50 rfl rfl ?_
  refine gf_iald 120 dX5_gone_51 (gt_7 hG) (gl_7 hG) rfl (by omega) (by decide) ?_
  refine gf_isub dX5_gone_52 ?_
  refine gf_iload dX5_gone_53 rfl ?_
  refine gf_callS cmX5_toward lkX5_165 stX5_toward dX5_gone_55 (d1 := d - 1) (by omega) (e_X5_toward E (by omega) _ _ _) rfl rfl (Nat.le_of_ble_eq_true rfl) ?_
  refine gf_istore dX5_gone_58 (Nat.le_of_ble_eq_true rfl) ?_
  refine gf_iload_n 1 dX5_gone_60 rfl rfl ?_
  refine gf_iload dX5_gone_61 rfl ?_
  refine gf_iadd dX5_gone_63 ?_
  refine gf_iload dX5_gone_64 rfl ?_
  refine gf_aload_n 0 dX5_gone_66 rfl rfl ?_
  refine gf_getR flX5_46 rfl dX5_gone_67 (gt_174 hG) (gp_174_5 hG) ?_
  refine gf_getI flX5_174 rfl dX5_gone_70 (gt_1 hG) ?_
  refine gf_imul dX5_gone_73 ?_
  refine gf_iadd dX5_gone_74 ?_
  exact gf_iretE dX5_gone_75 rfl (rfl) (rfl)
theorem e_X5_pour_174 (E : gE) {d : Nat} (hd : 0 ≤ d) {e c : Nat} (t : Int32) (h : hp_T) (hG : gr h) (X : Nat → Nat → Int32) (he : e < 12) (hc : c < 120) (hA : X 10 e = nI c) : ev E mX5_pour d [.ref (E.1 + 174), .int (nI e), .int t] (hb h 174 12 X) (none) (hb h 174 12 (pouX X e c (hp_i h 149 e) t)) := by
  refine ev_of rfl (fun q => absurd q (by decide)) (Nat.le_of_ble_eq_true rfl) ?_
  refine gf_aload_n 0 dX5_pour_0 rfl rfl ?_
  refine gf_getR flX5_40 rfl dX5_pour_1 (gt_174 hG) (gp_174_14 hG) ?_
  refine gf_iload_n 1 dX5_pour_4 rfl rfl ?_
  refine gf_iald 12 dX5_pour_5 (gt_184 hG) (gl_184 hG) rfl (by omega) (by decide) ?_
  rw [show hp_i (hb h 174 12 X) 184 e = nI c from hA]
  refine gf_istore_n 3 dX5_pour_6 rfl (Nat.le_of_ble_eq_true rfl) ?_
  refine gf_aload_n 0 dX5_pour_7 rfl rfl ?_
  refine gf_getR flX5_50 rfl dX5_pour_8 (gt_174 hG) (gp_174_6 hG) ?_
  refine gf_getR flX5_177 rfl dX5_pour_11 (gt_145 hG) (gp_145_4 hG) ?_
  refine gf_iload_n 1 dX5_pour_14 rfl rfl ?_
  refine gf_iald 12 dX5_pour_15 (gt_149 hG) (gl_149 hG) rfl (by omega) (by decide) ?_
  refine gf_istore dX5_pour_16 (Nat.le_of_ble_eq_true rfl) ?_
  refine gf_aload_n 0 dX5_pour_18 rfl rfl ?_
  refine gf_getR flX5_25 rfl dX5_pour_19 (gt_174 hG) (gp_174_9 hG) ?_
  refine gf_iload_n 3 dX5_pour_22 rfl rfl ?_
  refine gf_dup2 dX5_pour_23 rfl rfl ?_
  refine gf_iald 120 dX5_pour_24 (gt_179 hG) (gl_179 hG) rfl (by omega) (by decide) ?_
  refine gf_aload_n 0 dX5_pour_25 rfl rfl ?_
  refine gf_getR flX5_34 rfl dX5_pour_26 (gt_174 hG) (gp_174_12 hG) ?_
  refine gf_iload_n 3 dX5_pour_29 rfl rfl ?_
  refine gf_zald 120 dX5_pour_30 (gt_182 hG) (gl_182 hG) rfl (by omega) (by decide) ?_
  refine gf_if_eq 39 dX5_pour_31 rfl (fun zc31 => ?_) (fun zc31 => ?_)
  · refine gf_iload dX5_pour_39 rfl ?_
    refine gf_iconst (2) dX5_pour_41 rfl ?_
    refine gf_idiv dX5_pour_42 (by decide) ?_
    refine gf_isub dX5_pour_43 ?_
    refine gf_iast 120 dX5_pour_44 (gt_179 hG) (gl_179 hG) rfl (by omega) (by decide) ?_
    refine gf_aload_n 0 dX5_pour_45 rfl rfl ?_
    refine gf_getR flX5_43 rfl dX5_pour_46 (gt_174 hG) (gp_174_15 hG) ?_
    refine gf_iload_n 1 dX5_pour_49 rfl rfl ?_
    refine gf_iald 12 dX5_pour_50 (gt_185 hG) (gl_185 hG) rfl (by omega) (by decide) ?_
    refine gf_iconst (-1) dX5_pour_51 rfl ?_
    refine gf_icmp_ne 62 dX5_pour_52 rfl (fun zc52 => ?_) (fun zc52 => ?_)
    · refine gf_aload_n 0 dX5_pour_62 rfl rfl ?_
      refine gf_getR flX5_25 rfl dX5_pour_63 (gt_174 hG) (gp_174_9 hG) ?_
      refine gf_iload_n 3 dX5_pour_66 rfl rfl ?_
      refine gf_iald 120 dX5_pour_67 (gt_179 hG) (gl_179 hG) rfl (by omega) (by decide) ?_
      refine gf_if_gt 92 dX5_pour_68 rfl (fun zc68 => ?_) (fun zc68 => ?_)
      · exact gf_vretE dX5_pour_92 rfl (by
        have a1 : X 8 c = 0 := zc31
        have a2 : ¬ X 11 e = -1 := zc52
        have a3 := zc68
        simp only [hs174_0, hs174_1, hs174_2, hs174_3, hs174_4, hs174_5, hs174_6, hs174_7, hs174_8, hs174_9, hs174_10, hs174_11] at a3 ⊢
        have a4 : 0 < X 5 c - (hp_i h 149 e / 2) := by
          have q := up2_s X 5 c (X 5 c - (hp_i h 149 e / 2))
          rw [← q]
          exact a3
        unfold pouX
        simp only [if_pos a1, if_neg a2, if_pos a4]
        rfl)
      · refine gf_aload_n 0 dX5_pour_71 rfl rfl ?_
        refine gf_getR flX5_19 rfl dX5_pour_72 (gt_174 hG) (gp_174_7 hG) ?_
        refine gf_iload_n 3 dX5_pour_75 rfl rfl ?_
        refine gf_iconst (0) dX5_pour_76 rfl ?_
        refine gf_iast 120 dX5_pour_77 (gt_177 hG) (gl_177 hG) rfl (by omega) (by decide) ?_
        refine gf_aload_n 0 dX5_pour_78 rfl rfl ?_
        refine gf_getR flX5_22 rfl dX5_pour_79 (gt_174 hG) (gp_174_8 hG) ?_
        refine gf_iload_n 3 dX5_pour_82 rfl rfl ?_
        refine gf_iconst (0) dX5_pour_83 rfl ?_
        refine gf_iast 120 dX5_pour_84 (gt_178 hG) (gl_178 hG) rfl (by omega) (by decide) ?_
        refine gf_aload_n 0 dX5_pour_85 rfl rfl ?_
        refine gf_getR flX5_25 rfl dX5_pour_86 (gt_174 hG) (gp_174_9 hG) ?_
        refine gf_iload_n 3 dX5_pour_89 rfl rfl ?_
        refine gf_iconst (0) dX5_pour_90 rfl ?_
        refine gf_iast 120 dX5_pour_91 (gt_179 hG) (gl_179 hG) rfl (by omega) (by decide) ?_
        exact gf_vretE dX5_pour_92 rfl (by
        have a1 : X 8 c = 0 := zc31
        have a2 : ¬ X 11 e = -1 := zc52
        have a3 := zc68
        simp only [hs174_0, hs174_1, hs174_2, hs174_3, hs174_4, hs174_5, hs174_6, hs174_7, hs174_8, hs174_9, hs174_10, hs174_11] at a3 ⊢
        have a4 : ¬ 0 < X 5 c - (hp_i h 149 e / 2) := by
          have q := up2_s X 5 c (X 5 c - (hp_i h 149 e / 2))
          rw [← q]
          exact a3
        unfold pouX
        simp only [if_pos a1, if_neg a2, if_neg a4]
        rfl)
    · refine gf_aload_n 0 dX5_pour_55 rfl rfl ?_
      refine gf_getR flX5_43 rfl dX5_pour_56 (gt_174 hG) (gp_174_15 hG) ?_
      refine gf_iload_n 1 dX5_pour_59 rfl rfl ?_
      refine gf_iload_n 2 dX5_pour_60 rfl rfl ?_
      refine gf_iast 12 dX5_pour_61 (gt_185 hG) (gl_185 hG) rfl (by omega) (by decide) ?_
      refine gf_aload_n 0 dX5_pour_62 rfl rfl ?_
      refine gf_getR flX5_25 rfl dX5_pour_63 (gt_174 hG) (gp_174_9 hG) ?_
      refine gf_iload_n 3 dX5_pour_66 rfl rfl ?_
      refine gf_iald 120 dX5_pour_67 (gt_179 hG) (gl_179 hG) rfl (by omega) (by decide) ?_
      refine gf_if_gt 92 dX5_pour_68 rfl (fun zc68 => ?_) (fun zc68 => ?_)
      · exact gf_vretE dX5_pour_92 rfl (by
        have a1 : X 8 c = 0 := zc31
        have a2 : X 11 e = -1 := zc52
        have a3 := zc68
        simp only [hs174_0, hs174_1, hs174_2, hs174_3, hs174_4, hs174_5, hs174_6, hs174_7, hs174_8, hs174_9, hs174_10, hs174_11] at a3 ⊢
        have a4 : 0 < X 5 c - (hp_i h 149 e / 2) := by
          have q := up2_s X 5 c (X 5 c - (hp_i h 149 e / 2))
          rw [← q]
          exact a3
        unfold pouX
        simp only [if_pos a1, if_pos a2, if_pos a4]
        rfl)
      · refine gf_aload_n 0 dX5_pour_71 rfl rfl ?_
        refine gf_getR flX5_19 rfl dX5_pour_72 (gt_174 hG) (gp_174_7 hG) ?_
        refine gf_iload_n 3 dX5_pour_75 rfl rfl ?_
        refine gf_iconst (0) dX5_pour_76 rfl ?_
        refine gf_iast 120 dX5_pour_77 (gt_177 hG) (gl_177 hG) rfl (by omega) (by decide) ?_
        refine gf_aload_n 0 dX5_pour_78 rfl rfl ?_
        refine gf_getR flX5_22 rfl dX5_pour_79 (gt_174 hG) (gp_174_8 hG) ?_
        refine gf_iload_n 3 dX5_pour_82 rfl rfl ?_
        refine gf_iconst (0) dX5_pour_83 rfl ?_
        refine gf_iast 120 dX5_pour_84 (gt_178 hG) (gl_178 hG) rfl (by omega) (by decide) ?_
        refine gf_aload_n 0 dX5_pour_85 rfl rfl ?_
        refine gf_getR flX5_25 rfl dX5_pour_86 (gt_174 hG) (gp_174_9 hG) ?_
        refine gf_iload_n 3 dX5_pour_89 rfl rfl ?_
        refine gf_iconst (0) dX5_pour_90 rfl ?_
        refine gf_iast 120 dX5_pour_91 (gt_179 hG) (gl_179 hG) rfl (by omega) (by decide) ?_
        exact gf_vretE dX5_pour_92 rfl (by
        have a1 : X 8 c = 0 := zc31
        have a2 : X 11 e = -1 := zc52
        have a3 := zc68
        simp only [hs174_0, hs174_1, hs174_2, hs174_3, hs174_4, hs174_5, hs174_6, hs174_7, hs174_8, hs174_9, hs174_10, hs174_11] at a3 ⊢
        have a4 : ¬ 0 < X 5 c - (hp_i h 149 e / 2) := by
          have q := up2_s X 5 c (X 5 c - (hp_i h 149 e / 2))
          rw [← q]
          exact a3
        unfold pouX
        simp only [if_pos a1, if_pos a2, if_neg a4]
        rfl)
  · refine gf_iload dX5_pour_34 rfl ?_
    refine gf_goto 43 dX5_pour_36 rfl ?_
    refine gf_isub dX5_pour_43 ?_
    refine gf_iast 120 dX5_pour_44 (gt_179 hG) (gl_179 hG) rfl (by omega) (by decide) ?_
    refine gf_aload_n 0 dX5_pour_45 rfl rfl ?_
    refine gf_getR flX5_43 rfl dX5_pour_46 (gt_174 hG) (gp_174_15 hG) ?_
    refine gf_iload_n 1 dX5_pour_49 rfl rfl ?_
    refine gf_iald 12 dX5_pour_50 (gt_185 hG) (gl_185 hG) rfl (by omega) (by decide) ?_
    refine gf_iconst (-1) dX5_pour_51 rfl ?_
    refine gf_icmp_ne 62 dX5_pour_52 rfl (fun zc52 => ?_) (fun zc52 => ?_)
    · refine gf_aload_n 0 dX5_pour_62 rfl rfl ?_
      refine gf_getR flX5_25 rfl dX5_pour_63 (gt_174 hG) (gp_174_9 hG) ?_
      refine gf_iload_n 3 dX5_pour_66 rfl rfl ?_
      refine gf_iald 120 dX5_pour_67 (gt_179 hG) (gl_179 hG) rfl (by omega) (by decide) ?_
      refine gf_if_gt 92 dX5_pour_68 rfl (fun zc68 => ?_) (fun zc68 => ?_)
      · exact gf_vretE dX5_pour_92 rfl (by
        have a1 : ¬ X 8 c = 0 := zc31
        have a2 : ¬ X 11 e = -1 := zc52
        have a3 := zc68
        simp only [hs174_0, hs174_1, hs174_2, hs174_3, hs174_4, hs174_5, hs174_6, hs174_7, hs174_8, hs174_9, hs174_10, hs174_11] at a3 ⊢
        have a4 : 0 < X 5 c - (hp_i h 149 e) := by
          have q := up2_s X 5 c (X 5 c - (hp_i h 149 e))
          rw [← q]
          exact a3
        unfold pouX
        simp only [if_neg a1, if_neg a2, if_pos a4]
        rfl)
      · refine gf_aload_n 0 dX5_pour_71 rfl rfl ?_
        refine gf_getR flX5_19 rfl dX5_pour_72 (gt_174 hG) (gp_174_7 hG) ?_
        refine gf_iload_n 3 dX5_pour_75 rfl rfl ?_
        refine gf_iconst (0) dX5_pour_76 rfl ?_
        refine gf_iast 120 dX5_pour_77 (gt_177 hG) (gl_177 hG) rfl (by omega) (by decide) ?_
        refine gf_aload_n 0 dX5_pour_78 rfl rfl ?_
        refine gf_getR flX5_22 rfl dX5_pour_79 (gt_174 hG) (gp_174_8 hG) ?_
        refine gf_iload_n 3 dX5_pour_82 rfl rfl ?_
        refine gf_iconst (0) dX5_pour_83 rfl ?_
        refine gf_iast 120 dX5_pour_84 (gt_178 hG) (gl_178 hG) rfl (by omega) (by decide) ?_
        refine gf_aload_n 0 dX5_pour_85 rfl rfl ?_
        refine gf_getR flX5_25 rfl dX5_pour_86 (gt_174 hG) (gp_174_9 hG) ?_
        refine gf_iload_n 3 dX5_pour_89 rfl rfl ?_
        refine gf_iconst (0) dX5_pour_90 rfl ?_
        refine gf_iast 120 dX5_pour_91 (gt_179 hG) (gl_179 hG) rfl (by omega) (by decide) ?_
        exact gf_vretE dX5_pour_92 rfl (by
        have a1 : ¬ X 8 c = 0 := zc31
        have a2 : ¬ X 11 e = -1 := zc52
        have a3 := zc68
        simp only [hs174_0, hs174_1, hs174_2, hs174_3, hs174_4, hs174_5, hs174_6, hs174_7, hs174_8, hs174_9, hs174_10, hs174_11] at a3 ⊢
        have a4 : ¬ 0 < X 5 c - (hp_i h 149 e) := by
          have q := up2_s X 5 c (X 5 c - (hp_i h 149 e))
          rw [← q]
          exact a3
        unfold pouX
        simp only [if_neg a1, if_neg a2, if_neg a4]
        rfl)
    · refine gf_aload_n 0 dX5_pour_55 rfl rfl ?_
      refine gf_getR flX5_43 rfl dX5_pour_56 (gt_174 hG) (gp_174_15 hG) ?_
      refine gf_iload_n 1 dX5_pour_59 rfl rfl ?_
      refine gf_iload_n 2 dX5_pour_60 rfl rfl ?_
      refine gf_iast 12 dX5_pour_61 (gt_185 hG) (gl_185 hG) rfl (by omega) (by decide) ?_
      refine gf_aload_n 0 dX5_pour_62 rfl rfl ?_
      refine gf_getR flX5_25 rfl dX5_pour_63 (gt_174 hG) (gp_174_9 hG) ?_
      refine gf_iload_n 3 dX5_pour_66 rfl rfl ?_
      refine gf_iald 120 dX5_pour_67 (gt_179 hG) (gl_179 hG) rfl (by omega) (by decide) ?_
      refine gf_if_gt 92 dX5_pour_68 rfl (fun zc68 => ?_) (fun zc68 => ?_)
      · exact gf_vretE dX5_pour_92 rfl (by
        have a1 : ¬ X 8 c = 0 := zc31
        have a2 : X 11 e = -1 := zc52
        have a3 := zc68
        simp only [hs174_0, hs174_1, hs174_2, hs174_3, hs174_4, hs174_5, hs174_6, hs174_7, hs174_8, hs174_9, hs174_10, hs174_11] at a3 ⊢
        have a4 : 0 < X 5 c - (hp_i h 149 e) := by
          have q := up2_s X 5 c (X 5 c - (hp_i h 149 e))
          rw [← q]
          exact a3
        unfold pouX
        simp only [if_neg a1, if_pos a2, if_pos a4]
        rfl)
      · refine gf_aload_n 0 dX5_pour_71 rfl rfl ?_
        refine gf_getR flX5_19 rfl dX5_pour_72 (gt_174 hG) (gp_174_7 hG) ?_
        refine gf_iload_n 3 dX5_pour_75 rfl rfl ?_
        refine gf_iconst (0) dX5_pour_76 rfl ?_
        refine gf_iast 120 dX5_pour_77 (gt_177 hG) (gl_177 hG) rfl (by omega) (by decide) ?_
        refine gf_aload_n 0 dX5_pour_78 rfl rfl ?_
        refine gf_getR flX5_22 rfl dX5_pour_79 (gt_174 hG) (gp_174_8 hG) ?_
        refine gf_iload_n 3 dX5_pour_82 rfl rfl ?_
        refine gf_iconst (0) dX5_pour_83 rfl ?_
        refine gf_iast 120 dX5_pour_84 (gt_178 hG) (gl_178 hG) rfl (by omega) (by decide) ?_
        refine gf_aload_n 0 dX5_pour_85 rfl rfl ?_
        refine gf_getR flX5_25 rfl dX5_pour_86 (gt_174 hG) (gp_174_9 hG) ?_
        refine gf_iload_n 3 dX5_pour_89 rfl rfl ?_
        refine gf_iconst (0) dX5_pour_90 rfl ?_
        refine gf_iast 120 dX5_pour_91 (gt_179 hG) (gl_179 hG) rfl (by omega) (by decide) ?_
        exact gf_vretE dX5_pour_92 rfl (by
        have a1 : ¬ X 8 c = 0 := zc31
        have a2 : X 11 e = -1 := zc52
        have a3 := zc68
        simp only [hs174_0, hs174_1, hs174_2, hs174_3, hs174_4, hs174_5, hs174_6, hs174_7, hs174_8, hs174_9, hs174_10, hs174_11] at a3 ⊢
        have a4 : ¬ 0 < X 5 c - (hp_i h 149 e) := by
          have q := up2_s X 5 c (X 5 c - (hp_i h 149 e))
          rw [← q]
          exact a3
        unfold pouX
        simp only [if_neg a1, if_pos a2, if_neg a4]
        rfl)
theorem l_X5_nearest_174 (E : gE) {d : Nat} (hd : 2 ≤ d) {a : Nat} (off : Int32) (h : hp_T) (hG : gr h) (X : Nat → Nat → Int32) {w g : Nat} (C : cty (hp_i h) w g) (ha : a < w * g) {v : Option Value} {hz : hp_T} (K : gf E mX5_nearest d 79 [(0, .ref (E.1 + 174)), (1, .int (nI a)), (2, .int off), (3, .ref (E.1 + 170)), (4, .int (itN (neaB X (hp_i h 170) w a off) (-1, 120) (w * g)).1), (5, .int (itN (neaB X (hp_i h 170) w a off) (-1, 120) (w * g)).2), (6, .int (nI (w * g)))] [] ((hb h 174 12 X)) v hz) : ∀ (kz jz : Nat), jz + kz = w * g → gf E mX5_nearest d 10 [(0, .ref (E.1 + 174)), (1, .int (nI a)), (2, .int off), (3, .ref (E.1 + 170)), (4, .int (itN (neaB X (hp_i h 170) w a off) (-1, 120) (jz)).1), (5, .int (itN (neaB X (hp_i h 170) w a off) (-1, 120) (jz)).2), (6, .int (nI (jz)))] [] ((hb h 174 12 X)) v hz := by
  have hn := cty_n C
  intro kz
  induction kz with
  | zero =>
    intro jz hj
    have hj : w * g = jz := by omega
    subst hj
    refine gf_iload dX5_nearest_10 rfl ?_
    refine gf_aload_n 0 dX5_nearest_12 rfl rfl ?_
    refine gf_getR flX5_46 rfl dX5_nearest_13 (gt_174 hG) (gp_174_5 hG) ?_
    refine gf_getI flX5_79 rfl dX5_nearest_16 (gt_1 hG) ?_
    refine gf_icmp_ge 79 dX5_nearest_19 rfl (fun _ => ?_) (fun q => absurd (by rw [show hp_i (hb h 174 12 X) 1 2 = nI (w * g) from C.2.2.2.1]; exact nI_le (Nat.le_refl _) (by omega)) q)
    exact gf_lw K ⟨rfl, rfl, rfl, rfl, rfl, rfl, rfl, trivial⟩
  | succ kz ih =>
    intro jz hj
    refine gf_iload dX5_nearest_10 rfl ?_
    refine gf_aload_n 0 dX5_nearest_12 rfl rfl ?_
    refine gf_getR flX5_46 rfl dX5_nearest_13 (gt_174 hG) (gp_174_5 hG) ?_
    refine gf_getI flX5_79 rfl dX5_nearest_16 (gt_1 hG) ?_
    refine gf_icmp_ge 79 dX5_nearest_19 rfl (fun q => absurd q (by rw [show hp_i (hb h 174 12 X) 1 2 = nI (w * g) from C.2.2.2.1]; exact nI_ge (by omega) (by omega))) (fun _ => ?_)
    refine gf_aload_n 0 dX5_nearest_22 rfl rfl ?_
    refine gf_getR flX5_19 rfl dX5_nearest_23 (gt_174 hG) (gp_174_7 hG) ?_
    refine gf_iload dX5_nearest_26 rfl ?_
    refine gf_iald 120 dX5_nearest_28 (gt_177 hG) (gl_177 hG) rfl (by omega) (by decide) ?_
    refine gf_iconst (1) dX5_nearest_29 rfl ?_
    refine gf_icmp_ne 73 dX5_nearest_30 rfl (fun zc30 => ?_) (fun zc30 => ?_)
    · refine gf_iinc (1) dX5_nearest_73 rfl rfl (Nat.le_of_ble_eq_true rfl) ?_
      refine gf_goto 10 dX5_nearest_76 rfl ?_
      exact gf_lw (ih (jz + 1) (by omega)) ⟨rfl, rfl, rfl, rfl, lvE ((congrArg Prod.fst (show (itN (neaB X (hp_i h 170) w a off) (-1, 120) (jz + 1)) = _ from if_neg (fun q => zc30 q.1))).symm), lvE ((congrArg Prod.snd (show (itN (neaB X (hp_i h 170) w a off) (-1, 120) (jz + 1)) = _ from if_neg (fun q => zc30 q.1))).symm), lvE (nI_1 jz), trivial⟩
    · refine gf_aload_n 3 dX5_nearest_33 rfl rfl ?_
      refine gf_iload dX5_nearest_34 rfl ?_
      refine gf_iald 120 dX5_nearest_36 (gt_170 hG) (gl_170 hG) rfl (by omega) (by decide) ?_
      refine gf_iload_n 2 dX5_nearest_37 rfl rfl ?_
      refine gf_iand dX5_nearest_38 ?_
      refine gf_if_eq 73 dX5_nearest_39 rfl (fun zc39 => ?_) (fun zc39 => ?_)
      · refine gf_iinc (1) dX5_nearest_73 rfl rfl (Nat.le_of_ble_eq_true rfl) ?_
        refine gf_goto 10 dX5_nearest_76 rfl ?_
        exact gf_lw (ih (jz + 1) (by omega)) ⟨rfl, rfl, rfl, rfl, lvE ((congrArg Prod.fst (show (itN (neaB X (hp_i h 170) w a off) (-1, 120) (jz + 1)) = _ from if_neg (fun q => q.2.1 zc39))).symm), lvE ((congrArg Prod.snd (show (itN (neaB X (hp_i h 170) w a off) (-1, 120) (jz + 1)) = _ from if_neg (fun q => q.2.1 zc39))).symm), lvE (nI_1 jz), trivial⟩
      · refine gf_aload_n 0 dX5_nearest_42 rfl rfl ?_
        refine gf_getR flX5_46 rfl dX5_nearest_43 (gt_174 hG) (gp_174_5 hG) ?_
        refine gf_iload_n 1 dX5_nearest_46 rfl rfl ?_
        refine gf_iload dX5_nearest_47 rfl ?_
        refine gf_callV cmX1_apart lkX5_159 imX1_apart seX1_apart ⟨rfl, by decide⟩ dX5_nearest_49 (d1 := d - 1) (by omega) (gt_1 hG) (e_X1_apart E (by omega) (hb h 174 12 X) hG (w := w) (g := g) (cty_hb X (by decide) C) ha (show jz < w * g by omega)) rfl rfl (Nat.le_of_ble_eq_true rfl) ?_
        refine gf_iload dX5_nearest_52 rfl ?_
        refine gf_icmp_ge 73 dX5_nearest_54 rfl (fun zc54 => ?_) (fun zc54 => ?_)
        · refine gf_iinc (1) dX5_nearest_73 rfl rfl (Nat.le_of_ble_eq_true rfl) ?_
          refine gf_goto 10 dX5_nearest_76 rfl ?_
          exact gf_lw (ih (jz + 1) (by omega)) ⟨rfl, rfl, rfl, rfl, lvE ((congrArg Prod.fst (show (itN (neaB X (hp_i h 170) w a off) (-1, 120) (jz + 1)) = _ from if_neg (fun q => (fa_of_lt q.2.2).2.1 zc54))).symm), lvE ((congrArg Prod.snd (show (itN (neaB X (hp_i h 170) w a off) (-1, 120) (jz + 1)) = _ from if_neg (fun q => (fa_of_lt q.2.2).2.1 zc54))).symm), lvE (nI_1 jz), trivial⟩
        · refine gf_iload dX5_nearest_57 rfl ?_
          refine gf_istore dX5_nearest_59 (Nat.le_of_ble_eq_true rfl) ?_
          refine gf_aload_n 0 dX5_nearest_61 rfl rfl ?_
          refine gf_getR flX5_46 rfl dX5_nearest_62 (gt_174 hG) (gp_174_5 hG) ?_
          refine gf_iload_n 1 dX5_nearest_65 rfl rfl ?_
          refine gf_iload dX5_nearest_66 rfl ?_
          refine gf_callV cmX1_apart lkX5_159 imX1_apart seX1_apart ⟨rfl, by decide⟩ dX5_nearest_68 (d1 := d - 1) (by omega) (gt_1 hG) (e_X1_apart E (by omega) (hb h 174 12 X) hG (w := w) (g := g) (cty_hb X (by decide) C) ha (show jz < w * g by omega)) rfl rfl (Nat.le_of_ble_eq_true rfl) ?_
          refine gf_istore dX5_nearest_71 (Nat.le_of_ble_eq_true rfl) ?_
          refine gf_iinc (1) dX5_nearest_73 rfl rfl (Nat.le_of_ble_eq_true rfl) ?_
          refine gf_goto 10 dX5_nearest_76 rfl ?_
          exact gf_lw (ih (jz + 1) (by omega)) ⟨rfl, rfl, rfl, rfl, lvE ((congrArg Prod.fst (show (itN (neaB X (hp_i h 170) w a off) (-1, 120) (jz + 1)) = _ from if_pos ⟨zc30, zc39, fa_of_nle zc54⟩)).symm), lvE ((congrArg Prod.snd (show (itN (neaB X (hp_i h 170) w a off) (-1, 120) (jz + 1)) = _ from if_pos ⟨zc30, zc39, fa_of_nle zc54⟩)).symm), lvE (nI_1 jz), trivial⟩
theorem e_X5_nearest_174 (E : gE) {d : Nat} (hd : 2 ≤ d) {a : Nat} (off : Int32) (h : hp_T) (hG : gr h) (X : Nat → Nat → Int32) {w g : Nat} (C : cty (hp_i h) w g) (ha : a < w * g) : ev E mX5_nearest d [.ref (E.1 + 174), .int (nI a), .int off, .ref (E.1 + 170)] (hb h 174 12 X) (some (.int (itN (neaB X (hp_i h 170) w a off) (-1, 120) (w * g)).1)) (hb h 174 12 X) := by
  refine ev_of rfl (fun q => absurd q (by decide)) (Nat.le_of_ble_eq_true rfl) ?_
  refine gf_iconst (-1) dX5_nearest_0 rfl ?_
  refine gf_istore dX5_nearest_1 (Nat.le_of_ble_eq_true rfl) ?_
  refine gf_bipush (120) dX5_nearest_3 rfl ?_
  refine gf_istore dX5_nearest_5 (Nat.le_of_ble_eq_true rfl) ?_
  refine gf_iconst (0) dX5_nearest_7 rfl ?_
  refine gf_istore dX5_nearest_8 (Nat.le_of_ble_eq_true rfl) ?_
  refine l_X5_nearest_174 E hd off h hG X C ha ?_ (w * g) 0 (by omega)
  refine gf_iload dX5_nearest_79 rfl ?_
  exact gf_iretE dX5_nearest_81 rfl (rfl) (rfl)
theorem e_X5_gone_193 (E : gE) {d : Nat} (hd : 2 ≤ d) {a b : Nat} (s : Int32) (h : hp_T) (hG : gr h) (X : Nat → Nat → Int32) (ha : a < 120) (hb1 : b < 120) : ev E mX5_gone d [.ref (E.1 + 193), .int (nI a), .int (nI b), .int s] (hb h 193 12 X) (some (.int (gonS (hp_i h) a b s))) (hb h 193 12 X) := by
  refine ev_of rfl (fun q => absurd q (by decide)) (Nat.le_of_ble_eq_true rfl) ?_
  refine gf_aload_n 0 dX5_gone_0 rfl rfl ?_
  refine gf_getR flX5_46 rfl dX5_gone_1 (gt_193 hG) (gp_193_5 hG) ?_
  refine gf_getR flX5_162 rfl dX5_gone_4 (gt_1 hG) (gp_1_9 hG) ?_
  refine gf_iload_n 2 dX5_gone_7 rfl rfl ?_
  refine gf_iald 120 dX5_gone_8 (gt_8 hG) (gl_8 hG) rfl (by omega) (by decide) ?_
  refine gf_aload_n 0 dX5_gone_9 rfl rfl ?_
  refine gf_getR flX5_46 rfl dX5_gone_10 (gt_193 hG) (gp_193_5 hG) ?_
  refine gf_getR flX5_162 rfl dX5_gone_13 (gt_1 hG) (gp_1_9 hG) ?_
  refine gf_iload_n 1 dX5_gone_16 rfl rfl ?_
  refine gf_iald 120 dX5_gone_17 (gt_8 hG) (gl_8 hG) rfl (by omega) (by decide) ?_
  refine gf_isub dX5_gone_18 ?_
  refine gf_iload_n 3 dX5_gone_19 rfl rfl ?_
  refine gf_callS cmX5_toward lkX5_165 stX5_toward dX5_gone_20 (d1 := d - 1) (by omega) (e_X5_toward E (by omega) _ _ _) rfl rfl (Nat.le_of_ble_eq_true rfl) ?_
  refine gf_istore dX5_gone_23 (Nat.le_of_ble_eq_true rfl) ?_
  refine gf_iload_n 3 dX5_gone_25 rfl rfl ?_
  refine gf_iload dX5_gone_26 rfl ?_
  refine gf_abs lkX5_168 kMabs.1 kMabs.2.1 kMabs.2.2 dX5_gone_28 (by omega) (Nat.le_of_ble_eq_true rfl) ?_
  refine gf_isub dX5_gone_31 ?_
  refine gf_istore dX5_gone_32 (Nat.le_of_ble_eq_true rfl) ?_
  refine gf_aload_n 0 dX5_gone_34 rfl rfl ?_
  refine gf_getR flX5_46 rfl dX5_gone_35 (gt_193 hG) (gp_193_5 hG) ?_
  refine gf_getR flX5_171 rfl dX5_gone_38 (gt_1 hG) (gp_1_8 hG) ?_
  refine gf_iload_n 2 dX5_gone_41 rfl rfl ?_
  refine gf_iald 120 dX5_gone_42 (gt_7 hG) (gl_7 hG) rfl (by omega) (by decide) ?_
  refine gf_aload_n 0 dX5_gone_43 rfl rfl ?_
  refine gf_getR flX5_46 rfl dX5_gone_44 (gt_193 hG) (gp_193_5 hG) ?_
  refine gf_getR flX5_171 rfl dX5_gone_47 (gt_1 hG) (gp_1_8 hG) ?_
  refine gf_iload_n 1 dX5_gone_50 rfl rfl ?_
  refine gf_iald 120 dX5_gone_51 (gt_7 hG) (gl_7 hG) rfl (by omega) (by decide) ?_
  refine gf_isub dX5_gone_52 ?_
  refine gf_iload dX5_gone_53 rfl ?_
  refine gf_callS cmX5_toward lkX5_165 stX5_toward dX5_gone_55 (d1 := d - 1) (by omega) (e_X5_toward E (by omega) _ _ _) rfl rfl (Nat.le_of_ble_eq_true rfl) ?_
  refine gf_istore dX5_gone_58 (Nat.le_of_ble_eq_true rfl) ?_
  refine gf_iload_n 1 dX5_gone_60 rfl rfl ?_
  refine gf_iload dX5_gone_61 rfl ?_
  refine gf_iadd dX5_gone_63 ?_
  refine gf_iload dX5_gone_64 rfl ?_
  refine gf_aload_n 0 dX5_gone_66 rfl rfl ?_
  refine gf_getR flX5_46 rfl dX5_gone_67 (gt_193 hG) (gp_193_5 hG) ?_
  refine gf_getI flX5_174 rfl dX5_gone_70 (gt_1 hG) ?_
  refine gf_imul dX5_gone_73 ?_
  refine gf_iadd dX5_gone_74 ?_
  exact gf_iretE dX5_gone_75 rfl (rfl) (rfl)
theorem e_X5_pour_193 (E : gE) {d : Nat} (hd : 0 ≤ d) {e c : Nat} (t : Int32) (h : hp_T) (hG : gr h) (X : Nat → Nat → Int32) (he : e < 12) (hc : c < 120) (hA : X 10 e = nI c) : ev E mX5_pour d [.ref (E.1 + 193), .int (nI e), .int t] (hb h 193 12 X) (none) (hb h 193 12 (pouX X e c (hp_i h 149 e) t)) := by
  refine ev_of rfl (fun q => absurd q (by decide)) (Nat.le_of_ble_eq_true rfl) ?_
  refine gf_aload_n 0 dX5_pour_0 rfl rfl ?_
  refine gf_getR flX5_40 rfl dX5_pour_1 (gt_193 hG) (gp_193_14 hG) ?_
  refine gf_iload_n 1 dX5_pour_4 rfl rfl ?_
  refine gf_iald 12 dX5_pour_5 (gt_203 hG) (gl_203 hG) rfl (by omega) (by decide) ?_
  rw [show hp_i (hb h 193 12 X) 203 e = nI c from hA]
  refine gf_istore_n 3 dX5_pour_6 rfl (Nat.le_of_ble_eq_true rfl) ?_
  refine gf_aload_n 0 dX5_pour_7 rfl rfl ?_
  refine gf_getR flX5_50 rfl dX5_pour_8 (gt_193 hG) (gp_193_6 hG) ?_
  refine gf_getR flX5_177 rfl dX5_pour_11 (gt_145 hG) (gp_145_4 hG) ?_
  refine gf_iload_n 1 dX5_pour_14 rfl rfl ?_
  refine gf_iald 12 dX5_pour_15 (gt_149 hG) (gl_149 hG) rfl (by omega) (by decide) ?_
  refine gf_istore dX5_pour_16 (Nat.le_of_ble_eq_true rfl) ?_
  refine gf_aload_n 0 dX5_pour_18 rfl rfl ?_
  refine gf_getR flX5_25 rfl dX5_pour_19 (gt_193 hG) (gp_193_9 hG) ?_
  refine gf_iload_n 3 dX5_pour_22 rfl rfl ?_
  refine gf_dup2 dX5_pour_23 rfl rfl ?_
  refine gf_iald 120 dX5_pour_24 (gt_198 hG) (gl_198 hG) rfl (by omega) (by decide) ?_
  refine gf_aload_n 0 dX5_pour_25 rfl rfl ?_
  refine gf_getR flX5_34 rfl dX5_pour_26 (gt_193 hG) (gp_193_12 hG) ?_
  refine gf_iload_n 3 dX5_pour_29 rfl rfl ?_
  refine gf_zald 120 dX5_pour_30 (gt_201 hG) (gl_201 hG) rfl (by omega) (by decide) ?_
  refine gf_if_eq 39 dX5_pour_31 rfl (fun zc31 => ?_) (fun zc31 => ?_)
  · refine gf_iload dX5_pour_39 rfl ?_
    refine gf_iconst (2) dX5_pour_41 rfl ?_
    refine gf_idiv dX5_pour_42 (by decide) ?_
    refine gf_isub dX5_pour_43 ?_
    refine gf_iast 120 dX5_pour_44 (gt_198 hG) (gl_198 hG) rfl (by omega) (by decide) ?_
    refine gf_aload_n 0 dX5_pour_45 rfl rfl ?_
    refine gf_getR flX5_43 rfl dX5_pour_46 (gt_193 hG) (gp_193_15 hG) ?_
    refine gf_iload_n 1 dX5_pour_49 rfl rfl ?_
    refine gf_iald 12 dX5_pour_50 (gt_204 hG) (gl_204 hG) rfl (by omega) (by decide) ?_
    refine gf_iconst (-1) dX5_pour_51 rfl ?_
    refine gf_icmp_ne 62 dX5_pour_52 rfl (fun zc52 => ?_) (fun zc52 => ?_)
    · refine gf_aload_n 0 dX5_pour_62 rfl rfl ?_
      refine gf_getR flX5_25 rfl dX5_pour_63 (gt_193 hG) (gp_193_9 hG) ?_
      refine gf_iload_n 3 dX5_pour_66 rfl rfl ?_
      refine gf_iald 120 dX5_pour_67 (gt_198 hG) (gl_198 hG) rfl (by omega) (by decide) ?_
      refine gf_if_gt 92 dX5_pour_68 rfl (fun zc68 => ?_) (fun zc68 => ?_)
      · exact gf_vretE dX5_pour_92 rfl (by
        have a1 : X 8 c = 0 := zc31
        have a2 : ¬ X 11 e = -1 := zc52
        have a3 := zc68
        simp only [hs193_0, hs193_1, hs193_2, hs193_3, hs193_4, hs193_5, hs193_6, hs193_7, hs193_8, hs193_9, hs193_10, hs193_11] at a3 ⊢
        have a4 : 0 < X 5 c - (hp_i h 149 e / 2) := by
          have q := up2_s X 5 c (X 5 c - (hp_i h 149 e / 2))
          rw [← q]
          exact a3
        unfold pouX
        simp only [if_pos a1, if_neg a2, if_pos a4]
        rfl)
      · refine gf_aload_n 0 dX5_pour_71 rfl rfl ?_
        refine gf_getR flX5_19 rfl dX5_pour_72 (gt_193 hG) (gp_193_7 hG) ?_
        refine gf_iload_n 3 dX5_pour_75 rfl rfl ?_
        refine gf_iconst (0) dX5_pour_76 rfl ?_
        refine gf_iast 120 dX5_pour_77 (gt_196 hG) (gl_196 hG) rfl (by omega) (by decide) ?_
        refine gf_aload_n 0 dX5_pour_78 rfl rfl ?_
        refine gf_getR flX5_22 rfl dX5_pour_79 (gt_193 hG) (gp_193_8 hG) ?_
        refine gf_iload_n 3 dX5_pour_82 rfl rfl ?_
        refine gf_iconst (0) dX5_pour_83 rfl ?_
        refine gf_iast 120 dX5_pour_84 (gt_197 hG) (gl_197 hG) rfl (by omega) (by decide) ?_
        refine gf_aload_n 0 dX5_pour_85 rfl rfl ?_
        refine gf_getR flX5_25 rfl dX5_pour_86 (gt_193 hG) (gp_193_9 hG) ?_
        refine gf_iload_n 3 dX5_pour_89 rfl rfl ?_
        refine gf_iconst (0) dX5_pour_90 rfl ?_
        refine gf_iast 120 dX5_pour_91 (gt_198 hG) (gl_198 hG) rfl (by omega) (by decide) ?_
        exact gf_vretE dX5_pour_92 rfl (by
        have a1 : X 8 c = 0 := zc31
        have a2 : ¬ X 11 e = -1 := zc52
        have a3 := zc68
        simp only [hs193_0, hs193_1, hs193_2, hs193_3, hs193_4, hs193_5, hs193_6, hs193_7, hs193_8, hs193_9, hs193_10, hs193_11] at a3 ⊢
        have a4 : ¬ 0 < X 5 c - (hp_i h 149 e / 2) := by
          have q := up2_s X 5 c (X 5 c - (hp_i h 149 e / 2))
          rw [← q]
          exact a3
        unfold pouX
        simp only [if_pos a1, if_neg a2, if_neg a4]
        rfl)
    · refine gf_aload_n 0 dX5_pour_55 rfl rfl ?_
      refine gf_getR flX5_43 rfl dX5_pour_56 (gt_193 hG) (gp_193_15 hG) ?_
      refine gf_iload_n 1 dX5_pour_59 rfl rfl ?_
      refine gf_iload_n 2 dX5_pour_60 rfl rfl ?_
      refine gf_iast 12 dX5_pour_61 (gt_204 hG) (gl_204 hG) rfl (by omega) (by decide) ?_
      refine gf_aload_n 0 dX5_pour_62 rfl rfl ?_
      refine gf_getR flX5_25 rfl dX5_pour_63 (gt_193 hG) (gp_193_9 hG) ?_
      refine gf_iload_n 3 dX5_pour_66 rfl rfl ?_
      refine gf_iald 120 dX5_pour_67 (gt_198 hG) (gl_198 hG) rfl (by omega) (by decide) ?_
      refine gf_if_gt 92 dX5_pour_68 rfl (fun zc68 => ?_) (fun zc68 => ?_)
      · exact gf_vretE dX5_pour_92 rfl (by
        have a1 : X 8 c = 0 := zc31
        have a2 : X 11 e = -1 := zc52
        have a3 := zc68
        simp only [hs193_0, hs193_1, hs193_2, hs193_3, hs193_4, hs193_5, hs193_6, hs193_7, hs193_8, hs193_9, hs193_10, hs193_11] at a3 ⊢
        have a4 : 0 < X 5 c - (hp_i h 149 e / 2) := by
          have q := up2_s X 5 c (X 5 c - (hp_i h 149 e / 2))
          rw [← q]
          exact a3
        unfold pouX
        simp only [if_pos a1, if_pos a2, if_pos a4]
        rfl)
      · refine gf_aload_n 0 dX5_pour_71 rfl rfl ?_
        refine gf_getR flX5_19 rfl dX5_pour_72 (gt_193 hG) (gp_193_7 hG) ?_
        refine gf_iload_n 3 dX5_pour_75 rfl rfl ?_
        refine gf_iconst (0) dX5_pour_76 rfl ?_
        refine gf_iast 120 dX5_pour_77 (gt_196 hG) (gl_196 hG) rfl (by omega) (by decide) ?_
        refine gf_aload_n 0 dX5_pour_78 rfl rfl ?_
        refine gf_getR flX5_22 rfl dX5_pour_79 (gt_193 hG) (gp_193_8 hG) ?_
        refine gf_iload_n 3 dX5_pour_82 rfl rfl ?_
        refine gf_iconst (0) dX5_pour_83 rfl ?_
        refine gf_iast 120 dX5_pour_84 (gt_197 hG) (gl_197 hG) rfl (by omega) (by decide) ?_
        refine gf_aload_n 0 dX5_pour_85 rfl rfl ?_
        refine gf_getR flX5_25 rfl dX5_pour_86 (gt_193 hG) (gp_193_9 hG) ?_
        refine gf_iload_n 3 dX5_pour_89 rfl rfl ?_
        refine gf_iconst (0) dX5_pour_90 rfl ?_
        refine gf_iast 120 dX5_pour_91 (gt_198 hG) (gl_198 hG) rfl (by omega) (by decide) ?_
        exact gf_vretE dX5_pour_92 rfl (by
        have a1 : X 8 c = 0 := zc31
        have a2 : X 11 e = -1 := zc52
        have a3 := zc68
        simp only [hs193_0, hs193_1, hs193_2, hs193_3, hs193_4, hs193_5, hs193_6, hs193_7, hs193_8, hs193_9, hs193_10, hs193_11] at a3 ⊢
        have a4 : ¬ 0 < X 5 c - (hp_i h 149 e / 2) := by
          have q := up2_s X 5 c (X 5 c - (hp_i h 149 e / 2))
          rw [← q]
          exact a3
        unfold pouX
        simp only [if_pos a1, if_pos a2, if_neg a4]
        rfl)
  · refine gf_iload dX5_pour_34 rfl ?_
    refine gf_goto 43 dX5_pour_36 rfl ?_
    refine gf_isub dX5_pour_43 ?_
    refine gf_iast 120 dX5_pour_44 (gt_198 hG) (gl_198 hG) rfl (by omega) (by decide) ?_
    refine gf_aload_n 0 dX5_pour_45 rfl rfl ?_
    refine gf_getR flX5_43 rfl dX5_pour_46 (gt_193 hG) (gp_193_15 hG) ?_
    refine gf_iload_n 1 dX5_pour_49 rfl rfl ?_
    refine gf_iald 12 dX5_pour_50 (gt_204 hG) (gl_204 hG) rfl (by omega) (by decide) ?_
    refine gf_iconst (-1) dX5_pour_51 rfl ?_
    refine gf_icmp_ne 62 dX5_pour_52 rfl (fun zc52 => ?_) (fun zc52 => ?_)
    · refine gf_aload_n 0 dX5_pour_62 rfl rfl ?_
      refine gf_getR flX5_25 rfl dX5_pour_63 (gt_193 hG) (gp_193_9 hG) ?_
      refine gf_iload_n 3 dX5_pour_66 rfl rfl ?_
      refine gf_iald 120 dX5_pour_67 (gt_198 hG) (gl_198 hG) rfl (by omega) (by decide) ?_
      refine gf_if_gt 92 dX5_pour_68 rfl (fun zc68 => ?_) (fun zc68 => ?_)
      · exact gf_vretE dX5_pour_92 rfl (by
        have a1 : ¬ X 8 c = 0 := zc31
        have a2 : ¬ X 11 e = -1 := zc52
        have a3 := zc68
        simp only [hs193_0, hs193_1, hs193_2, hs193_3, hs193_4, hs193_5, hs193_6, hs193_7, hs193_8, hs193_9, hs193_10, hs193_11] at a3 ⊢
        have a4 : 0 < X 5 c - (hp_i h 149 e) := by
          have q := up2_s X 5 c (X 5 c - (hp_i h 149 e))
          rw [← q]
          exact a3
        unfold pouX
        simp only [if_neg a1, if_neg a2, if_pos a4]
        rfl)
      · refine gf_aload_n 0 dX5_pour_71 rfl rfl ?_
        refine gf_getR flX5_19 rfl dX5_pour_72 (gt_193 hG) (gp_193_7 hG) ?_
        refine gf_iload_n 3 dX5_pour_75 rfl rfl ?_
        refine gf_iconst (0) dX5_pour_76 rfl ?_
        refine gf_iast 120 dX5_pour_77 (gt_196 hG) (gl_196 hG) rfl (by omega) (by decide) ?_
        refine gf_aload_n 0 dX5_pour_78 rfl rfl ?_
        refine gf_getR flX5_22 rfl dX5_pour_79 (gt_193 hG) (gp_193_8 hG) ?_
        refine gf_iload_n 3 dX5_pour_82 rfl rfl ?_
        refine gf_iconst (0) dX5_pour_83 rfl ?_
        refine gf_iast 120 dX5_pour_84 (gt_197 hG) (gl_197 hG) rfl (by omega) (by decide) ?_
        refine gf_aload_n 0 dX5_pour_85 rfl rfl ?_
        refine gf_getR flX5_25 rfl dX5_pour_86 (gt_193 hG) (gp_193_9 hG) ?_
        refine gf_iload_n 3 dX5_pour_89 rfl rfl ?_
        refine gf_iconst (0) dX5_pour_90 rfl ?_
        refine gf_iast 120 dX5_pour_91 (gt_198 hG) (gl_198 hG) rfl (by omega) (by decide) ?_
        exact gf_vretE dX5_pour_92 rfl (by
        have a1 : ¬ X 8 c = 0 := zc31
        have a2 : ¬ X 11 e = -1 := zc52
        have a3 := zc68
        simp only [hs193_0, hs193_1, hs193_2, hs193_3, hs193_4, hs193_5, hs193_6, hs193_7, hs193_8, hs193_9, hs193_10, hs193_11] at a3 ⊢
        have a4 : ¬ 0 < X 5 c - (hp_i h 149 e) := by
          have q := up2_s X 5 c (X 5 c - (hp_i h 149 e))
          rw [← q]
          exact a3
        unfold pouX
        simp only [if_neg a1, if_neg a2, if_neg a4]
        rfl)
    · refine gf_aload_n 0 dX5_pour_55 rfl rfl ?_
      refine gf_getR flX5_43 rfl dX5_pour_56 (gt_193 hG) (gp_193_15 hG) ?_
      refine gf_iload_n 1 dX5_pour_59 rfl rfl ?_
      refine gf_iload_n 2 dX5_pour_60 rfl rfl ?_
      refine gf_iast 12 dX5_pour_61 (gt_204 hG) (gl_204 hG) rfl (by omega) (by decide) ?_
      refine gf_aload_n 0 dX5_pour_62 rfl rfl ?_
      refine gf_getR flX5_25 rfl dX5_pour_63 (gt_193 hG) (gp_193_9 hG) ?_
      refine gf_iload_n 3 dX5_pour_66 rfl rfl ?_
      refine gf_iald 120 dX5_pour_67 (gt_198 hG) (gl_198 hG) rfl (by omega) (by decide) ?_
      refine gf_if_gt 92 dX5_pour_68 rfl (fun zc68 => ?_) (fun zc68 => ?_)
      · exact gf_vretE dX5_pour_92 rfl (by
        have a1 : ¬ X 8 c = 0 := zc31
        have a2 : X 11 e = -1 := zc52
        have a3 := zc68
        simp only [hs193_0, hs193_1, hs193_2, hs193_3, hs193_4, hs193_5, hs193_6, hs193_7, hs193_8, hs193_9, hs193_10, hs193_11] at a3 ⊢
        have a4 : 0 < X 5 c - (hp_i h 149 e) := by
          have q := up2_s X 5 c (X 5 c - (hp_i h 149 e))
          rw [← q]
          exact a3
        unfold pouX
        simp only [if_neg a1, if_pos a2, if_pos a4]
        rfl)
      · refine gf_aload_n 0 dX5_pour_71 rfl rfl ?_
        refine gf_getR flX5_19 rfl dX5_pour_72 (gt_193 hG) (gp_193_7 hG) ?_
        refine gf_iload_n 3 dX5_pour_75 rfl rfl ?_
        refine gf_iconst (0) dX5_pour_76 rfl ?_
        refine gf_iast 120 dX5_pour_77 (gt_196 hG) (gl_196 hG) rfl (by omega) (by decide) ?_
        refine gf_aload_n 0 dX5_pour_78 rfl rfl ?_
        refine gf_getR flX5_22 rfl dX5_pour_79 (gt_193 hG) (gp_193_8 hG) ?_
        refine gf_iload_n 3 dX5_pour_82 rfl rfl ?_
        refine gf_iconst (0) dX5_pour_83 rfl ?_
        refine gf_iast 120 dX5_pour_84 (gt_197 hG) (gl_197 hG) rfl (by omega) (by decide) ?_
        refine gf_aload_n 0 dX5_pour_85 rfl rfl ?_
        refine gf_getR flX5_25 rfl dX5_pour_86 (gt_193 hG) (gp_193_9 hG) ?_
        refine gf_iload_n 3 dX5_pour_89 rfl rfl ?_
        refine gf_iconst (0) dX5_pour_90 rfl ?_
        refine gf_iast 120 dX5_pour_91 (gt_198 hG) (gl_198 hG) rfl (by omega) (by decide) ?_
        exact gf_vretE dX5_pour_92 rfl (by
        have a1 : ¬ X 8 c = 0 := zc31
        have a2 : X 11 e = -1 := zc52
        have a3 := zc68
        simp only [hs193_0, hs193_1, hs193_2, hs193_3, hs193_4, hs193_5, hs193_6, hs193_7, hs193_8, hs193_9, hs193_10, hs193_11] at a3 ⊢
        have a4 : ¬ 0 < X 5 c - (hp_i h 149 e) := by
          have q := up2_s X 5 c (X 5 c - (hp_i h 149 e))
          rw [← q]
          exact a3
        unfold pouX
        simp only [if_neg a1, if_pos a2, if_neg a4]
        rfl)
theorem l_X5_nearest_193 (E : gE) {d : Nat} (hd : 2 ≤ d) {a : Nat} (off : Int32) (h : hp_T) (hG : gr h) (X : Nat → Nat → Int32) {w g : Nat} (C : cty (hp_i h) w g) (ha : a < w * g) {v : Option Value} {hz : hp_T} (K : gf E mX5_nearest d 79 [(0, .ref (E.1 + 193)), (1, .int (nI a)), (2, .int off), (3, .ref (E.1 + 170)), (4, .int (itN (neaB X (hp_i h 170) w a off) (-1, 120) (w * g)).1), (5, .int (itN (neaB X (hp_i h 170) w a off) (-1, 120) (w * g)).2), (6, .int (nI (w * g)))] [] ((hb h 193 12 X)) v hz) : ∀ (kz jz : Nat), jz + kz = w * g → gf E mX5_nearest d 10 [(0, .ref (E.1 + 193)), (1, .int (nI a)), (2, .int off), (3, .ref (E.1 + 170)), (4, .int (itN (neaB X (hp_i h 170) w a off) (-1, 120) (jz)).1), (5, .int (itN (neaB X (hp_i h 170) w a off) (-1, 120) (jz)).2), (6, .int (nI (jz)))] [] ((hb h 193 12 X)) v hz := by
  have hn := cty_n C
  intro kz
  induction kz with
  | zero =>
    intro jz hj
    have hj : w * g = jz := by omega
    subst hj
    refine gf_iload dX5_nearest_10 rfl ?_
    refine gf_aload_n 0 dX5_nearest_12 rfl rfl ?_
    refine gf_getR flX5_46 rfl dX5_nearest_13 (gt_193 hG) (gp_193_5 hG) ?_
    refine gf_getI flX5_79 rfl dX5_nearest_16 (gt_1 hG) ?_
    refine gf_icmp_ge 79 dX5_nearest_19 rfl (fun _ => ?_) (fun q => absurd (by rw [show hp_i (hb h 193 12 X) 1 2 = nI (w * g) from C.2.2.2.1]; exact nI_le (Nat.le_refl _) (by omega)) q)
    exact gf_lw K ⟨rfl, rfl, rfl, rfl, rfl, rfl, rfl, trivial⟩
  | succ kz ih =>
    intro jz hj
    refine gf_iload dX5_nearest_10 rfl ?_
    refine gf_aload_n 0 dX5_nearest_12 rfl rfl ?_
    refine gf_getR flX5_46 rfl dX5_nearest_13 (gt_193 hG) (gp_193_5 hG) ?_
    refine gf_getI flX5_79 rfl dX5_nearest_16 (gt_1 hG) ?_
    refine gf_icmp_ge 79 dX5_nearest_19 rfl (fun q => absurd q (by rw [show hp_i (hb h 193 12 X) 1 2 = nI (w * g) from C.2.2.2.1]; exact nI_ge (by omega) (by omega))) (fun _ => ?_)
    refine gf_aload_n 0 dX5_nearest_22 rfl rfl ?_
    refine gf_getR flX5_19 rfl dX5_nearest_23 (gt_193 hG) (gp_193_7 hG) ?_
    refine gf_iload dX5_nearest_26 rfl ?_
    refine gf_iald 120 dX5_nearest_28 (gt_196 hG) (gl_196 hG) rfl (by omega) (by decide) ?_
    refine gf_iconst (1) dX5_nearest_29 rfl ?_
    refine gf_icmp_ne 73 dX5_nearest_30 rfl (fun zc30 => ?_) (fun zc30 => ?_)
    · refine gf_iinc (1) dX5_nearest_73 rfl rfl (Nat.le_of_ble_eq_true rfl) ?_
      refine gf_goto 10 dX5_nearest_76 rfl ?_
      exact gf_lw (ih (jz + 1) (by omega)) ⟨rfl, rfl, rfl, rfl, lvE ((congrArg Prod.fst (show (itN (neaB X (hp_i h 170) w a off) (-1, 120) (jz + 1)) = _ from if_neg (fun q => zc30 q.1))).symm), lvE ((congrArg Prod.snd (show (itN (neaB X (hp_i h 170) w a off) (-1, 120) (jz + 1)) = _ from if_neg (fun q => zc30 q.1))).symm), lvE (nI_1 jz), trivial⟩
    · refine gf_aload_n 3 dX5_nearest_33 rfl rfl ?_
      refine gf_iload dX5_nearest_34 rfl ?_
      refine gf_iald 120 dX5_nearest_36 (gt_170 hG) (gl_170 hG) rfl (by omega) (by decide) ?_
      refine gf_iload_n 2 dX5_nearest_37 rfl rfl ?_
      refine gf_iand dX5_nearest_38 ?_
      refine gf_if_eq 73 dX5_nearest_39 rfl (fun zc39 => ?_) (fun zc39 => ?_)
      · refine gf_iinc (1) dX5_nearest_73 rfl rfl (Nat.le_of_ble_eq_true rfl) ?_
        refine gf_goto 10 dX5_nearest_76 rfl ?_
        exact gf_lw (ih (jz + 1) (by omega)) ⟨rfl, rfl, rfl, rfl, lvE ((congrArg Prod.fst (show (itN (neaB X (hp_i h 170) w a off) (-1, 120) (jz + 1)) = _ from if_neg (fun q => q.2.1 zc39))).symm), lvE ((congrArg Prod.snd (show (itN (neaB X (hp_i h 170) w a off) (-1, 120) (jz + 1)) = _ from if_neg (fun q => q.2.1 zc39))).symm), lvE (nI_1 jz), trivial⟩
      · refine gf_aload_n 0 dX5_nearest_42 rfl rfl ?_
        refine gf_getR flX5_46 rfl dX5_nearest_43 (gt_193 hG) (gp_193_5 hG) ?_
        refine gf_iload_n 1 dX5_nearest_46 rfl rfl ?_
        refine gf_iload dX5_nearest_47 rfl ?_
        refine gf_callV cmX1_apart lkX5_159 imX1_apart seX1_apart ⟨rfl, by decide⟩ dX5_nearest_49 (d1 := d - 1) (by omega) (gt_1 hG) (e_X1_apart E (by omega) (hb h 193 12 X) hG (w := w) (g := g) (cty_hb X (by decide) C) ha (show jz < w * g by omega)) rfl rfl (Nat.le_of_ble_eq_true rfl) ?_
        refine gf_iload dX5_nearest_52 rfl ?_
        refine gf_icmp_ge 73 dX5_nearest_54 rfl (fun zc54 => ?_) (fun zc54 => ?_)
        · refine gf_iinc (1) dX5_nearest_73 rfl rfl (Nat.le_of_ble_eq_true rfl) ?_
          refine gf_goto 10 dX5_nearest_76 rfl ?_
          exact gf_lw (ih (jz + 1) (by omega)) ⟨rfl, rfl, rfl, rfl, lvE ((congrArg Prod.fst (show (itN (neaB X (hp_i h 170) w a off) (-1, 120) (jz + 1)) = _ from if_neg (fun q => (fa_of_lt q.2.2).2.1 zc54))).symm), lvE ((congrArg Prod.snd (show (itN (neaB X (hp_i h 170) w a off) (-1, 120) (jz + 1)) = _ from if_neg (fun q => (fa_of_lt q.2.2).2.1 zc54))).symm), lvE (nI_1 jz), trivial⟩
        · refine gf_iload dX5_nearest_57 rfl ?_
          refine gf_istore dX5_nearest_59 (Nat.le_of_ble_eq_true rfl) ?_
          refine gf_aload_n 0 dX5_nearest_61 rfl rfl ?_
          refine gf_getR flX5_46 rfl dX5_nearest_62 (gt_193 hG) (gp_193_5 hG) ?_
          refine gf_iload_n 1 dX5_nearest_65 rfl rfl ?_
          refine gf_iload dX5_nearest_66 rfl ?_
          refine gf_callV cmX1_apart lkX5_159 imX1_apart seX1_apart ⟨rfl, by decide⟩ dX5_nearest_68 (d1 := d - 1) (by omega) (gt_1 hG) (e_X1_apart E (by omega) (hb h 193 12 X) hG (w := w) (g := g) (cty_hb X (by decide) C) ha (show jz < w * g by omega)) rfl rfl (Nat.le_of_ble_eq_true rfl) ?_
          refine gf_istore dX5_nearest_71 (Nat.le_of_ble_eq_true rfl) ?_
          refine gf_iinc (1) dX5_nearest_73 rfl rfl (Nat.le_of_ble_eq_true rfl) ?_
          refine gf_goto 10 dX5_nearest_76 rfl ?_
          exact gf_lw (ih (jz + 1) (by omega)) ⟨rfl, rfl, rfl, rfl, lvE ((congrArg Prod.fst (show (itN (neaB X (hp_i h 170) w a off) (-1, 120) (jz + 1)) = _ from if_pos ⟨zc30, zc39, fa_of_nle zc54⟩)).symm), lvE ((congrArg Prod.snd (show (itN (neaB X (hp_i h 170) w a off) (-1, 120) (jz + 1)) = _ from if_pos ⟨zc30, zc39, fa_of_nle zc54⟩)).symm), lvE (nI_1 jz), trivial⟩
theorem e_X5_nearest_193 (E : gE) {d : Nat} (hd : 2 ≤ d) {a : Nat} (off : Int32) (h : hp_T) (hG : gr h) (X : Nat → Nat → Int32) {w g : Nat} (C : cty (hp_i h) w g) (ha : a < w * g) : ev E mX5_nearest d [.ref (E.1 + 193), .int (nI a), .int off, .ref (E.1 + 170)] (hb h 193 12 X) (some (.int (itN (neaB X (hp_i h 170) w a off) (-1, 120) (w * g)).1)) (hb h 193 12 X) := by
  refine ev_of rfl (fun q => absurd q (by decide)) (Nat.le_of_ble_eq_true rfl) ?_
  refine gf_iconst (-1) dX5_nearest_0 rfl ?_
  refine gf_istore dX5_nearest_1 (Nat.le_of_ble_eq_true rfl) ?_
  refine gf_bipush (120) dX5_nearest_3 rfl ?_
  refine gf_istore dX5_nearest_5 (Nat.le_of_ble_eq_true rfl) ?_
  refine gf_iconst (0) dX5_nearest_7 rfl ?_
  refine gf_istore dX5_nearest_8 (Nat.le_of_ble_eq_true rfl) ?_
  refine l_X5_nearest_193 E hd off h hG X C ha ?_ (w * g) 0 (by omega)
  refine gf_iload dX5_nearest_79 rfl ?_
  exact gf_iretE dX5_nearest_81 rfl (rfl) (rfl)
