/-! ===== the class: one statement ===== -/
def staB (Z : rZ) (w : Int32) : rZ := up2 (up2 (up2 (rnxt Z) 3 (Z 0 3).toNatClampNeg (Z 0 4)) 2 (Z 0 3).toNatClampNeg w) 0 3 (Z 0 3 + 1)
def staS (R0 R2 : rZ → Bool × rZ) (Z : rZ) : Bool × rZ :=
  if 24 ≤ Z 0 3 then (false, rref Z 4 (rher Z))
  else if ¬ (14 ≤ rtok Z ∧ rtok Z ≤ 19) then (false, rref Z 1 (rher Z))
  else if ¬ rtok Z = 19 then rbd ((if rtok Z = 17 ∨ rtok Z = 18 then R2 else R0) (staB Z (rtok Z))) (fun Y => rpas Y 59)
  else if ¬ (20 ≤ rtok (staB Z (rtok (rnxt Z))) ∧ rtok (staB Z (rtok (rnxt Z))) ≤ 22) then (false, rref (staB Z (rtok (rnxt Z))) 1 (rher (staB Z (rtok (rnxt Z)))))
  else rpas (rnxt (staB Z (rtok (rnxt Z)))) 59
theorem staB_I {Z : rZ} {w : Int32} (I : rdI Z) (h3 : ¬ 24 ≤ Z 0 3) (h24 : ¬ rtok Z = 24) : rdI (staB Z w) := by
  obtain ⟨a, c, l, t, q1, q2, q3, q4, q5, q6, q7, q8⟩ := rnxt_I I h24
  have e3 : rnxt Z 0 3 = Z 0 3 := rfl
  rw [e3] at q7
  have ht : t < 24 := by
    rcases Nat.lt_or_ge t 24 with x | x
    · exact x
    · exact absurd (by rw [q7]; exact nI_le (a := 24) x (by omega)) h3
  refine ⟨a, c, l, t + 1, q1, q2, q3, q4, q5, q6, ?_, ht⟩
  unfold staB
  rw [up2_s, q7, nI_1]
theorem staS_I {R0 R2 : rZ → Bool × rZ} {Z : rZ} (I : rdI Z) (h0 : ∀ Y, rdI Y → rdI (R0 Y).2) (h2 : ∀ Y, rdI Y → rdI (R2 Y).2) : rdI (staS R0 R2 Z).2 := by
  unfold staS
  split
  · exact rref_I _ _ I
  · rename_i e3
    split
    · exact rref_I _ _ I
    · rename_i ew
      have h24 : ¬ rtok Z = 24 := fun q => ew (fun w => by rw [q] at w; exact absurd w.2 (by decide))
      split
      · refine rbd_I ?_ (fun Y hY => rpas_I hY (by decide))
        split
        · exact h2 _ (staB_I I e3 h24)
        · exact h0 _ (staB_I I e3 h24)
      · split
        · exact rref_I _ _ (staB_I I e3 h24)
        · rename_i eb
          exact rpas_I (rnxt_I (staB_I I e3 h24) (fun q => eb (fun w => by rw [q] at w; exact absurd w.2 (by decide)))) (by decide)
theorem e_X9_readStatement (E : gE) {d : Nat} (hd : 4 ≤ d) (R0 R2 : rZ → Bool × rZ) (h : hp_T) (hG : gr h) (hR0 : pcO E mX9_readRow (d - 1) [.int (nI 0), .int (nI 0)] R0 h) (hR2 : pcO E mX9_readRow (d - 1) [.int (nI 2), .int (nI 0)] R2 h) : pcO E mX9_readStatement d [] (staS R0 R2) h := by
  intro Z I
  refine ⟨?_, staS_I I (fun Y hY => (hR0 Y hY).2) (fun Y hY => (hR2 Y hY).2)⟩
  have I0 := I
  obtain ⟨a, c, l, t, h1, h2, h3, h4, h5, h6, h7, h8⟩ := I0
  refine ev_of rfl (fun q => absurd q (by decide)) (Nat.le_of_ble_eq_true rfl) ?_
  refine gf_aload_n 0 dX9_readStatement_0 rfl rfl ?_
  refine gf_getI flX9_43 rfl dX9_readStatement_1 (gt_150 hG) ?_
  refine gf_bipush (24) dX9_readStatement_4 rfl ?_
  refine gf_icmp_lt 19 dX9_readStatement_6 rfl (fun zc6 => ?_) (fun zc6 => ?_)
  · have h24 : ¬ 24 ≤ Z 0 3 := fun w => by have q : Z 0 3 < 24 := zc6; rw [fa_lt] at q; rw [fa_le] at w; omega
    have ht : t < 24 := by rw [h7] at h24; rcases Nat.lt_or_ge t 24 with x | x; exact x; exact absurd (nI_le (a := 24) x (by omega)) h24
    refine gf_aload_n 0 dX9_readStatement_19 rfl rfl ?_
    refine gf_callV cmX9_token lkX9_55 imX9_token seX9_token ⟨rfl, by decide⟩ dX9_readStatement_20 (d1 := d - 1) (by omega) (gt_150 hG) (e_X9_token E (by omega) h hG Z I) rfl rfl (Nat.le_of_ble_eq_true rfl) ?_
    refine gf_istore_n 1 dX9_readStatement_23 rfl (Nat.le_of_ble_eq_true rfl) ?_
    refine gf_iload_n 1 dX9_readStatement_24 rfl rfl ?_
    refine gf_bipush (14) dX9_readStatement_25 rfl ?_
    refine gf_icmp_lt 36 dX9_readStatement_27 rfl (fun zc27 => ?_) (fun zc27 => ?_)
    · have hnw : ¬ (14 ≤ rtok Z ∧ rtok Z ≤ 19) := fun w => by have q := zc27; rw [fa_lt] at q; have w1 := w.1; rw [fa_le] at w1; omega
      refine gf_aload_n 0 dX9_readStatement_36 rfl rfl ?_
      refine gf_iconst (1) dX9_readStatement_37 rfl ?_
      refine gf_aload_n 0 dX9_readStatement_38 rfl rfl ?_
      refine gf_callV cmX9_here lkX9_100 imX9_here seX9_here ⟨rfl, by decide⟩ dX9_readStatement_39 (d1 := d - 1) (by omega) (gt_150 hG) (e_X9_here E (by omega) h hG Z I) rfl rfl (Nat.le_of_ble_eq_true rfl) ?_
      refine gf_callV cmX9_refuse lkX9_103 imX9_refuse seX9_refuse ⟨rfl, by decide⟩ dX9_readStatement_42 (d1 := d - 1) (by omega) (gt_150 hG) (e_X9_refuse E (by omega) 1 (rher Z) h hG Z) rfl rfl (Nat.le_of_ble_eq_true rfl) ?_
      exact gf_bret dX9_readStatement_45 rfl (by rw [show staS R0 R2 Z = _ from (if_neg h24).trans (if_pos hnw)]; first | done | rfl) (by rw [show staS R0 R2 Z = _ from (if_neg h24).trans (if_pos hnw)]; first | done | rfl)
    · refine gf_iload_n 1 dX9_readStatement_30 rfl rfl ?_
      refine gf_bipush (19) dX9_readStatement_31 rfl ?_
      refine gf_icmp_le 46 dX9_readStatement_33 rfl (fun zc33 => ?_) (fun zc33 => ?_)
      · have hw : 14 ≤ rtok Z ∧ rtok Z ≤ 19 := ⟨by have q := zc27; rw [fa_lt] at q; rw [fa_le]; omega, zc33⟩
        have hn24 : ¬ rtok Z = 24 := fun q => by rw [q] at hw; exact absurd hw.2 (by decide)
        have IW : rdI (staB Z (rtok Z)) := staB_I I h24 hn24
        have IB : rdI (staB Z (rtok (rnxt Z))) := staB_I I h24 hn24
        have I1 : rdI (up2 (rnxt Z) 3 t (Z 0 4)) := rnxt_I I hn24
        have eB : (staB Z (rtok Z)) = up2 (up2 (up2 (rnxt Z) 3 t (Z 0 4)) 2 t (rtok Z)) 0 3 (Z 0 3 + 1) := by unfold staB; rw [h7, nI_clamp (by omega)]
        have eBB : (staB Z (rtok (rnxt Z))) = up2 (up2 (up2 (rnxt Z) 3 t (Z 0 4)) 2 t (rtok (rnxt Z))) 0 3 (Z 0 3 + 1) := by unfold staB; rw [h7, nI_clamp (by omega)]
        refine gf_aload_n 0 dX9_readStatement_46 rfl rfl ?_
        refine gf_dup dX9_readStatement_47 rfl ?_
        refine gf_getI flX9_49 rfl dX9_readStatement_48 (gt_150 hG) ?_
        refine gf_iconst (1) dX9_readStatement_51 rfl ?_
        refine gf_iadd dX9_readStatement_52 ?_
        refine gf_putI flX9_49 rfl rfl dX9_readStatement_53 (gt_150 hG) ⟨rfl, rfl⟩ ?_
        rw [rd_0]
        change gf _ _ _ _ _ _ (hb h 150 8 (rnxt Z)) _ _
        refine gf_aload_n 0 dX9_readStatement_56 rfl rfl ?_
        refine gf_getR flX9_22 rfl dX9_readStatement_57 (gt_150 hG) (gp_150_7 hG) ?_
        refine gf_aload_n 0 dX9_readStatement_60 rfl rfl ?_
        refine gf_getI flX9_43 rfl dX9_readStatement_61 (gt_150 hG) ?_
        refine gf_aload_n 0 dX9_readStatement_64 rfl rfl ?_
        refine gf_getI flX9_46 rfl dX9_readStatement_65 (gt_150 hG) ?_
        rw [show hp_i (hb h 150 8 (rnxt Z)) 150 4 = Z 0 4 from rfl]
        refine gf_iast 24 dX9_readStatement_68 (gt_153 hG) (gl_153 hG) h7 (by omega) (by decide) ?_
        rw [rd_3]
        refine gf_aload_n 0 dX9_readStatement_69 rfl rfl ?_
        refine gf_getR flX9_19 rfl dX9_readStatement_70 (gt_150 hG) (gp_150_6 hG) ?_
        refine gf_aload_n 0 dX9_readStatement_73 rfl rfl ?_
        refine gf_getI flX9_43 rfl dX9_readStatement_74 (gt_150 hG) ?_
        refine gf_iload_n 1 dX9_readStatement_77 rfl rfl ?_
        refine gf_bipush (19) dX9_readStatement_78 rfl ?_
        refine gf_icmp_ne 90 dX9_readStatement_80 rfl (fun zc80 => ?_) (fun zc80 => ?_)
        · have h19 : ¬ rtok Z = 19 := zc80
          refine gf_iload_n 1 dX9_readStatement_90 rfl rfl ?_
          refine gf_iast 24 dX9_readStatement_91 (gt_152 hG) (gl_152 hG) h7 (by omega) (by decide) ?_
          rw [rd_2]
          refine gf_aload_n 0 dX9_readStatement_92 rfl rfl ?_
          refine gf_dup dX9_readStatement_93 rfl ?_
          refine gf_getI flX9_43 rfl dX9_readStatement_94 (gt_150 hG) ?_
          rw [show hp_i (hb h 150 8 (up2 (up2 (rnxt Z) 3 t (Z 0 4)) 2 t (rtok Z))) 150 3 = Z 0 3 from rfl]
          refine gf_iconst (1) dX9_readStatement_97 rfl ?_
          refine gf_iadd dX9_readStatement_98 ?_
          refine gf_putI flX9_43 rfl rfl dX9_readStatement_99 (gt_150 hG) ⟨rfl, rfl⟩ ?_
          rw [rd_0, ← eB]
          refine gf_iload_n 1 dX9_readStatement_102 rfl rfl ?_
          refine gf_bipush (19) dX9_readStatement_103 rfl ?_
          refine gf_icmp_eq 148 dX9_readStatement_105 rfl (fun q => absurd q (h19)) (fun _ => ?_)
          refine gf_aload_n 0 dX9_readStatement_108 rfl rfl ?_
          refine gf_iload_n 1 dX9_readStatement_109 rfl rfl ?_
          refine gf_bipush (17) dX9_readStatement_110 rfl ?_
          refine gf_icmp_eq 121 dX9_readStatement_112 rfl (fun zc112 => ?_) (fun zc112 => ?_)
          · have hr2 := hR2 (staB Z (rtok Z)) IW
            have hR : (if rtok Z = 17 ∨ rtok Z = 18 then R2 else R0) (staB Z (rtok Z)) = R2 (staB Z (rtok Z)) := by rw [if_pos (Or.inl zc112)]
            refine gf_iconst (2) dX9_readStatement_121 rfl ?_
            refine gf_goto 126 dX9_readStatement_122 rfl ?_
            refine gf_iconst (0) dX9_readStatement_126 rfl ?_
            refine gf_callV cmX9_readRow lkX9_107 imX9_readRow seX9_readRow ⟨rfl, by decide⟩ dX9_readStatement_127 (d1 := d - 1) (by omega) (gt_150 hG) (hr2.1) rfl rfl (Nat.le_of_ble_eq_true rfl) ?_
            refine gf_if_eq 146 dX9_readStatement_130 rfl (fun zc130 => ?_) (fun zc130 => ?_)
            · have hb130 := bI_f zc130
              refine gf_iconst (0) dX9_readStatement_146 rfl ?_
              exact gf_bret dX9_readStatement_147 rfl (by rw [show staS R0 R2 Z = _ from (if_neg h24).trans ((if_neg (not_not_intro hw)).trans ((if_pos h19).trans (rbd_f (r := (if rtok Z = 17 ∨ rtok Z = 18 then R2 else R0) (staB Z (rtok Z))) (by rw [hR]; exact hb130))))]; rfl) (by rw [show staS R0 R2 Z = _ from (if_neg h24).trans ((if_neg (not_not_intro hw)).trans ((if_pos h19).trans (rbd_f (r := (if rtok Z = 17 ∨ rtok Z = 18 then R2 else R0) (staB Z (rtok Z))) (by rw [hR]; exact hb130)))), hR])
            · have hb130 := bI_t zc130
              refine gf_aload_n 0 dX9_readStatement_133 rfl rfl ?_
              refine gf_bipush (59) dX9_readStatement_134 rfl ?_
              refine gf_callV cmX9_pass lkX9_110 imX9_pass seX9_pass ⟨rfl, by decide⟩ dX9_readStatement_136 (d1 := d - 1) (by omega) (gt_150 hG) (e_X9_pass E (by omega) 59 h hG _ hr2.2) rfl rfl (Nat.le_of_ble_eq_true rfl) ?_
              refine gf_if_eq 146 dX9_readStatement_139 rfl (fun zc139 => ?_) (fun zc139 => ?_)
              · have hb139 := bI_f zc139
                refine gf_iconst (0) dX9_readStatement_146 rfl ?_
                exact gf_bret dX9_readStatement_147 rfl (by rw [show staS R0 R2 Z = _ from (if_neg h24).trans ((if_neg (not_not_intro hw)).trans ((if_pos h19).trans (rbd_t (r := (if rtok Z = 17 ∨ rtok Z = 18 then R2 else R0) (staB Z (rtok Z))) (by rw [hR]; exact hb130)))), hR]; rw [hb139]; first | done | rfl) (by rw [show staS R0 R2 Z = _ from (if_neg h24).trans ((if_neg (not_not_intro hw)).trans ((if_pos h19).trans (rbd_t (r := (if rtok Z = 17 ∨ rtok Z = 18 then R2 else R0) (staB Z (rtok Z))) (by rw [hR]; exact hb130)))), hR])
              · have hb139 := bI_t zc139
                refine gf_iconst (1) dX9_readStatement_142 rfl ?_
                refine gf_goto 147 dX9_readStatement_143 rfl ?_
                exact gf_bret dX9_readStatement_147 rfl (by rw [show staS R0 R2 Z = _ from (if_neg h24).trans ((if_neg (not_not_intro hw)).trans ((if_pos h19).trans (rbd_t (r := (if rtok Z = 17 ∨ rtok Z = 18 then R2 else R0) (staB Z (rtok Z))) (by rw [hR]; exact hb130)))), hR]; rw [hb139]; first | done | rfl) (by rw [show staS R0 R2 Z = _ from (if_neg h24).trans ((if_neg (not_not_intro hw)).trans ((if_pos h19).trans (rbd_t (r := (if rtok Z = 17 ∨ rtok Z = 18 then R2 else R0) (staB Z (rtok Z))) (by rw [hR]; exact hb130)))), hR])
          · refine gf_iload_n 1 dX9_readStatement_115 rfl rfl ?_
            refine gf_bipush (18) dX9_readStatement_116 rfl ?_
            refine gf_icmp_ne 125 dX9_readStatement_118 rfl (fun zc118 => ?_) (fun zc118 => ?_)
            · have hr0 := hR0 (staB Z (rtok Z)) IW
              have hR : (if rtok Z = 17 ∨ rtok Z = 18 then R2 else R0) (staB Z (rtok Z)) = R0 (staB Z (rtok Z)) := by rw [if_neg (fun w => Or.elim w zc112 zc118)]
              refine gf_iconst (0) dX9_readStatement_125 rfl ?_
              refine gf_iconst (0) dX9_readStatement_126 rfl ?_
              refine gf_callV cmX9_readRow lkX9_107 imX9_readRow seX9_readRow ⟨rfl, by decide⟩ dX9_readStatement_127 (d1 := d - 1) (by omega) (gt_150 hG) (hr0.1) rfl rfl (Nat.le_of_ble_eq_true rfl) ?_
              refine gf_if_eq 146 dX9_readStatement_130 rfl (fun zc130 => ?_) (fun zc130 => ?_)
              · have hb130 := bI_f zc130
                refine gf_iconst (0) dX9_readStatement_146 rfl ?_
                exact gf_bret dX9_readStatement_147 rfl (by rw [show staS R0 R2 Z = _ from (if_neg h24).trans ((if_neg (not_not_intro hw)).trans ((if_pos h19).trans (rbd_f (r := (if rtok Z = 17 ∨ rtok Z = 18 then R2 else R0) (staB Z (rtok Z))) (by rw [hR]; exact hb130))))]; rfl) (by rw [show staS R0 R2 Z = _ from (if_neg h24).trans ((if_neg (not_not_intro hw)).trans ((if_pos h19).trans (rbd_f (r := (if rtok Z = 17 ∨ rtok Z = 18 then R2 else R0) (staB Z (rtok Z))) (by rw [hR]; exact hb130)))), hR])
              · have hb130 := bI_t zc130
                refine gf_aload_n 0 dX9_readStatement_133 rfl rfl ?_
                refine gf_bipush (59) dX9_readStatement_134 rfl ?_
                refine gf_callV cmX9_pass lkX9_110 imX9_pass seX9_pass ⟨rfl, by decide⟩ dX9_readStatement_136 (d1 := d - 1) (by omega) (gt_150 hG) (e_X9_pass E (by omega) 59 h hG _ hr0.2) rfl rfl (Nat.le_of_ble_eq_true rfl) ?_
                refine gf_if_eq 146 dX9_readStatement_139 rfl (fun zc139 => ?_) (fun zc139 => ?_)
                · have hb139 := bI_f zc139
                  refine gf_iconst (0) dX9_readStatement_146 rfl ?_
                  exact gf_bret dX9_readStatement_147 rfl (by rw [show staS R0 R2 Z = _ from (if_neg h24).trans ((if_neg (not_not_intro hw)).trans ((if_pos h19).trans (rbd_t (r := (if rtok Z = 17 ∨ rtok Z = 18 then R2 else R0) (staB Z (rtok Z))) (by rw [hR]; exact hb130)))), hR]; rw [hb139]; first | done | rfl) (by rw [show staS R0 R2 Z = _ from (if_neg h24).trans ((if_neg (not_not_intro hw)).trans ((if_pos h19).trans (rbd_t (r := (if rtok Z = 17 ∨ rtok Z = 18 then R2 else R0) (staB Z (rtok Z))) (by rw [hR]; exact hb130)))), hR])
                · have hb139 := bI_t zc139
                  refine gf_iconst (1) dX9_readStatement_142 rfl ?_
                  refine gf_goto 147 dX9_readStatement_143 rfl ?_
                  exact gf_bret dX9_readStatement_147 rfl (by rw [show staS R0 R2 Z = _ from (if_neg h24).trans ((if_neg (not_not_intro hw)).trans ((if_pos h19).trans (rbd_t (r := (if rtok Z = 17 ∨ rtok Z = 18 then R2 else R0) (staB Z (rtok Z))) (by rw [hR]; exact hb130)))), hR]; rw [hb139]; first | done | rfl) (by rw [show staS R0 R2 Z = _ from (if_neg h24).trans ((if_neg (not_not_intro hw)).trans ((if_pos h19).trans (rbd_t (r := (if rtok Z = 17 ∨ rtok Z = 18 then R2 else R0) (staB Z (rtok Z))) (by rw [hR]; exact hb130)))), hR])
            · have hr2 := hR2 (staB Z (rtok Z)) IW
              have hR : (if rtok Z = 17 ∨ rtok Z = 18 then R2 else R0) (staB Z (rtok Z)) = R2 (staB Z (rtok Z)) := by rw [if_pos (Or.inr zc118)]
              refine gf_iconst (2) dX9_readStatement_121 rfl ?_
              refine gf_goto 126 dX9_readStatement_122 rfl ?_
              refine gf_iconst (0) dX9_readStatement_126 rfl ?_
              refine gf_callV cmX9_readRow lkX9_107 imX9_readRow seX9_readRow ⟨rfl, by decide⟩ dX9_readStatement_127 (d1 := d - 1) (by omega) (gt_150 hG) (hr2.1) rfl rfl (Nat.le_of_ble_eq_true rfl) ?_
              refine gf_if_eq 146 dX9_readStatement_130 rfl (fun zc130 => ?_) (fun zc130 => ?_)
              · have hb130 := bI_f zc130
                refine gf_iconst (0) dX9_readStatement_146 rfl ?_
                exact gf_bret dX9_readStatement_147 rfl (by rw [show staS R0 R2 Z = _ from (if_neg h24).trans ((if_neg (not_not_intro hw)).trans ((if_pos h19).trans (rbd_f (r := (if rtok Z = 17 ∨ rtok Z = 18 then R2 else R0) (staB Z (rtok Z))) (by rw [hR]; exact hb130))))]; rfl) (by rw [show staS R0 R2 Z = _ from (if_neg h24).trans ((if_neg (not_not_intro hw)).trans ((if_pos h19).trans (rbd_f (r := (if rtok Z = 17 ∨ rtok Z = 18 then R2 else R0) (staB Z (rtok Z))) (by rw [hR]; exact hb130)))), hR])
              · have hb130 := bI_t zc130
                refine gf_aload_n 0 dX9_readStatement_133 rfl rfl ?_
                refine gf_bipush (59) dX9_readStatement_134 rfl ?_
                refine gf_callV cmX9_pass lkX9_110 imX9_pass seX9_pass ⟨rfl, by decide⟩ dX9_readStatement_136 (d1 := d - 1) (by omega) (gt_150 hG) (e_X9_pass E (by omega) 59 h hG _ hr2.2) rfl rfl (Nat.le_of_ble_eq_true rfl) ?_
                refine gf_if_eq 146 dX9_readStatement_139 rfl (fun zc139 => ?_) (fun zc139 => ?_)
                · have hb139 := bI_f zc139
                  refine gf_iconst (0) dX9_readStatement_146 rfl ?_
                  exact gf_bret dX9_readStatement_147 rfl (by rw [show staS R0 R2 Z = _ from (if_neg h24).trans ((if_neg (not_not_intro hw)).trans ((if_pos h19).trans (rbd_t (r := (if rtok Z = 17 ∨ rtok Z = 18 then R2 else R0) (staB Z (rtok Z))) (by rw [hR]; exact hb130)))), hR]; rw [hb139]; first | done | rfl) (by rw [show staS R0 R2 Z = _ from (if_neg h24).trans ((if_neg (not_not_intro hw)).trans ((if_pos h19).trans (rbd_t (r := (if rtok Z = 17 ∨ rtok Z = 18 then R2 else R0) (staB Z (rtok Z))) (by rw [hR]; exact hb130)))), hR])
                · have hb139 := bI_t zc139
                  refine gf_iconst (1) dX9_readStatement_142 rfl ?_
                  refine gf_goto 147 dX9_readStatement_143 rfl ?_
                  exact gf_bret dX9_readStatement_147 rfl (by rw [show staS R0 R2 Z = _ from (if_neg h24).trans ((if_neg (not_not_intro hw)).trans ((if_pos h19).trans (rbd_t (r := (if rtok Z = 17 ∨ rtok Z = 18 then R2 else R0) (staB Z (rtok Z))) (by rw [hR]; exact hb130)))), hR]; rw [hb139]; first | done | rfl) (by rw [show staS R0 R2 Z = _ from (if_neg h24).trans ((if_neg (not_not_intro hw)).trans ((if_pos h19).trans (rbd_t (r := (if rtok Z = 17 ∨ rtok Z = 18 then R2 else R0) (staB Z (rtok Z))) (by rw [hR]; exact hb130)))), hR])
        · have h19 : rtok Z = 19 := zc80
          refine gf_aload_n 0 dX9_readStatement_83 rfl rfl ?_
          refine gf_callV cmX9_token lkX9_55 imX9_token seX9_token ⟨rfl, by decide⟩ dX9_readStatement_84 (d1 := d - 1) (by omega) (gt_150 hG) (e_X9_token E (by omega) h hG (up2 (rnxt Z) 3 t (Z 0 4)) I1) rfl rfl (Nat.le_of_ble_eq_true rfl) ?_
          rw [show rtok (up2 (rnxt Z) 3 t (Z 0 4)) = rtok (rnxt Z) from rfl]
          refine gf_goto 91 dX9_readStatement_87 rfl ?_
          refine gf_iast 24 dX9_readStatement_91 (gt_152 hG) (gl_152 hG) h7 (by omega) (by decide) ?_
          rw [rd_2]
          refine gf_aload_n 0 dX9_readStatement_92 rfl rfl ?_
          refine gf_dup dX9_readStatement_93 rfl ?_
          refine gf_getI flX9_43 rfl dX9_readStatement_94 (gt_150 hG) ?_
          rw [show hp_i (hb h 150 8 (up2 (up2 (rnxt Z) 3 t (Z 0 4)) 2 t (rtok (rnxt Z)))) 150 3 = Z 0 3 from rfl]
          refine gf_iconst (1) dX9_readStatement_97 rfl ?_
          refine gf_iadd dX9_readStatement_98 ?_
          refine gf_putI flX9_43 rfl rfl dX9_readStatement_99 (gt_150 hG) ⟨rfl, rfl⟩ ?_
          rw [rd_0, ← eBB]
          refine gf_iload_n 1 dX9_readStatement_102 rfl rfl ?_
          refine gf_bipush (19) dX9_readStatement_103 rfl ?_
          refine gf_icmp_eq 148 dX9_readStatement_105 rfl (fun _ => ?_) (fun q => absurd (h19) q)
          refine gf_aload_n 0 dX9_readStatement_148 rfl rfl ?_
          refine gf_callV cmX9_token lkX9_55 imX9_token seX9_token ⟨rfl, by decide⟩ dX9_readStatement_149 (d1 := d - 1) (by omega) (gt_150 hG) (e_X9_token E (by omega) h hG (staB Z (rtok (rnxt Z))) IB) rfl rfl (Nat.le_of_ble_eq_true rfl) ?_
          refine gf_bipush (20) dX9_readStatement_152 rfl ?_
          refine gf_icmp_lt 166 dX9_readStatement_154 rfl (fun zc154 => ?_) (fun zc154 => ?_)
          · have hnb : ¬ (20 ≤ rtok (staB Z (rtok (rnxt Z))) ∧ rtok (staB Z (rtok (rnxt Z))) ≤ 22) := fun w => by have q := zc154; rw [fa_lt] at q; have w1 := w.1; rw [fa_le] at w1; omega
            refine gf_aload_n 0 dX9_readStatement_166 rfl rfl ?_
            refine gf_iconst (1) dX9_readStatement_167 rfl ?_
            refine gf_aload_n 0 dX9_readStatement_168 rfl rfl ?_
            refine gf_callV cmX9_here lkX9_100 imX9_here seX9_here ⟨rfl, by decide⟩ dX9_readStatement_169 (d1 := d - 1) (by omega) (gt_150 hG) (e_X9_here E (by omega) h hG (staB Z (rtok (rnxt Z))) IB) rfl rfl (Nat.le_of_ble_eq_true rfl) ?_
            refine gf_callV cmX9_refuse lkX9_103 imX9_refuse seX9_refuse ⟨rfl, by decide⟩ dX9_readStatement_172 (d1 := d - 1) (by omega) (gt_150 hG) (e_X9_refuse E (by omega) 1 (rher (staB Z (rtok (rnxt Z)))) h hG (staB Z (rtok (rnxt Z)))) rfl rfl (Nat.le_of_ble_eq_true rfl) ?_
            exact gf_bret dX9_readStatement_175 rfl (by rw [show staS R0 R2 Z = _ from (if_neg h24).trans ((if_neg (not_not_intro hw)).trans ((if_neg (not_not_intro h19)).trans (if_pos hnb)))]; first | done | rfl) (by rw [show staS R0 R2 Z = _ from (if_neg h24).trans ((if_neg (not_not_intro hw)).trans ((if_neg (not_not_intro h19)).trans (if_pos hnb)))]; first | done | rfl)
          · refine gf_aload_n 0 dX9_readStatement_157 rfl rfl ?_
            refine gf_callV cmX9_token lkX9_55 imX9_token seX9_token ⟨rfl, by decide⟩ dX9_readStatement_158 (d1 := d - 1) (by omega) (gt_150 hG) (e_X9_token E (by omega) h hG (staB Z (rtok (rnxt Z))) IB) rfl rfl (Nat.le_of_ble_eq_true rfl) ?_
            refine gf_bipush (22) dX9_readStatement_161 rfl ?_
            refine gf_icmp_le 176 dX9_readStatement_163 rfl (fun zc163 => ?_) (fun zc163 => ?_)
            · have hb3 : 20 ≤ rtok (staB Z (rtok (rnxt Z))) ∧ rtok (staB Z (rtok (rnxt Z))) ≤ 22 := ⟨by have q := zc154; rw [fa_lt] at q; rw [fa_le]; omega, zc163⟩
              have hn24b : ¬ rtok (staB Z (rtok (rnxt Z))) = 24 := fun q => by rw [q] at hb3; exact absurd hb3.2 (by decide)
              refine gf_aload_n 0 dX9_readStatement_176 rfl rfl ?_
              refine gf_dup dX9_readStatement_177 rfl ?_
              refine gf_getI flX9_49 rfl dX9_readStatement_178 (gt_150 hG) ?_
              refine gf_iconst (1) dX9_readStatement_181 rfl ?_
              refine gf_iadd dX9_readStatement_182 ?_
              refine gf_putI flX9_49 rfl rfl dX9_readStatement_183 (gt_150 hG) ⟨rfl, rfl⟩ ?_
              rw [rd_0]
              change gf _ _ _ _ _ _ (hb h 150 8 (rnxt (staB Z (rtok (rnxt Z))))) _ _
              refine gf_aload_n 0 dX9_readStatement_186 rfl rfl ?_
              refine gf_bipush (59) dX9_readStatement_187 rfl ?_
              refine gf_callV cmX9_pass lkX9_110 imX9_pass seX9_pass ⟨rfl, by decide⟩ dX9_readStatement_189 (d1 := d - 1) (by omega) (gt_150 hG) (e_X9_pass E (by omega) 59 h hG (rnxt (staB Z (rtok (rnxt Z)))) (rnxt_I IB hn24b)) rfl rfl (Nat.le_of_ble_eq_true rfl) ?_
              exact gf_bret dX9_readStatement_192 rfl (by rw [show staS R0 R2 Z = _ from (if_neg h24).trans ((if_neg (not_not_intro hw)).trans ((if_neg (not_not_intro h19)).trans (if_neg (not_not_intro hb3))))]; first | done | rfl) (by rw [show staS R0 R2 Z = _ from (if_neg h24).trans ((if_neg (not_not_intro hw)).trans ((if_neg (not_not_intro h19)).trans (if_neg (not_not_intro hb3))))]; first | done | rfl)
            · have hnb : ¬ (20 ≤ rtok (staB Z (rtok (rnxt Z))) ∧ rtok (staB Z (rtok (rnxt Z))) ≤ 22) := fun w => zc163 w.2
              refine gf_aload_n 0 dX9_readStatement_166 rfl rfl ?_
              refine gf_iconst (1) dX9_readStatement_167 rfl ?_
              refine gf_aload_n 0 dX9_readStatement_168 rfl rfl ?_
              refine gf_callV cmX9_here lkX9_100 imX9_here seX9_here ⟨rfl, by decide⟩ dX9_readStatement_169 (d1 := d - 1) (by omega) (gt_150 hG) (e_X9_here E (by omega) h hG (staB Z (rtok (rnxt Z))) IB) rfl rfl (Nat.le_of_ble_eq_true rfl) ?_
              refine gf_callV cmX9_refuse lkX9_103 imX9_refuse seX9_refuse ⟨rfl, by decide⟩ dX9_readStatement_172 (d1 := d - 1) (by omega) (gt_150 hG) (e_X9_refuse E (by omega) 1 (rher (staB Z (rtok (rnxt Z)))) h hG (staB Z (rtok (rnxt Z)))) rfl rfl (Nat.le_of_ble_eq_true rfl) ?_
              exact gf_bret dX9_readStatement_175 rfl (by rw [show staS R0 R2 Z = _ from (if_neg h24).trans ((if_neg (not_not_intro hw)).trans ((if_neg (not_not_intro h19)).trans (if_pos hnb)))]; first | done | rfl) (by rw [show staS R0 R2 Z = _ from (if_neg h24).trans ((if_neg (not_not_intro hw)).trans ((if_neg (not_not_intro h19)).trans (if_pos hnb)))]; first | done | rfl)
      · have hnw : ¬ (14 ≤ rtok Z ∧ rtok Z ≤ 19) := fun w => zc33 w.2
        refine gf_aload_n 0 dX9_readStatement_36 rfl rfl ?_
        refine gf_iconst (1) dX9_readStatement_37 rfl ?_
        refine gf_aload_n 0 dX9_readStatement_38 rfl rfl ?_
        refine gf_callV cmX9_here lkX9_100 imX9_here seX9_here ⟨rfl, by decide⟩ dX9_readStatement_39 (d1 := d - 1) (by omega) (gt_150 hG) (e_X9_here E (by omega) h hG Z I) rfl rfl (Nat.le_of_ble_eq_true rfl) ?_
        refine gf_callV cmX9_refuse lkX9_103 imX9_refuse seX9_refuse ⟨rfl, by decide⟩ dX9_readStatement_42 (d1 := d - 1) (by omega) (gt_150 hG) (e_X9_refuse E (by omega) 1 (rher Z) h hG Z) rfl rfl (Nat.le_of_ble_eq_true rfl) ?_
        exact gf_bret dX9_readStatement_45 rfl (by rw [show staS R0 R2 Z = _ from (if_neg h24).trans (if_pos hnw)]; first | done | rfl) (by rw [show staS R0 R2 Z = _ from (if_neg h24).trans (if_pos hnw)]; first | done | rfl)
  · have h24 : 24 ≤ Z 0 3 := by have q : ¬ Z 0 3 < 24 := zc6; rw [fa_lt] at q; rw [fa_le]; omega
    refine gf_aload_n 0 dX9_readStatement_9 rfl rfl ?_
    refine gf_iconst (4) dX9_readStatement_10 rfl ?_
    refine gf_aload_n 0 dX9_readStatement_11 rfl rfl ?_
    refine gf_callV cmX9_here lkX9_100 imX9_here seX9_here ⟨rfl, by decide⟩ dX9_readStatement_12 (d1 := d - 1) (by omega) (gt_150 hG) (e_X9_here E (by omega) h hG Z I) rfl rfl (Nat.le_of_ble_eq_true rfl) ?_
    refine gf_callV cmX9_refuse lkX9_103 imX9_refuse seX9_refuse ⟨rfl, by decide⟩ dX9_readStatement_15 (d1 := d - 1) (by omega) (gt_150 hG) (e_X9_refuse E (by omega) 4 (rher Z) h hG Z) rfl rfl (Nat.le_of_ble_eq_true rfl) ?_
    exact gf_bret dX9_readStatement_18 rfl (by rw [show staS R0 R2 Z = _ from if_pos h24]; first | done | rfl) (by rw [show staS R0 R2 Z = _ from if_pos h24]; first | done | rfl)
