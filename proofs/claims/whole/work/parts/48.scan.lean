/-! ===== the class: the text into tokens ===== -/
def srt (q : Nat) : Nat := if q = 10 ∨ q = 32 then 0 else if 97 ≤ q ∧ q ≤ 122 then 1 else if 48 ≤ q ∧ q ≤ 57 then 2 else 3
theorem srt_3 (q : Nat) : srt q ≤ 3 := by
  unfold srt
  split
  · omega
  · split
    · omega
    · split <;> omega
/-- the text's bytes -/
def txt (Z : Nat → Nat → Int32) (i : Nat) : Nat := (Z 4 i).toNatClampNeg
def txI (Z : Nat → Nat → Int32) (L : Nat) : Prop := Z 0 0 = nI L ∧ L ≤ 600 ∧ ∀ i, i < L → ∃ q, q < 256 ∧ Z 4 i = nI q
theorem txt_e {Z : Nat → Nat → Int32} {L i : Nat} (I : txI Z L) (hi : i < L) : Z 4 i = nI (txt Z i) ∧ txt Z i < 256 := by
  obtain ⟨q, h1, h2⟩ := I.2.2 i hi
  have e : txt Z i = q := by unfold txt; rw [h2, nI_clamp (by omega)]
  rw [e]
  exact ⟨h2, h1⟩
theorem e_sortOf (E : gE) {d : Nat} (hd : 0 ≤ d) {bq : Nat} (h : hp_T) (hq : bq < 256) : ev E mX9_sortOf d [.int (nI bq)] h (some (.int (nI (srt bq)))) h := by
  refine ev_of rfl (fun q => absurd q (by decide)) (Nat.le_of_ble_eq_true rfl) ?_
  refine gf_iload_n 0 dX9_sortOf_0 rfl rfl ?_
  refine gf_bipush (10) dX9_sortOf_1 rfl ?_
  refine gf_icmp_eq 12 dX9_sortOf_3 rfl (fun zc3 => ?_) (fun zc3 => ?_)
  · refine gf_iconst (0) dX9_sortOf_12 rfl ?_
    exact gf_iretE dX9_sortOf_13 rfl (by have a1 := (nI_eq (b := 10) (by omega) (by omega)).mp zc3; rw [show srt bq = 0 from by unfold srt; (repeat' split) <;> omega]; rfl) (rfl)
  · refine gf_iload_n 0 dX9_sortOf_6 rfl rfl ?_
    refine gf_bipush (32) dX9_sortOf_7 rfl ?_
    refine gf_icmp_ne 14 dX9_sortOf_9 rfl (fun zc9 => ?_) (fun zc9 => ?_)
    · refine gf_iload_n 0 dX9_sortOf_14 rfl rfl ?_
      refine gf_bipush (97) dX9_sortOf_15 rfl ?_
      refine gf_icmp_lt 28 dX9_sortOf_17 rfl (fun zc17 => ?_) (fun zc17 => ?_)
      · refine gf_iload_n 0 dX9_sortOf_28 rfl rfl ?_
        refine gf_bipush (48) dX9_sortOf_29 rfl ?_
        refine gf_icmp_lt 44 dX9_sortOf_31 rfl (fun zc31 => ?_) (fun zc31 => ?_)
        · refine gf_iconst (3) dX9_sortOf_44 rfl ?_
          exact gf_iretE dX9_sortOf_45 rfl (by have a1 := mt (nI_eq (b := 10) (by omega) (by omega)).mpr zc3; have a2 := mt (nI_eq (b := 32) (by omega) (by omega)).mpr zc9; have a3 := (nI_ltI (b := 97) (by omega) (by omega)).mp zc17; have a5 := (nI_ltI (b := 48) (by omega) (by omega)).mp zc31; rw [show srt bq = 3 from by unfold srt; (repeat' split) <;> omega]; rfl) (rfl)
        · refine gf_iload_n 0 dX9_sortOf_34 rfl rfl ?_
          refine gf_bipush (57) dX9_sortOf_35 rfl ?_
          refine gf_icmp_gt 44 dX9_sortOf_37 rfl (fun zc37 => ?_) (fun zc37 => ?_)
          · refine gf_iconst (3) dX9_sortOf_44 rfl ?_
            exact gf_iretE dX9_sortOf_45 rfl (by have a1 := mt (nI_eq (b := 10) (by omega) (by omega)).mpr zc3; have a2 := mt (nI_eq (b := 32) (by omega) (by omega)).mpr zc9; have a3 := (nI_ltI (b := 97) (by omega) (by omega)).mp zc17; have a5 := mt (nI_ltI (b := 48) (by omega) (by omega)).mpr zc31; have a6 := (nI_ltI (a := 57) (by omega) (by omega)).mp zc37; rw [show srt bq = 3 from by unfold srt; (repeat' split) <;> omega]; rfl) (rfl)
          · refine gf_iconst (2) dX9_sortOf_40 rfl ?_
            refine gf_goto 45 dX9_sortOf_41 rfl ?_
            exact gf_iretE dX9_sortOf_45 rfl (by have a1 := mt (nI_eq (b := 10) (by omega) (by omega)).mpr zc3; have a2 := mt (nI_eq (b := 32) (by omega) (by omega)).mpr zc9; have a3 := (nI_ltI (b := 97) (by omega) (by omega)).mp zc17; have a5 := mt (nI_ltI (b := 48) (by omega) (by omega)).mpr zc31; have a6 := mt (nI_ltI (a := 57) (by omega) (by omega)).mpr zc37; rw [show srt bq = 2 from by unfold srt; (repeat' split) <;> omega]; rfl) (rfl)
      · refine gf_iload_n 0 dX9_sortOf_20 rfl rfl ?_
        refine gf_bipush (122) dX9_sortOf_21 rfl ?_
        refine gf_icmp_gt 28 dX9_sortOf_23 rfl (fun zc23 => ?_) (fun zc23 => ?_)
        · refine gf_iload_n 0 dX9_sortOf_28 rfl rfl ?_
          refine gf_bipush (48) dX9_sortOf_29 rfl ?_
          refine gf_icmp_lt 44 dX9_sortOf_31 rfl (fun zc31 => ?_) (fun zc31 => ?_)
          · refine gf_iconst (3) dX9_sortOf_44 rfl ?_
            exact gf_iretE dX9_sortOf_45 rfl (by have a1 := mt (nI_eq (b := 10) (by omega) (by omega)).mpr zc3; have a2 := mt (nI_eq (b := 32) (by omega) (by omega)).mpr zc9; have a3 := mt (nI_ltI (b := 97) (by omega) (by omega)).mpr zc17; have a4 := (nI_ltI (a := 122) (by omega) (by omega)).mp zc23; have a5 := (nI_ltI (b := 48) (by omega) (by omega)).mp zc31; rw [show srt bq = 3 from by unfold srt; (repeat' split) <;> omega]; rfl) (rfl)
          · refine gf_iload_n 0 dX9_sortOf_34 rfl rfl ?_
            refine gf_bipush (57) dX9_sortOf_35 rfl ?_
            refine gf_icmp_gt 44 dX9_sortOf_37 rfl (fun zc37 => ?_) (fun zc37 => ?_)
            · refine gf_iconst (3) dX9_sortOf_44 rfl ?_
              exact gf_iretE dX9_sortOf_45 rfl (by have a1 := mt (nI_eq (b := 10) (by omega) (by omega)).mpr zc3; have a2 := mt (nI_eq (b := 32) (by omega) (by omega)).mpr zc9; have a3 := mt (nI_ltI (b := 97) (by omega) (by omega)).mpr zc17; have a4 := (nI_ltI (a := 122) (by omega) (by omega)).mp zc23; have a5 := mt (nI_ltI (b := 48) (by omega) (by omega)).mpr zc31; have a6 := (nI_ltI (a := 57) (by omega) (by omega)).mp zc37; rw [show srt bq = 3 from by unfold srt; (repeat' split) <;> omega]; rfl) (rfl)
            · refine gf_iconst (2) dX9_sortOf_40 rfl ?_
              refine gf_goto 45 dX9_sortOf_41 rfl ?_
              exact gf_iretE dX9_sortOf_45 rfl (by have a1 := mt (nI_eq (b := 10) (by omega) (by omega)).mpr zc3; have a2 := mt (nI_eq (b := 32) (by omega) (by omega)).mpr zc9; have a3 := mt (nI_ltI (b := 97) (by omega) (by omega)).mpr zc17; have a4 := (nI_ltI (a := 122) (by omega) (by omega)).mp zc23; have a5 := mt (nI_ltI (b := 48) (by omega) (by omega)).mpr zc31; have a6 := mt (nI_ltI (a := 57) (by omega) (by omega)).mpr zc37; rw [show srt bq = 2 from by unfold srt; (repeat' split) <;> omega]; rfl) (rfl)
        · refine gf_iconst (1) dX9_sortOf_26 rfl ?_
          exact gf_iretE dX9_sortOf_27 rfl (by have a1 := mt (nI_eq (b := 10) (by omega) (by omega)).mpr zc3; have a2 := mt (nI_eq (b := 32) (by omega) (by omega)).mpr zc9; have a3 := mt (nI_ltI (b := 97) (by omega) (by omega)).mpr zc17; have a4 := mt (nI_ltI (a := 122) (by omega) (by omega)).mpr zc23; rw [show srt bq = 1 from by unfold srt; (repeat' split) <;> omega]; rfl) (rfl)
    · refine gf_iconst (0) dX9_sortOf_12 rfl ?_
      exact gf_iretE dX9_sortOf_13 rfl (by have a1 := mt (nI_eq (b := 10) (by omega) (by omega)).mpr zc3; have a2 := (nI_eq (b := 32) (by omega) (by omega)).mp zc9; rw [show srt bq = 0 from by unfold srt; (repeat' split) <;> omega]; rfl) (rfl)
/-- a token more -/
def adT (Z : Nat → Nat → Int32) (c : Nat) (t s v : Int32) : Nat → Nat → Int32 := up2 (up2 (up2 (up2 Z 5 c t) 6 c s) 7 c v) 0 12 (nI (c + 1))
theorem e_X9_addToken (E : gE) {d : Nat} (hd : 0 ≤ d) {c : Nat} (t s v : Int32) (h : hp_T) (hG : gr h) (Z : Nat → Nat → Int32) (hT : Z 0 12 = nI c) (hc : c < 600) : ev E mX9_addToken d [.ref (E.1 + 150), .int t, .int s, .int v] (hb h 150 8 Z) (none) (hb h 150 8 (adT Z c t s v)) := by
  refine ev_of rfl (fun q => absurd q (by decide)) (Nat.le_of_ble_eq_true rfl) ?_
  refine gf_aload_n 0 dX9_addToken_0 rfl rfl ?_
  refine gf_getI flX9_68 rfl dX9_addToken_1 (gt_150 hG) ?_
  refine gf_sipush (600) dX9_addToken_4 rfl ?_
  refine gf_icmp_lt 11 dX9_addToken_7 rfl (fun _ => ?_) (fun q => absurd (by rw [show hp_i (hb h 150 8 Z) 150 12 = nI c from hT]; exact nI_lt (b := 600) hc (by omega)) q)
  refine gf_aload_n 0 dX9_addToken_11 rfl rfl ?_
  refine gf_getR flX9_28 rfl dX9_addToken_12 (gt_150 hG) (gp_150_9 hG) ?_
  refine gf_aload_n 0 dX9_addToken_15 rfl rfl ?_
  refine gf_getI flX9_68 rfl dX9_addToken_16 (gt_150 hG) ?_
  refine gf_iload_n 1 dX9_addToken_19 rfl rfl ?_
  refine gf_iast 600 dX9_addToken_20 (gt_155 hG) (gl_155 hG) (show hp_i (hb h 150 8 _) 150 12 = nI c from hT) (by omega) (by decide) ?_
  rw [rd_5]
  refine gf_aload_n 0 dX9_addToken_21 rfl rfl ?_
  refine gf_getR flX9_31 rfl dX9_addToken_22 (gt_150 hG) (gp_150_10 hG) ?_
  refine gf_aload_n 0 dX9_addToken_25 rfl rfl ?_
  refine gf_getI flX9_68 rfl dX9_addToken_26 (gt_150 hG) ?_
  refine gf_iload_n 2 dX9_addToken_29 rfl rfl ?_
  refine gf_iast 600 dX9_addToken_30 (gt_156 hG) (gl_156 hG) (show hp_i (hb h 150 8 _) 150 12 = nI c from hT) (by omega) (by decide) ?_
  rw [rd_6]
  refine gf_aload_n 0 dX9_addToken_31 rfl rfl ?_
  refine gf_getR flX9_34 rfl dX9_addToken_32 (gt_150 hG) (gp_150_11 hG) ?_
  refine gf_aload_n 0 dX9_addToken_35 rfl rfl ?_
  refine gf_getI flX9_68 rfl dX9_addToken_36 (gt_150 hG) ?_
  refine gf_iload_n 3 dX9_addToken_39 rfl rfl ?_
  refine gf_iast 600 dX9_addToken_40 (gt_157 hG) (gl_157 hG) (show hp_i (hb h 150 8 _) 150 12 = nI c from hT) (by omega) (by decide) ?_
  rw [rd_7]
  refine gf_aload_n 0 dX9_addToken_41 rfl rfl ?_
  refine gf_dup dX9_addToken_42 rfl ?_
  refine gf_getI flX9_68 rfl dX9_addToken_43 (gt_150 hG) ?_
  rw [show hp_i (hb h 150 8 (up2 (up2 (up2 Z 5 c t) 6 c s) 7 c v)) 150 12 = nI c from hT]
  refine gf_iconst (1) dX9_addToken_46 rfl ?_
  refine gf_iadd dX9_addToken_47 ?_
  refine gf_putI flX9_68 rfl rfl dX9_addToken_48 (gt_150 hG) ⟨rfl, rfl⟩ ?_
  rw [rd_0, nI_1]
  exact gf_vretE dX9_addToken_51 rfl (rfl)
/-- a number's value from the k-th digit on, k = 5 - r: -1 for more than five digits -/
def nmR (tx : Nat → Nat) (L a : Nat) : Nat → Nat → Int32
  | 0, v => nI v
  | r + 1, v => if a + (5 - r) < L ∧ srt (tx (a + (5 - r))) = 2 then (if r = 0 then -1 else nmR tx L a r (v * 10 + tx (a + (5 - r)) - 48)) else nI v
def nmS (tx : Nat → Nat) (L a : Nat) : Int32 := nmR tx L a 6 0
theorem srt_2 {q : Nat} (h : srt q = 2) : 48 ≤ q ∧ q ≤ 57 := by
  unfold srt at h
  split at h
  · omega
  · split at h
    · omega
    · split at h <;> omega
theorem l_numberAt (E : gE) {d : Nat} (hd : 1 ≤ d) {L fa : Nat} (h : hp_T) (hG : gr h) (Z : Nat → Nat → Int32) (I : txI Z L) (hf : fa ≤ 600) : ∀ (r vv : Nat), r ≤ 5 → gf E mX9_numberAt d 4 [(0, .ref (E.1 + 150)), (1, .int (nI fa)), (2, .int (nI vv)), (3, .int (nI (fa + (5 - r))))] [] (hb h 150 8 Z) (some (.int (nmR (txt Z) L fa (r + 1) (vv)))) (hb h 150 8 Z) := by
  have hI6 := I.2.1
  intro r
  induction r with
  | zero =>
    intro vv _
    refine gf_iload_n 3 dX9_numberAt_4 rfl rfl ?_
    refine gf_aload_n 0 dX9_numberAt_5 rfl rfl ?_
    refine gf_getI flX9_37 rfl dX9_numberAt_6 (gt_150 hG) ?_
    rw [show hp_i (hb h 150 8 Z) 150 0 = nI L from I.1]
    refine gf_icmp_ge 55 dX9_numberAt_9 rfl (fun zc9 => ?_) (fun zc9 => ?_)
    · have hge : ¬ (fa + (5 - (0))) < L := fun q => absurd zc9 (nI_ge q (by omega))
      refine gf_iload_n 2 dX9_numberAt_55 rfl rfl ?_
      exact gf_iretE dX9_numberAt_56 rfl ((if_neg (fun q => hge q.1)).symm) (rfl)
    · have hlt : (fa + (5 - (0))) < L := by rcases Nat.lt_or_ge (fa + (5 - (0))) L with q | q; exact q; exact absurd (nI_le q (by omega)) zc9
      refine gf_aload_n 0 dX9_numberAt_12 rfl rfl ?_
      refine gf_getR flX9_25 rfl dX9_numberAt_13 (gt_150 hG) (gp_150_8 hG) ?_
      refine gf_iload_n 3 dX9_numberAt_16 rfl rfl ?_
      refine gf_iald 600 dX9_numberAt_17 (gt_154 hG) (gl_154 hG) rfl (by omega) (by decide) ?_
      rw [show hp_i (hb h 150 8 Z) 154 (fa + (5 - (0))) = nI (txt Z (fa + (5 - (0)))) from (txt_e I hlt).1]
      refine gf_callS cmX9_sortOf lkX9_71 stX9_sortOf dX9_numberAt_18 (d1 := d - 1) (by omega) (e_sortOf E (by omega) _ (txt_e I hlt).2) rfl rfl (Nat.le_of_ble_eq_true rfl) ?_
      refine gf_iconst (2) dX9_numberAt_21 rfl ?_
      refine gf_icmp_ne 55 dX9_numberAt_22 rfl (fun zc22 => ?_) (fun zc22 => ?_)
      · have hns : ¬ srt (txt Z (fa + (5 - (0)))) = 2 := fun q => zc22 (by rw [q]; rfl)
        refine gf_iload_n 2 dX9_numberAt_55 rfl rfl ?_
        exact gf_iretE dX9_numberAt_56 rfl ((if_neg (fun q => hns q.2)).symm) (rfl)
      · have hs2 : srt (txt Z (fa + (5 - (0)))) = 2 := (nI_eq (b := 2) (by have := srt_3 (txt Z (fa + (5 - (0)))); omega) (by omega)).mp zc22
        refine gf_iload_n 3 dX9_numberAt_25 rfl rfl ?_
        refine gf_iload_n 1 dX9_numberAt_26 rfl rfl ?_
        refine gf_isub dX9_numberAt_27 ?_
        refine gf_iconst (5) dX9_numberAt_28 rfl ?_
        refine gf_icmp_lt 34 dX9_numberAt_29 rfl (fun q => absurd q (by rw [pk_sub (by omega)]; exact nI_nlt (b := 5) (by omega) (by omega))) (fun _ => ?_)
        refine gf_iconst (-1) dX9_numberAt_32 rfl ?_
        exact gf_iretE dX9_numberAt_33 rfl (((if_pos ⟨hlt, hs2⟩).trans (if_pos rfl)).symm) (rfl)
  | succ r ih =>
    intro vv hr
    refine gf_iload_n 3 dX9_numberAt_4 rfl rfl ?_
    refine gf_aload_n 0 dX9_numberAt_5 rfl rfl ?_
    refine gf_getI flX9_37 rfl dX9_numberAt_6 (gt_150 hG) ?_
    rw [show hp_i (hb h 150 8 Z) 150 0 = nI L from I.1]
    refine gf_icmp_ge 55 dX9_numberAt_9 rfl (fun zc9 => ?_) (fun zc9 => ?_)
    · have hge : ¬ (fa + (5 - (r + 1))) < L := fun q => absurd zc9 (nI_ge q (by omega))
      refine gf_iload_n 2 dX9_numberAt_55 rfl rfl ?_
      exact gf_iretE dX9_numberAt_56 rfl ((if_neg (fun q => hge q.1)).symm) (rfl)
    · have hlt : (fa + (5 - (r + 1))) < L := by rcases Nat.lt_or_ge (fa + (5 - (r + 1))) L with q | q; exact q; exact absurd (nI_le q (by omega)) zc9
      refine gf_aload_n 0 dX9_numberAt_12 rfl rfl ?_
      refine gf_getR flX9_25 rfl dX9_numberAt_13 (gt_150 hG) (gp_150_8 hG) ?_
      refine gf_iload_n 3 dX9_numberAt_16 rfl rfl ?_
      refine gf_iald 600 dX9_numberAt_17 (gt_154 hG) (gl_154 hG) rfl (by omega) (by decide) ?_
      rw [show hp_i (hb h 150 8 Z) 154 (fa + (5 - (r + 1))) = nI (txt Z (fa + (5 - (r + 1)))) from (txt_e I hlt).1]
      refine gf_callS cmX9_sortOf lkX9_71 stX9_sortOf dX9_numberAt_18 (d1 := d - 1) (by omega) (e_sortOf E (by omega) _ (txt_e I hlt).2) rfl rfl (Nat.le_of_ble_eq_true rfl) ?_
      refine gf_iconst (2) dX9_numberAt_21 rfl ?_
      refine gf_icmp_ne 55 dX9_numberAt_22 rfl (fun zc22 => ?_) (fun zc22 => ?_)
      · have hns : ¬ srt (txt Z (fa + (5 - (r + 1)))) = 2 := fun q => zc22 (by rw [q]; rfl)
        refine gf_iload_n 2 dX9_numberAt_55 rfl rfl ?_
        exact gf_iretE dX9_numberAt_56 rfl ((if_neg (fun q => hns q.2)).symm) (rfl)
      · have hs2 : srt (txt Z (fa + (5 - (r + 1)))) = 2 := (nI_eq (b := 2) (by have := srt_3 (txt Z (fa + (5 - (r + 1)))); omega) (by omega)).mp zc22
        refine gf_iload_n 3 dX9_numberAt_25 rfl rfl ?_
        refine gf_iload_n 1 dX9_numberAt_26 rfl rfl ?_
        refine gf_isub dX9_numberAt_27 ?_
        refine gf_iconst (5) dX9_numberAt_28 rfl ?_
        refine gf_icmp_lt 34 dX9_numberAt_29 rfl (fun _ => ?_) (fun q => absurd (by rw [pk_sub (by omega)]; exact nI_lt (b := 5) (by omega) (by omega)) q)
        refine gf_iload_n 2 dX9_numberAt_34 rfl rfl ?_
        refine gf_bipush (10) dX9_numberAt_35 rfl ?_
        refine gf_imul dX9_numberAt_37 ?_
        refine gf_aload_n 0 dX9_numberAt_38 rfl rfl ?_
        refine gf_getR flX9_25 rfl dX9_numberAt_39 (gt_150 hG) (gp_150_8 hG) ?_
        refine gf_iload_n 3 dX9_numberAt_42 rfl rfl ?_
        refine gf_iald 600 dX9_numberAt_43 (gt_154 hG) (gl_154 hG) rfl (by omega) (by decide) ?_
        rw [show hp_i (hb h 150 8 Z) 154 (fa + (5 - (r + 1))) = nI (txt Z (fa + (5 - (r + 1)))) from (txt_e I hlt).1]
        refine gf_iadd dX9_numberAt_44 ?_
        refine gf_bipush (48) dX9_numberAt_45 rfl ?_
        refine gf_isub dX9_numberAt_47 ?_
        refine gf_istore_n 2 dX9_numberAt_48 rfl (Nat.le_of_ble_eq_true rfl) ?_
        refine gf_iinc (1) dX9_numberAt_49 rfl rfl (Nat.le_of_ble_eq_true rfl) ?_
        refine gf_goto 4 dX9_numberAt_52 rfl ?_
        rw [show (nmR (txt Z) L fa (r + 1 + 1) (vv)) = (nmR (txt Z) L fa (r + 1) (vv * 10 + txt Z (fa + (5 - (r + 1))) - 48)) from (if_pos ⟨hlt, hs2⟩).trans (if_neg (by omega))]
        exact gf_lw (ih (vv * 10 + txt Z (fa + (5 - (r + 1))) - 48) (by omega)) ⟨rfl, rfl, lvE (show nI vv * 10 + nI (txt Z (fa + (5 - (r + 1)))) - 48 = nI (vv * 10 + txt Z (fa + (5 - (r + 1))) - 48) from by rw [show nI vv * 10 = nI (vv * 10) from pk_mul vv 10, nI_add]; exact pk_sub (b := 48) (by have := (srt_2 hs2).1; omega)), lvE (show nI (fa + (5 - (r + 1))) + 1 = nI (fa + (5 - r)) from by rw [nI_1]; exact congrArg nI (by omega)), trivial⟩
theorem e_X9_numberAt (E : gE) {d : Nat} (hd : 1 ≤ d) {L fa : Nat} (h : hp_T) (hG : gr h) (Z : Nat → Nat → Int32) (I : txI Z L) (hf : fa ≤ 600) : ev E mX9_numberAt d [.ref (E.1 + 150), .int (nI fa)] (hb h 150 8 Z) (some (.int (nmS (txt Z) L fa))) (hb h 150 8 Z) := by
  refine ev_of rfl (fun q => absurd q (by decide)) (Nat.le_of_ble_eq_true rfl) ?_
  refine gf_iconst (0) dX9_numberAt_0 rfl ?_
  refine gf_istore_n 2 dX9_numberAt_1 rfl (Nat.le_of_ble_eq_true rfl) ?_
  refine gf_iload_n 1 dX9_numberAt_2 rfl rfl ?_
  refine gf_istore_n 3 dX9_numberAt_3 rfl (Nat.le_of_ble_eq_true rfl) ?_
  exact gf_lw (l_numberAt E hd h hG Z I hf 5 0 (by omega)) ⟨rfl, rfl, rfl, rfl, trivial⟩
