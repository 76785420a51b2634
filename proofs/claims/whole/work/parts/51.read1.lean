/-! ===== the class: the reader's small steps ===== -/
theorem nar_b (b : Bool) : narrow .boolean (.int (bI b)) = .int (bI b) := by cases b <;> rfl
theorem bI_f {b : Bool} (h : bI b = 0) : b = false := by
  cases b
  · rfl
  · exact absurd h (by decide)
theorem bI_t {b : Bool} (h : ¬ bI b = 0) : b = true := by
  cases b
  · exact absurd rfl h
  · rfl
theorem gf_bret {E : gE} {M : gM} {d pc : Nat} {lv : List (Nat × Value)} {h h' : hp_T} {b : Bool} {x : Int32} (hdg : decode M.2.1 pc = .ok (.ireturn, 1)) (hr : M.2.2.2.1 = some .boolean) (e : x = bI b) (eh : h = h') : gf E M d pc lv [.int x] h (some (.int (bI b))) h' := by
  subst e
  exact gf_zretE hdg hr (nar_b b) rfl eh
abbrev rZ : Type := Nat → Nat → Int32
/-- at a of c tokens, l codes, t statements -/
def rdI (Z : rZ) : Prop := ∃ a c l t, Z 0 13 = nI a ∧ a ≤ c ∧ Z 0 12 = nI c ∧ c ≤ 600 ∧ Z 0 4 = nI l ∧ l ≤ 600 ∧ Z 0 3 = nI t ∧ t ≤ 24
def rtok (Z : rZ) : Int32 := if Z 0 13 < Z 0 12 then Z 5 (Z 0 13).toNatClampNeg else 24
def rher (Z : rZ) : Int32 := if Z 0 13 < Z 0 12 then Z 6 (Z 0 13).toNatClampNeg else Z 0 0
def rval (Z : rZ) : Int32 := if Z 0 13 < Z 0 12 then Z 7 (Z 0 13).toNatClampNeg else 0
def rref (Z : rZ) (f p : Int32) : rZ := up2 (up2 Z 0 1 f) 0 2 p
def rnxt (Z : rZ) : rZ := up2 Z 0 13 (Z 0 13 + 1)
def rpas (Z : rZ) (t : Int32) : Bool × rZ := if rtok Z = t then (true, rnxt Z) else (false, rref Z 1 (rher Z))
def rent (Z : rZ) (t o : Int32) : Bool × rZ := if rtok Z = t then (if o < 6 then (true, rnxt Z) else (false, rref Z 3 (rher Z))) else (false, rref Z 1 (rher Z))
def remi (Z : rZ) (t n : Int32) : rZ := if Z 0 4 < 600 then up2 (up2 Z 1 (Z 0 4).toNatClampNeg (t + n <<< (7 &&& 31))) 0 4 (Z 0 4 + 1) else Z
def rbd (r : Bool × rZ) (k : rZ → Bool × rZ) : Bool × rZ := if r.1 = true then k r.2 else (false, r.2)
theorem rbd_t {r : Bool × rZ} {k : rZ → Bool × rZ} (h : r.1 = true) : rbd r k = k r.2 := if_pos h
theorem rbd_f {r : Bool × rZ} {k : rZ → Bool × rZ} (h : r.1 = false) : rbd r k = (false, r.2) := if_neg (by rw [h]; decide)
def rnum (Z : rZ) (u m : Int32) : Bool × rZ := if rtok Z = 23 ∧ rval Z = -1 then (false, rref Z 1 (rher Z + 5)) else if rtok Z = 23 ∧ m < rval Z then (false, rref Z 2 (rher Z)) else rbd (rpas Z 23) (fun Y => (true, remi Y u (rval Z)))
def rjn (r : Nat) (t : Int32) : Bool := if r = 0 then decide (t = 13) else if r = 1 then decide (t = 12) else if r = 2 then decide (t = 43 ∨ t = 45) else decide (t = 42 ∨ t = 47)
theorem rref_I {Z : rZ} (f p : Int32) (I : rdI Z) : rdI (rref Z f p) := I
theorem rnxt_I {Z : rZ} (I : rdI Z) (h : ¬ rtok Z = 24) : rdI (rnxt Z) := by
  obtain ⟨a, c, l, t, h1, h2, h3, h4, h5, h6, h7, h8⟩ := I
  have hlt : a < c := by
    rcases Nat.lt_or_ge a c with q | q
    · exact q
    · refine absurd ?_ h
      unfold rtok
      rw [h1, h3]
      exact if_neg (nI_nlt q (by omega))
  refine ⟨a + 1, c, l, t, ?_, hlt, h3, h4, h5, h6, h7, h8⟩
  unfold rnxt
  rw [up2_s, h1, nI_1]
theorem rpas_I {Z : rZ} {t : Int32} (I : rdI Z) (h : ¬ t = 24) : rdI (rpas Z t).2 := by
  unfold rpas
  split
  · rename_i e
    exact rnxt_I I (by rw [e]; exact h)
  · exact rref_I _ _ I
theorem rent_I {Z : rZ} {t o : Int32} (I : rdI Z) (h : ¬ t = 24) : rdI (rent Z t o).2 := by
  unfold rent
  split
  · rename_i e
    split
    · exact rnxt_I I (by rw [e]; exact h)
    · exact rref_I _ _ I
  · exact rref_I _ _ I
theorem remi_I {Z : rZ} {t n : Int32} (I : rdI Z) : rdI (remi Z t n) := by
  unfold remi
  split
  · rename_i e
    obtain ⟨a, c, l, t, h1, h2, h3, h4, h5, h6, h7, h8⟩ := I
    rw [h5] at e
    have hl := (nI_ltI (b := 600) (by omega) (by omega)).mp e
    refine ⟨a, c, l + 1, t, h1, h2, h3, h4, ?_, hl, h7, h8⟩
    rw [up2_s, h5, nI_1]
  · exact I
theorem rbd_I {r : Bool × rZ} {k : rZ → Bool × rZ} (h : rdI r.2) (hk : ∀ Z, rdI Z → rdI (k Z).2) : rdI (rbd r k).2 := by
  unfold rbd
  split
  · exact hk _ h
  · exact h
theorem rnum_I {Z : rZ} {u m : Int32} (I : rdI Z) : rdI (rnum Z u m).2 := by
  unfold rnum
  split
  · exact rref_I _ _ I
  · split
    · exact rref_I _ _ I
    · exact rbd_I (rpas_I I (by decide)) (fun Y hY => remi_I hY)
theorem e_X9_token (E : gE) {d : Nat} (hd : 0 ≤ d) (h : hp_T) (hG : gr h) (Z : rZ) (I : rdI Z) : ev E mX9_token d [.ref (E.1 + 150)] (hb h 150 8 Z) (some (.int (rtok Z))) (hb h 150 8 Z) := by
  obtain ⟨a, c, l, t9, h1, h2, h3, h4, h5, h6, h7, h8⟩ := I
  refine ev_of rfl (fun q => absurd q (by decide)) (Nat.le_of_ble_eq_true rfl) ?_
  refine gf_aload_n 0 dX9_token_0 rfl rfl ?_
  refine gf_getI flX9_49 rfl dX9_token_1 (gt_150 hG) ?_
  refine gf_aload_n 0 dX9_token_4 rfl rfl ?_
  refine gf_getI flX9_68 rfl dX9_token_5 (gt_150 hG) ?_
  refine gf_icmp_ge 23 dX9_token_8 rfl (fun zc8 => ?_) (fun zc8 => ?_)
  · have hge : ¬ Z 0 13 < Z 0 12 := fun w => by have q : Z 0 12 ≤ Z 0 13 := zc8; rw [fa_le] at q; rw [fa_lt] at w; omega
    refine gf_bipush (24) dX9_token_23 rfl ?_
    exact gf_iretE dX9_token_25 rfl ((if_neg hge : rtok Z = _).symm) (rfl)
  · have hlt : Z 0 13 < Z 0 12 := by have q : ¬ Z 0 12 ≤ Z 0 13 := zc8; rw [fa_le] at q; rw [fa_lt]; omega
    have hac : a < c := by rw [h1, h3] at hlt; exact (nI_ltI (by omega) (by omega)).mp hlt
    have hrd : Z 5 (Z 0 13).toNatClampNeg = Z 5 a := by rw [h1, nI_clamp (by omega)]
    refine gf_aload_n 0 dX9_token_11 rfl rfl ?_
    refine gf_getR flX9_28 rfl dX9_token_12 (gt_150 hG) (gp_150_9 hG) ?_
    refine gf_aload_n 0 dX9_token_15 rfl rfl ?_
    refine gf_getI flX9_49 rfl dX9_token_16 (gt_150 hG) ?_
    refine gf_iald 600 dX9_token_19 (gt_155 hG) (gl_155 hG) h1 (by omega) (by decide) ?_
    refine gf_goto 25 dX9_token_20 rfl ?_
    exact gf_iretE dX9_token_25 rfl (((if_pos hlt).trans hrd : rtok Z = _).symm) (rfl)
theorem e_X9_here (E : gE) {d : Nat} (hd : 0 ≤ d) (h : hp_T) (hG : gr h) (Z : rZ) (I : rdI Z) : ev E mX9_here d [.ref (E.1 + 150)] (hb h 150 8 Z) (some (.int (rher Z))) (hb h 150 8 Z) := by
  obtain ⟨a, c, l, t9, h1, h2, h3, h4, h5, h6, h7, h8⟩ := I
  refine ev_of rfl (fun q => absurd q (by decide)) (Nat.le_of_ble_eq_true rfl) ?_
  refine gf_aload_n 0 dX9_here_0 rfl rfl ?_
  refine gf_getI flX9_49 rfl dX9_here_1 (gt_150 hG) ?_
  refine gf_aload_n 0 dX9_here_4 rfl rfl ?_
  refine gf_getI flX9_68 rfl dX9_here_5 (gt_150 hG) ?_
  refine gf_icmp_ge 23 dX9_here_8 rfl (fun zc8 => ?_) (fun zc8 => ?_)
  · have hge : ¬ Z 0 13 < Z 0 12 := fun w => by have q : Z 0 12 ≤ Z 0 13 := zc8; rw [fa_le] at q; rw [fa_lt] at w; omega
    refine gf_aload_n 0 dX9_here_23 rfl rfl ?_
    refine gf_getI flX9_37 rfl dX9_here_24 (gt_150 hG) ?_
    exact gf_iretE dX9_here_27 rfl ((if_neg hge : rher Z = _).symm) (rfl)
  · have hlt : Z 0 13 < Z 0 12 := by have q : ¬ Z 0 12 ≤ Z 0 13 := zc8; rw [fa_le] at q; rw [fa_lt]; omega
    have hac : a < c := by rw [h1, h3] at hlt; exact (nI_ltI (by omega) (by omega)).mp hlt
    have hrd : Z 6 (Z 0 13).toNatClampNeg = Z 6 a := by rw [h1, nI_clamp (by omega)]
    refine gf_aload_n 0 dX9_here_11 rfl rfl ?_
    refine gf_getR flX9_31 rfl dX9_here_12 (gt_150 hG) (gp_150_10 hG) ?_
    refine gf_aload_n 0 dX9_here_15 rfl rfl ?_
    refine gf_getI flX9_49 rfl dX9_here_16 (gt_150 hG) ?_
    refine gf_iald 600 dX9_here_19 (gt_156 hG) (gl_156 hG) h1 (by omega) (by decide) ?_
    refine gf_goto 27 dX9_here_20 rfl ?_
    exact gf_iretE dX9_here_27 rfl (((if_pos hlt).trans hrd : rher Z = _).symm) (rfl)
theorem e_X9_refuse (E : gE) {d : Nat} (hd : 0 ≤ d) (f p : Int32) (h : hp_T) (hG : gr h) (Z : rZ) : ev E mX9_refuse d [.ref (E.1 + 150), .int f, .int p] (hb h 150 8 Z) (some (.int (bI false))) (hb h 150 8 (rref Z f p)) := by
  refine ev_of rfl (fun q => absurd q (by decide)) (Nat.le_of_ble_eq_true rfl) ?_
  refine gf_aload_n 0 dX9_refuse_0 rfl rfl ?_
  refine gf_iload_n 1 dX9_refuse_1 rfl rfl ?_
  refine gf_putI flX9_40 rfl rfl dX9_refuse_2 (gt_150 hG) ⟨rfl, rfl⟩ ?_
  rw [rd_0]
  refine gf_aload_n 0 dX9_refuse_5 rfl rfl ?_
  refine gf_iload_n 2 dX9_refuse_6 rfl rfl ?_
  refine gf_putI flX9_9 rfl rfl dX9_refuse_7 (gt_150 hG) ⟨rfl, rfl⟩ ?_
  rw [rd_0]
  refine gf_iconst (0) dX9_refuse_10 rfl ?_
  exact gf_bret dX9_refuse_11 rfl (rfl) (rfl)
theorem e_X9_pass (E : gE) {d : Nat} (hd : 1 ≤ d) (t : Int32) (h : hp_T) (hG : gr h) (Z : rZ) (I : rdI Z) : ev E mX9_pass d [.ref (E.1 + 150), .int t] (hb h 150 8 Z) (some (.int (bI (rpas Z t).1))) (hb h 150 8 (rpas Z t).2) := by
  refine ev_of rfl (fun q => absurd q (by decide)) (Nat.le_of_ble_eq_true rfl) ?_
  refine gf_aload_n 0 dX9_pass_0 rfl rfl ?_
  refine gf_callV cmX9_token lkX9_55 imX9_token seX9_token ⟨rfl, by decide⟩ dX9_pass_1 (d1 := d - 1) (by omega) (gt_150 hG) (e_X9_token E (by omega) h hG Z I) rfl rfl (Nat.le_of_ble_eq_true rfl) ?_
  refine gf_iload_n 1 dX9_pass_4 rfl rfl ?_
  refine gf_icmp_eq 18 dX9_pass_5 rfl (fun zc5 => ?_) (fun zc5 => ?_)
  · have eP : rpas Z t = (true, rnxt Z) := if_pos zc5
    refine gf_aload_n 0 dX9_pass_18 rfl rfl ?_
    refine gf_dup dX9_pass_19 rfl ?_
    refine gf_getI flX9_49 rfl dX9_pass_20 (gt_150 hG) ?_
    refine gf_iconst (1) dX9_pass_23 rfl ?_
    refine gf_iadd dX9_pass_24 ?_
    refine gf_putI flX9_49 rfl rfl dX9_pass_25 (gt_150 hG) ⟨rfl, rfl⟩ ?_
    rw [rd_0]
    refine gf_iconst (1) dX9_pass_28 rfl ?_
    exact gf_bret dX9_pass_29 rfl (by rw [eP]; first | done | rfl) (by rw [eP]; first | done | rfl)
  · have eP : rpas Z t = (false, rref Z 1 (rher Z)) := if_neg zc5
    refine gf_aload_n 0 dX9_pass_8 rfl rfl ?_
    refine gf_iconst (1) dX9_pass_9 rfl ?_
    refine gf_aload_n 0 dX9_pass_10 rfl rfl ?_
    refine gf_callV cmX9_here lkX9_100 imX9_here seX9_here ⟨rfl, by decide⟩ dX9_pass_11 (d1 := d - 1) (by omega) (gt_150 hG) (e_X9_here E (by omega) h hG Z I) rfl rfl (Nat.le_of_ble_eq_true rfl) ?_
    refine gf_callV cmX9_refuse lkX9_103 imX9_refuse seX9_refuse ⟨rfl, by decide⟩ dX9_pass_14 (d1 := d - 1) (by omega) (gt_150 hG) (e_X9_refuse E (by omega) 1 (rher Z) h hG Z) rfl rfl (Nat.le_of_ble_eq_true rfl) ?_
    exact gf_bret dX9_pass_17 rfl (by rw [eP]; first | done | rfl) (by rw [eP]; first | done | rfl)
theorem e_X9_enter (E : gE) {d : Nat} (hd : 1 ≤ d) (t o : Int32) (h : hp_T) (hG : gr h) (Z : rZ) (I : rdI Z) : ev E mX9_enter d [.ref (E.1 + 150), .int t, .int o] (hb h 150 8 Z) (some (.int (bI (rent Z t o).1))) (hb h 150 8 (rent Z t o).2) := by
  refine ev_of rfl (fun q => absurd q (by decide)) (Nat.le_of_ble_eq_true rfl) ?_
  refine gf_aload_n 0 dX9_enter_0 rfl rfl ?_
  refine gf_callV cmX9_token lkX9_55 imX9_token seX9_token ⟨rfl, by decide⟩ dX9_enter_1 (d1 := d - 1) (by omega) (gt_150 hG) (e_X9_token E (by omega) h hG Z I) rfl rfl (Nat.le_of_ble_eq_true rfl) ?_
  refine gf_iload_n 1 dX9_enter_4 rfl rfl ?_
  refine gf_icmp_eq 18 dX9_enter_5 rfl (fun zc5 => ?_) (fun zc5 => ?_)
  · refine gf_iload_n 2 dX9_enter_18 rfl rfl ?_
    refine gf_bipush (6) dX9_enter_19 rfl ?_
    refine gf_icmp_lt 34 dX9_enter_21 rfl (fun zc21 => ?_) (fun zc21 => ?_)
    · have eP : rent Z t o = (true, rnxt Z) := (if_pos zc5).trans (if_pos zc21)
      refine gf_aload_n 0 dX9_enter_34 rfl rfl ?_
      refine gf_dup dX9_enter_35 rfl ?_
      refine gf_getI flX9_49 rfl dX9_enter_36 (gt_150 hG) ?_
      refine gf_iconst (1) dX9_enter_39 rfl ?_
      refine gf_iadd dX9_enter_40 ?_
      refine gf_putI flX9_49 rfl rfl dX9_enter_41 (gt_150 hG) ⟨rfl, rfl⟩ ?_
      rw [rd_0]
      refine gf_iconst (1) dX9_enter_44 rfl ?_
      exact gf_bret dX9_enter_45 rfl (by rw [eP]; first | done | rfl) (by rw [eP]; first | done | rfl)
    · have eP : rent Z t o = (false, rref Z 3 (rher Z)) := (if_pos zc5).trans (if_neg zc21)
      refine gf_aload_n 0 dX9_enter_24 rfl rfl ?_
      refine gf_iconst (3) dX9_enter_25 rfl ?_
      refine gf_aload_n 0 dX9_enter_26 rfl rfl ?_
      refine gf_callV cmX9_here lkX9_100 imX9_here seX9_here ⟨rfl, by decide⟩ dX9_enter_27 (d1 := d - 1) (by omega) (gt_150 hG) (e_X9_here E (by omega) h hG Z I) rfl rfl (Nat.le_of_ble_eq_true rfl) ?_
      refine gf_callV cmX9_refuse lkX9_103 imX9_refuse seX9_refuse ⟨rfl, by decide⟩ dX9_enter_30 (d1 := d - 1) (by omega) (gt_150 hG) (e_X9_refuse E (by omega) 3 (rher Z) h hG Z) rfl rfl (Nat.le_of_ble_eq_true rfl) ?_
      exact gf_bret dX9_enter_33 rfl (by rw [eP]; first | done | rfl) (by rw [eP]; first | done | rfl)
  · have eP : rent Z t o = (false, rref Z 1 (rher Z)) := if_neg zc5
    refine gf_aload_n 0 dX9_enter_8 rfl rfl ?_
    refine gf_iconst (1) dX9_enter_9 rfl ?_
    refine gf_aload_n 0 dX9_enter_10 rfl rfl ?_
    refine gf_callV cmX9_here lkX9_100 imX9_here seX9_here ⟨rfl, by decide⟩ dX9_enter_11 (d1 := d - 1) (by omega) (gt_150 hG) (e_X9_here E (by omega) h hG Z I) rfl rfl (Nat.le_of_ble_eq_true rfl) ?_
    refine gf_callV cmX9_refuse lkX9_103 imX9_refuse seX9_refuse ⟨rfl, by decide⟩ dX9_enter_14 (d1 := d - 1) (by omega) (gt_150 hG) (e_X9_refuse E (by omega) 1 (rher Z) h hG Z) rfl rfl (Nat.le_of_ble_eq_true rfl) ?_
    exact gf_bret dX9_enter_17 rfl (by rw [eP]; first | done | rfl) (by rw [eP]; first | done | rfl)
theorem e_X9_emit (E : gE) {d : Nat} (hd : 0 ≤ d) (t n : Int32) (h : hp_T) (hG : gr h) (Z : rZ) (I : rdI Z) : ev E mX9_emit d [.ref (E.1 + 150), .int t, .int n] (hb h 150 8 Z) (some (.int (bI true))) (hb h 150 8 (remi Z t n)) := by
  obtain ⟨a, c, l, t9, h1, h2, h3, h4, h5, h6, h7, h8⟩ := I
  refine ev_of rfl (fun q => absurd q (by decide)) (Nat.le_of_ble_eq_true rfl) ?_
  refine gf_aload_n 0 dX9_emit_0 rfl rfl ?_
  refine gf_getI flX9_46 rfl dX9_emit_1 (gt_150 hG) ?_
  refine gf_sipush (600) dX9_emit_4 rfl ?_
  refine gf_icmp_ge 35 dX9_emit_7 rfl (fun zc7 => ?_) (fun zc7 => ?_)
  · have eP : remi Z t n = Z := if_neg (fun w => by have q : 600 ≤ Z 0 4 := zc7; rw [fa_le] at q; rw [fa_lt] at w; omega)
    refine gf_iconst (1) dX9_emit_35 rfl ?_
    exact gf_bret dX9_emit_36 rfl (rfl) (by rw [eP]; first | done | rfl)
  · have hlt : Z 0 4 < 600 := by have q : ¬ 600 ≤ Z 0 4 := zc7; rw [fa_le] at q; rw [fa_lt]; omega
    have hl6 : l < 600 := by rw [h5] at hlt; exact (nI_ltI (b := 600) (by omega) (by omega)).mp hlt
    have eP : remi Z t n = up2 (up2 Z 1 l (t + n <<< (7 &&& 31))) 0 4 (Z 0 4 + 1) := (if_pos hlt).trans (by rw [h5, nI_clamp (by omega)])
    refine gf_aload_n 0 dX9_emit_10 rfl rfl ?_
    refine gf_getR flX9_15 rfl dX9_emit_11 (gt_150 hG) (gp_150_5 hG) ?_
    refine gf_aload_n 0 dX9_emit_14 rfl rfl ?_
    refine gf_getI flX9_46 rfl dX9_emit_15 (gt_150 hG) ?_
    refine gf_iload_n 1 dX9_emit_18 rfl rfl ?_
    refine gf_iload_n 2 dX9_emit_19 rfl rfl ?_
    refine gf_bipush (7) dX9_emit_20 rfl ?_
    refine gf_ishl dX9_emit_22 ?_
    refine gf_iadd dX9_emit_23 ?_
    refine gf_iast 600 dX9_emit_24 (gt_151 hG) (gl_151 hG) h5 hl6 (by decide) ?_
    rw [rd_1]
    refine gf_aload_n 0 dX9_emit_25 rfl rfl ?_
    refine gf_dup dX9_emit_26 rfl ?_
    refine gf_getI flX9_46 rfl dX9_emit_27 (gt_150 hG) ?_
    refine gf_iconst (1) dX9_emit_30 rfl ?_
    refine gf_iadd dX9_emit_31 ?_
    refine gf_putI flX9_46 rfl rfl dX9_emit_32 (gt_150 hG) ⟨rfl, rfl⟩ ?_
    rw [rd_0]
    refine gf_iconst (1) dX9_emit_35 rfl ?_
    exact gf_bret dX9_emit_36 rfl (rfl) (by rw [eP]; first | done | rfl)
theorem rjn_r (r : Nat) (hr : r < 4) : ∀ k : Nat, k < 4 → (nI r = nI k ↔ r = k) := fun k hk => nI_eq (by omega) (by omega)
theorem e_X9_joins (E : gE) {d : Nat} {r : Nat} (t : Int32) (h : hp_T) (hr : r < 4) : ev E mX9_joins d [.int (nI r), .int t] h (some (.int (bI (rjn r t)))) h := by
  refine ev_of rfl (fun q => absurd q (by decide)) (Nat.le_of_ble_eq_true rfl) ?_
  rcases (show r = 0 ∨ r = 1 ∨ r = 2 ∨ r = 3 by omega) with rfl | rfl | rfl | rfl
  · refine gf_iload_n 0 dX9_joins_0 rfl rfl ?_
    refine gf_tableIn 28 dX9_joins_1 (by decide) (by decide) (by rfl) rfl ?_
    refine gf_iload_n 1 dX9_joins_28 rfl rfl ?_
    refine gf_bipush (13) dX9_joins_29 rfl ?_
    refine gf_icmp_ne 38 dX9_joins_31 rfl (fun zc31 => ?_) (fun zc31 => ?_)
    · refine gf_iconst (0) dX9_joins_38 rfl ?_
      exact gf_bret dX9_joins_39 rfl (by rw [show rjn 0 t = _ from (rfl : rjn 0 t = decide (t = 13)).trans (decide_eq_false zc31)]; rfl) (rfl)
    · refine gf_iconst (1) dX9_joins_34 rfl ?_
      refine gf_goto 39 dX9_joins_35 rfl ?_
      exact gf_bret dX9_joins_39 rfl (by rw [show rjn 0 t = _ from (rfl : rjn 0 t = decide (t = 13)).trans (decide_eq_true zc31)]; rfl) (rfl)
  · refine gf_iload_n 0 dX9_joins_0 rfl rfl ?_
    refine gf_tableIn 40 dX9_joins_1 (by decide) (by decide) (by rfl) rfl ?_
    refine gf_iload_n 1 dX9_joins_40 rfl rfl ?_
    refine gf_bipush (12) dX9_joins_41 rfl ?_
    refine gf_icmp_ne 50 dX9_joins_43 rfl (fun zc43 => ?_) (fun zc43 => ?_)
    · refine gf_iconst (0) dX9_joins_50 rfl ?_
      exact gf_bret dX9_joins_51 rfl (by rw [show rjn 1 t = _ from (rfl : rjn 1 t = decide (t = 12)).trans (decide_eq_false zc43)]; rfl) (rfl)
    · refine gf_iconst (1) dX9_joins_46 rfl ?_
      refine gf_goto 51 dX9_joins_47 rfl ?_
      exact gf_bret dX9_joins_51 rfl (by rw [show rjn 1 t = _ from (rfl : rjn 1 t = decide (t = 12)).trans (decide_eq_true zc43)]; rfl) (rfl)
  · refine gf_iload_n 0 dX9_joins_0 rfl rfl ?_
    refine gf_tableIn 52 dX9_joins_1 (by decide) (by decide) (by rfl) rfl ?_
    refine gf_iload_n 1 dX9_joins_52 rfl rfl ?_
    refine gf_bipush (43) dX9_joins_53 rfl ?_
    refine gf_icmp_eq 64 dX9_joins_55 rfl (fun zc55 => ?_) (fun zc55 => ?_)
    · refine gf_iconst (1) dX9_joins_64 rfl ?_
      refine gf_goto 69 dX9_joins_65 rfl ?_
      exact gf_bret dX9_joins_69 rfl (by rw [show rjn 2 t = _ from (rfl : rjn 2 t = decide (t = 43 ∨ t = 45)).trans (decide_eq_true (Or.inl zc55))]; rfl) (rfl)
    · refine gf_iload_n 1 dX9_joins_58 rfl rfl ?_
      refine gf_bipush (45) dX9_joins_59 rfl ?_
      refine gf_icmp_ne 68 dX9_joins_61 rfl (fun zc61 => ?_) (fun zc61 => ?_)
      · refine gf_iconst (0) dX9_joins_68 rfl ?_
        exact gf_bret dX9_joins_69 rfl (by rw [show rjn 2 t = _ from (rfl : rjn 2 t = decide (t = 43 ∨ t = 45)).trans (decide_eq_false (fun w => Or.elim w zc55 zc61))]; rfl) (rfl)
      · refine gf_iconst (1) dX9_joins_64 rfl ?_
        refine gf_goto 69 dX9_joins_65 rfl ?_
        exact gf_bret dX9_joins_69 rfl (by rw [show rjn 2 t = _ from (rfl : rjn 2 t = decide (t = 43 ∨ t = 45)).trans (decide_eq_true (Or.inr zc61))]; rfl) (rfl)
  · refine gf_iload_n 0 dX9_joins_0 rfl rfl ?_
    refine gf_tableOut 70 dX9_joins_1 (by decide) rfl ?_
    refine gf_iload_n 1 dX9_joins_70 rfl rfl ?_
    refine gf_bipush (42) dX9_joins_71 rfl ?_
    refine gf_icmp_eq 82 dX9_joins_73 rfl (fun zc73 => ?_) (fun zc73 => ?_)
    · refine gf_iconst (1) dX9_joins_82 rfl ?_
      refine gf_goto 87 dX9_joins_83 rfl ?_
      exact gf_bret dX9_joins_87 rfl (by rw [show rjn 3 t = _ from (rfl : rjn 3 t = decide (t = 42 ∨ t = 47)).trans (decide_eq_true (Or.inl zc73))]; rfl) (rfl)
    · refine gf_iload_n 1 dX9_joins_76 rfl rfl ?_
      refine gf_bipush (47) dX9_joins_77 rfl ?_
      refine gf_icmp_ne 86 dX9_joins_79 rfl (fun zc79 => ?_) (fun zc79 => ?_)
      · refine gf_iconst (0) dX9_joins_86 rfl ?_
        exact gf_bret dX9_joins_87 rfl (by rw [show rjn 3 t = _ from (rfl : rjn 3 t = decide (t = 42 ∨ t = 47)).trans (decide_eq_false (fun w => Or.elim w zc73 zc79))]; rfl) (rfl)
      · refine gf_iconst (1) dX9_joins_82 rfl ?_
        refine gf_goto 87 dX9_joins_83 rfl ?_
        exact gf_bret dX9_joins_87 rfl (by rw [show rjn 3 t = _ from (rfl : rjn 3 t = decide (t = 42 ∨ t = 47)).trans (decide_eq_true (Or.inr zc79))]; rfl) (rfl)
theorem e_X9_readNumber (E : gE) {d : Nat} (hd : 2 ≤ d) (u m : Int32) (h : hp_T) (hG : gr h) (Z : rZ) (I : rdI Z) : ev E mX9_readNumber d [.ref (E.1 + 150), .int u, .int m] (hb h 150 8 Z) (some (.int (bI (rnum Z u m).1))) (hb h 150 8 (rnum Z u m).2) := by
  have hgo : gf E mX9_readNumber d 24 [(0, .ref (E.1 + 150)), (1, .int u), (2, .int m)] [.int (rval Z)] (hb h 150 8 Z) (some (.int (bI (rnum Z u m).1))) (hb h 150 8 (rnum Z u m).2) := by
    refine gf_istore_n 3 dX9_readNumber_24 rfl (Nat.le_of_ble_eq_true rfl) ?_
    refine gf_aload_n 0 dX9_readNumber_25 rfl rfl ?_
    refine gf_callV cmX9_token lkX9_55 imX9_token seX9_token ⟨rfl, by decide⟩ dX9_readNumber_26 (d1 := d - 1) (by omega) (gt_150 hG) (e_X9_token E (by omega) h hG Z I) rfl rfl (Nat.le_of_ble_eq_true rfl) ?_
    refine gf_bipush (23) dX9_readNumber_29 rfl ?_
    refine gf_icmp_ne 51 dX9_readNumber_31 rfl (fun zc31 => ?_) (fun zc31 => ?_)
    · have hn1 : ¬ (rtok Z = 23 ∧ rval Z = -1) := fun w => zc31 w.1
      refine gf_aload_n 0 dX9_readNumber_51 rfl rfl ?_
      refine gf_callV cmX9_token lkX9_55 imX9_token seX9_token ⟨rfl, by decide⟩ dX9_readNumber_52 (d1 := d - 1) (by omega) (gt_150 hG) (e_X9_token E (by omega) h hG Z I) rfl rfl (Nat.le_of_ble_eq_true rfl) ?_
      refine gf_bipush (23) dX9_readNumber_55 rfl ?_
      refine gf_icmp_ne 75 dX9_readNumber_57 rfl (fun zc57 => ?_) (fun zc57 => ?_)
      · have hn2 : ¬ (rtok Z = 23 ∧ m < rval Z) := fun w => zc57 w.1
        refine gf_aload_n 0 dX9_readNumber_75 rfl rfl ?_
        refine gf_bipush (23) dX9_readNumber_76 rfl ?_
        refine gf_callV cmX9_pass lkX9_110 imX9_pass seX9_pass ⟨rfl, by decide⟩ dX9_readNumber_78 (d1 := d - 1) (by omega) (gt_150 hG) (e_X9_pass E (by omega) 23 h hG Z I) rfl rfl (Nat.le_of_ble_eq_true rfl) ?_
        refine gf_if_eq 97 dX9_readNumber_81 rfl (fun zc81 => ?_) (fun zc81 => ?_)
        · have hb81 := bI_f zc81
          refine gf_iconst (0) dX9_readNumber_97 rfl ?_
          exact gf_bret dX9_readNumber_98 rfl (by rw [show rnum Z u m = _ from (if_neg hn1).trans ((if_neg hn2).trans (rbd_f hb81))]; first | done | rfl) (by rw [show rnum Z u m = _ from (if_neg hn1).trans ((if_neg hn2).trans (rbd_f hb81))]; first | done | rfl)
        · have hb81 := bI_t zc81
          refine gf_aload_n 0 dX9_readNumber_84 rfl rfl ?_
          refine gf_iload_n 1 dX9_readNumber_85 rfl rfl ?_
          refine gf_iload_n 3 dX9_readNumber_86 rfl rfl ?_
          refine gf_callV cmX9_emit lkX9_120 imX9_emit seX9_emit ⟨rfl, by decide⟩ dX9_readNumber_87 (d1 := d - 1) (by omega) (gt_150 hG) (e_X9_emit E (by omega) u (rval Z) h hG (rpas Z 23).2 (rpas_I I (by decide))) rfl rfl (Nat.le_of_ble_eq_true rfl) ?_
          refine gf_if_eq 97 dX9_readNumber_90 rfl (fun q => absurd q (by decide)) (fun _ => ?_)
          refine gf_iconst (1) dX9_readNumber_93 rfl ?_
          refine gf_goto 98 dX9_readNumber_94 rfl ?_
          exact gf_bret dX9_readNumber_98 rfl (by rw [show rnum Z u m = _ from (if_neg hn1).trans ((if_neg hn2).trans (rbd_t hb81))]; first | done | rfl) (by rw [show rnum Z u m = _ from (if_neg hn1).trans ((if_neg hn2).trans (rbd_t hb81))]; first | done | rfl)
      · have ht23 : rtok Z = 23 := zc57
        refine gf_iload_n 3 dX9_readNumber_60 rfl rfl ?_
        refine gf_iload_n 2 dX9_readNumber_61 rfl rfl ?_
        refine gf_icmp_le 75 dX9_readNumber_62 rfl (fun zc62 => ?_) (fun zc62 => ?_)
        · have hn2 : ¬ (rtok Z = 23 ∧ m < rval Z) := fun w => by have q := zc62; rw [fa_le] at q; have w2 := w.2; rw [fa_lt] at w2; omega
          refine gf_aload_n 0 dX9_readNumber_75 rfl rfl ?_
          refine gf_bipush (23) dX9_readNumber_76 rfl ?_
          refine gf_callV cmX9_pass lkX9_110 imX9_pass seX9_pass ⟨rfl, by decide⟩ dX9_readNumber_78 (d1 := d - 1) (by omega) (gt_150 hG) (e_X9_pass E (by omega) 23 h hG Z I) rfl rfl (Nat.le_of_ble_eq_true rfl) ?_
          refine gf_if_eq 97 dX9_readNumber_81 rfl (fun zc81 => ?_) (fun zc81 => ?_)
          · have hb81 := bI_f zc81
            refine gf_iconst (0) dX9_readNumber_97 rfl ?_
            exact gf_bret dX9_readNumber_98 rfl (by rw [show rnum Z u m = _ from (if_neg hn1).trans ((if_neg hn2).trans (rbd_f hb81))]; first | done | rfl) (by rw [show rnum Z u m = _ from (if_neg hn1).trans ((if_neg hn2).trans (rbd_f hb81))]; first | done | rfl)
          · have hb81 := bI_t zc81
            refine gf_aload_n 0 dX9_readNumber_84 rfl rfl ?_
            refine gf_iload_n 1 dX9_readNumber_85 rfl rfl ?_
            refine gf_iload_n 3 dX9_readNumber_86 rfl rfl ?_
            refine gf_callV cmX9_emit lkX9_120 imX9_emit seX9_emit ⟨rfl, by decide⟩ dX9_readNumber_87 (d1 := d - 1) (by omega) (gt_150 hG) (e_X9_emit E (by omega) u (rval Z) h hG (rpas Z 23).2 (rpas_I I (by decide))) rfl rfl (Nat.le_of_ble_eq_true rfl) ?_
            refine gf_if_eq 97 dX9_readNumber_90 rfl (fun q => absurd q (by decide)) (fun _ => ?_)
            refine gf_iconst (1) dX9_readNumber_93 rfl ?_
            refine gf_goto 98 dX9_readNumber_94 rfl ?_
            exact gf_bret dX9_readNumber_98 rfl (by rw [show rnum Z u m = _ from (if_neg hn1).trans ((if_neg hn2).trans (rbd_t hb81))]; first | done | rfl) (by rw [show rnum Z u m = _ from (if_neg hn1).trans ((if_neg hn2).trans (rbd_t hb81))]; first | done | rfl)
        · have hm : m < rval Z := by have q := zc62; rw [fa_le] at q; rw [fa_lt]; omega
          refine gf_aload_n 0 dX9_readNumber_65 rfl rfl ?_
          refine gf_iconst (2) dX9_readNumber_66 rfl ?_
          refine gf_aload_n 0 dX9_readNumber_67 rfl rfl ?_
          refine gf_callV cmX9_here lkX9_100 imX9_here seX9_here ⟨rfl, by decide⟩ dX9_readNumber_68 (d1 := d - 1) (by omega) (gt_150 hG) (e_X9_here E (by omega) h hG Z I) rfl rfl (Nat.le_of_ble_eq_true rfl) ?_
          refine gf_callV cmX9_refuse lkX9_103 imX9_refuse seX9_refuse ⟨rfl, by decide⟩ dX9_readNumber_71 (d1 := d - 1) (by omega) (gt_150 hG) (e_X9_refuse E (by omega) 2 (rher Z) h hG Z) rfl rfl (Nat.le_of_ble_eq_true rfl) ?_
          exact gf_bret dX9_readNumber_74 rfl (by rw [show rnum Z u m = _ from (if_neg hn1).trans (if_pos ⟨ht23, hm⟩)]; first | done | rfl) (by rw [show rnum Z u m = _ from (if_neg hn1).trans (if_pos ⟨ht23, hm⟩)]; first | done | rfl)
    · refine gf_iload_n 3 dX9_readNumber_34 rfl rfl ?_
      refine gf_iconst (-1) dX9_readNumber_35 rfl ?_
      refine gf_icmp_ne 51 dX9_readNumber_36 rfl (fun zc36 => ?_) (fun zc36 => ?_)
      · have hn1 : ¬ (rtok Z = 23 ∧ rval Z = -1) := fun w => zc36 w.2
        refine gf_aload_n 0 dX9_readNumber_51 rfl rfl ?_
        refine gf_callV cmX9_token lkX9_55 imX9_token seX9_token ⟨rfl, by decide⟩ dX9_readNumber_52 (d1 := d - 1) (by omega) (gt_150 hG) (e_X9_token E (by omega) h hG Z I) rfl rfl (Nat.le_of_ble_eq_true rfl) ?_
        refine gf_bipush (23) dX9_readNumber_55 rfl ?_
        refine gf_icmp_ne 75 dX9_readNumber_57 rfl (fun zc57 => ?_) (fun zc57 => ?_)
        · have hn2 : ¬ (rtok Z = 23 ∧ m < rval Z) := fun w => zc57 w.1
          refine gf_aload_n 0 dX9_readNumber_75 rfl rfl ?_
          refine gf_bipush (23) dX9_readNumber_76 rfl ?_
          refine gf_callV cmX9_pass lkX9_110 imX9_pass seX9_pass ⟨rfl, by decide⟩ dX9_readNumber_78 (d1 := d - 1) (by omega) (gt_150 hG) (e_X9_pass E (by omega) 23 h hG Z I) rfl rfl (Nat.le_of_ble_eq_true rfl) ?_
          refine gf_if_eq 97 dX9_readNumber_81 rfl (fun zc81 => ?_) (fun zc81 => ?_)
          · have hb81 := bI_f zc81
            refine gf_iconst (0) dX9_readNumber_97 rfl ?_
            exact gf_bret dX9_readNumber_98 rfl (by rw [show rnum Z u m = _ from (if_neg hn1).trans ((if_neg hn2).trans (rbd_f hb81))]; first | done | rfl) (by rw [show rnum Z u m = _ from (if_neg hn1).trans ((if_neg hn2).trans (rbd_f hb81))]; first | done | rfl)
          · have hb81 := bI_t zc81
            refine gf_aload_n 0 dX9_readNumber_84 rfl rfl ?_
            refine gf_iload_n 1 dX9_readNumber_85 rfl rfl ?_
            refine gf_iload_n 3 dX9_readNumber_86 rfl rfl ?_
            refine gf_callV cmX9_emit lkX9_120 imX9_emit seX9_emit ⟨rfl, by decide⟩ dX9_readNumber_87 (d1 := d - 1) (by omega) (gt_150 hG) (e_X9_emit E (by omega) u (rval Z) h hG (rpas Z 23).2 (rpas_I I (by decide))) rfl rfl (Nat.le_of_ble_eq_true rfl) ?_
            refine gf_if_eq 97 dX9_readNumber_90 rfl (fun q => absurd q (by decide)) (fun _ => ?_)
            refine gf_iconst (1) dX9_readNumber_93 rfl ?_
            refine gf_goto 98 dX9_readNumber_94 rfl ?_
            exact gf_bret dX9_readNumber_98 rfl (by rw [show rnum Z u m = _ from (if_neg hn1).trans ((if_neg hn2).trans (rbd_t hb81))]; first | done | rfl) (by rw [show rnum Z u m = _ from (if_neg hn1).trans ((if_neg hn2).trans (rbd_t hb81))]; first | done | rfl)
        · have ht23 : rtok Z = 23 := zc57
          refine gf_iload_n 3 dX9_readNumber_60 rfl rfl ?_
          refine gf_iload_n 2 dX9_readNumber_61 rfl rfl ?_
          refine gf_icmp_le 75 dX9_readNumber_62 rfl (fun zc62 => ?_) (fun zc62 => ?_)
          · have hn2 : ¬ (rtok Z = 23 ∧ m < rval Z) := fun w => by have q := zc62; rw [fa_le] at q; have w2 := w.2; rw [fa_lt] at w2; omega
            refine gf_aload_n 0 dX9_readNumber_75 rfl rfl ?_
            refine gf_bipush (23) dX9_readNumber_76 rfl ?_
            refine gf_callV cmX9_pass lkX9_110 imX9_pass seX9_pass ⟨rfl, by decide⟩ dX9_readNumber_78 (d1 := d - 1) (by omega) (gt_150 hG) (e_X9_pass E (by omega) 23 h hG Z I) rfl rfl (Nat.le_of_ble_eq_true rfl) ?_
            refine gf_if_eq 97 dX9_readNumber_81 rfl (fun zc81 => ?_) (fun zc81 => ?_)
            · have hb81 := bI_f zc81
              refine gf_iconst (0) dX9_readNumber_97 rfl ?_
              exact gf_bret dX9_readNumber_98 rfl (by rw [show rnum Z u m = _ from (if_neg hn1).trans ((if_neg hn2).trans (rbd_f hb81))]; first | done | rfl) (by rw [show rnum Z u m = _ from (if_neg hn1).trans ((if_neg hn2).trans (rbd_f hb81))]; first | done | rfl)
            · have hb81 := bI_t zc81
              refine gf_aload_n 0 dX9_readNumber_84 rfl rfl ?_
              refine gf_iload_n 1 dX9_readNumber_85 rfl rfl ?_
              refine gf_iload_n 3 dX9_readNumber_86 rfl rfl ?_
              refine gf_callV cmX9_emit lkX9_120 imX9_emit seX9_emit ⟨rfl, by decide⟩ dX9_readNumber_87 (d1 := d - 1) (by omega) (gt_150 hG) (e_X9_emit E (by omega) u (rval Z) h hG (rpas Z 23).2 (rpas_I I (by decide))) rfl rfl (Nat.le_of_ble_eq_true rfl) ?_
              refine gf_if_eq 97 dX9_readNumber_90 rfl (fun q => absurd q (by decide)) (fun _ => ?_)
              refine gf_iconst (1) dX9_readNumber_93 rfl ?_
              refine gf_goto 98 dX9_readNumber_94 rfl ?_
              exact gf_bret dX9_readNumber_98 rfl (by rw [show rnum Z u m = _ from (if_neg hn1).trans ((if_neg hn2).trans (rbd_t hb81))]; first | done | rfl) (by rw [show rnum Z u m = _ from (if_neg hn1).trans ((if_neg hn2).trans (rbd_t hb81))]; first | done | rfl)
          · have hm : m < rval Z := by have q := zc62; rw [fa_le] at q; rw [fa_lt]; omega
            refine gf_aload_n 0 dX9_readNumber_65 rfl rfl ?_
            refine gf_iconst (2) dX9_readNumber_66 rfl ?_
            refine gf_aload_n 0 dX9_readNumber_67 rfl rfl ?_
            refine gf_callV cmX9_here lkX9_100 imX9_here seX9_here ⟨rfl, by decide⟩ dX9_readNumber_68 (d1 := d - 1) (by omega) (gt_150 hG) (e_X9_here E (by omega) h hG Z I) rfl rfl (Nat.le_of_ble_eq_true rfl) ?_
            refine gf_callV cmX9_refuse lkX9_103 imX9_refuse seX9_refuse ⟨rfl, by decide⟩ dX9_readNumber_71 (d1 := d - 1) (by omega) (gt_150 hG) (e_X9_refuse E (by omega) 2 (rher Z) h hG Z) rfl rfl (Nat.le_of_ble_eq_true rfl) ?_
            exact gf_bret dX9_readNumber_74 rfl (by rw [show rnum Z u m = _ from (if_neg hn1).trans (if_pos ⟨ht23, hm⟩)]; first | done | rfl) (by rw [show rnum Z u m = _ from (if_neg hn1).trans (if_pos ⟨ht23, hm⟩)]; first | done | rfl)
      · refine gf_aload_n 0 dX9_readNumber_39 rfl rfl ?_
        refine gf_iconst (1) dX9_readNumber_40 rfl ?_
        refine gf_aload_n 0 dX9_readNumber_41 rfl rfl ?_
        refine gf_callV cmX9_here lkX9_100 imX9_here seX9_here ⟨rfl, by decide⟩ dX9_readNumber_42 (d1 := d - 1) (by omega) (gt_150 hG) (e_X9_here E (by omega) h hG Z I) rfl rfl (Nat.le_of_ble_eq_true rfl) ?_
        refine gf_iconst (5) dX9_readNumber_45 rfl ?_
        refine gf_iadd dX9_readNumber_46 ?_
        refine gf_callV cmX9_refuse lkX9_103 imX9_refuse seX9_refuse ⟨rfl, by decide⟩ dX9_readNumber_47 (d1 := d - 1) (by omega) (gt_150 hG) (e_X9_refuse E (by omega) 1 (rher Z + 5) h hG Z) rfl rfl (Nat.le_of_ble_eq_true rfl) ?_
        exact gf_bret dX9_readNumber_50 rfl (by rw [show rnum Z u m = _ from if_pos ⟨zc31, zc36⟩]; first | done | rfl) (by rw [show rnum Z u m = _ from if_pos ⟨zc31, zc36⟩]; first | done | rfl)
  obtain ⟨a, c, l, t9, h1, h2, h3, h4, h5, h6, h7, h8⟩ := I
  refine ev_of rfl (fun q => absurd q (by decide)) (Nat.le_of_ble_eq_true rfl) ?_
  refine gf_aload_n 0 dX9_readNumber_0 rfl rfl ?_
  refine gf_getI flX9_49 rfl dX9_readNumber_1 (gt_150 hG) ?_
  refine gf_aload_n 0 dX9_readNumber_4 rfl rfl ?_
  refine gf_getI flX9_68 rfl dX9_readNumber_5 (gt_150 hG) ?_
  refine gf_icmp_ge 23 dX9_readNumber_8 rfl (fun zc8 => ?_) (fun zc8 => ?_)
  · have hge : ¬ Z 0 13 < Z 0 12 := fun w => by have q : Z 0 12 ≤ Z 0 13 := zc8; rw [fa_le] at q; rw [fa_lt] at w; omega
    have hv : (0 : Int32) = rval Z := (if_neg hge : rval Z = 0).symm
    refine gf_iconst (0) dX9_readNumber_23 rfl ?_
    rw [hv]
    exact hgo
  · have hlt : Z 0 13 < Z 0 12 := by have q : ¬ Z 0 12 ≤ Z 0 13 := zc8; rw [fa_le] at q; rw [fa_lt]; omega
    have hac : a < c := by rw [h1, h3] at hlt; exact (nI_ltI (by omega) (by omega)).mp hlt
    have hrd : Z 7 (Z 0 13).toNatClampNeg = Z 7 a := by rw [h1, nI_clamp (by omega)]
    have hv : Z 7 a = rval Z := (((if_pos hlt).trans hrd : rval Z = _)).symm
    refine gf_aload_n 0 dX9_readNumber_11 rfl rfl ?_
    refine gf_getR flX9_34 rfl dX9_readNumber_12 (gt_150 hG) (gp_150_11 hG) ?_
    refine gf_aload_n 0 dX9_readNumber_15 rfl rfl ?_
    refine gf_getI flX9_49 rfl dX9_readNumber_16 (gt_150 hG) ?_
    refine gf_iald 600 dX9_readNumber_19 (gt_157 hG) (gl_157 hG) h1 (by omega) (by decide) ?_
    refine gf_goto 24 dX9_readNumber_20 rfl ?_
    rw [show hp_i (hb h 150 8 Z) 157 a = rval Z from hv]
    exact hgo
