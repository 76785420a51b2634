/-! ===== the class: terms ===== -/
/-- alike in the cells that the constructors made -/
def loS (h h1 : hp_T) : Prop := ∀ x, x < 333 → hp_tag h1 x = hp_tag h x ∧ hp_len h1 x = hp_len h x ∧ hp_i h1 x = hp_i h x ∧ hp_l h1 x = hp_l h x ∧ hp_r h1 x = hp_r h x
theorem loS.trans {a b c : hp_T} (h1 : loS a b) (h2 : loS b c) : loS a c := fun x hx => by
  obtain ⟨p1, p2, p3, p4, p5⟩ := h1 x hx
  obtain ⟨q1, q2, q3, q4, q5⟩ := h2 x hx
  exact ⟨q1.trans p1, q2.trans p2, q3.trans p3, q4.trans p4, q5.trans p5⟩
theorem lo_setI (h : hp_T) {a : Nat} (k : Nat) (v : Int32) (ha : 333 ≤ a) : loS h (hp_setI h a k v) := fun x hx => ⟨rfl, rfl, hp_upne (by omega), rfl, rfl⟩
theorem lo_setR (h : hp_T) {a : Nat} (k : Nat) (v : Option Nat) (ha : 333 ≤ a) : loS h (hp_setR h a k v) := fun x hx => ⟨rfl, rfl, rfl, rfl, hp_upne (by omega)⟩
theorem lo_hcp (h : hp_T) (a n0 N : Nat) (hn : 333 ≤ hp_n h) : loS h (hcp h a n0 N) := fun x hx => hcp_ne h a n0 N (by omega)
theorem lo_new (h : hp_T) (t len sl : Nat) (hn : 333 ≤ hp_n h) : loS h (hp_new h t len sl) := fun x hx => hp_new_ne h t len sl (by omega)
theorem gr_lo {h h1 : hp_T} (L : loS h h1) (hn : 333 ≤ hp_n h1) (g : gr h) : gr h1 := by
  refine ⟨hn, fun i q hq => ?_, fun i q hq => ?_⟩
  · have : i < gr_tl.length := (List.getElem?_eq_some_iff.mp hq).1
    have e : gr_tl.length = 333 := by decide +kernel
    obtain ⟨q1, q2, -⟩ := L i (by omega)
    exact ⟨q1.trans (g.2.1 i q hq).1, q2.trans (g.2.1 i q hq).2⟩
  · have : q.1 < 333 := of_decide_eq_true (List.all_eq_true.mp (show gr_rl.all (fun z => decide (z.1 < 333)) = true by decide +kernel) q (List.mem_of_getElem? hq))
    obtain ⟨-, -, -, -, q5⟩ := L q.1 this
    rw [q5]
    exact g.2.2 i q hq
theorem lo_tm {h : hp_T} {b ct cl : Nat} (hb : 333 ≤ b) (hn : 333 ≤ hp_n h) : loS h (tmH h b ct cl) := by
  have a1 : loS h (tmA h b ct) := lo_setI _ _ _ hb
  have n1 : 333 ≤ hp_n (tmA h b ct) := hn
  unfold tmH
  generalize tmL (cpyF (hp_i h 152) 24 ct) ct = z
  generalize tmA h b ct = h1 at a1 n1 ⊢
  have a2 : loS h1 (tmC h1 b cl) := (lo_hcp h1 151 600 cl n1).trans (lo_setR _ _ _ hb)
  have n2 : 333 ≤ hp_n (tmC h1 b cl) := Nat.le_succ_of_le n1
  generalize tmC h1 b cl = h2 at a2 n2 ⊢
  have a3 : loS h2 (tmK h2 b ct) := (lo_hcp h2 152 24 ct n2).trans (lo_setR _ _ _ hb)
  have n3 : 333 ≤ hp_n (tmK h2 b ct) := Nat.le_succ_of_le n2
  generalize tmK h2 b ct = h3 at a3 n3 ⊢
  have a4 : loS h3 (tmF h3 b ct cl) := ((lo_hcp h3 153 24 (ct + 1) n3).trans (lo_setR _ _ _ hb)).trans (lo_setI _ _ _ n3)
  generalize tmF h3 b ct cl = h4 at a4 ⊢
  have a5 : loS h4 (tmE h4 b z) := ((lo_setI _ _ _ hb).trans (lo_setI _ _ _ hb)).trans (lo_setI _ _ _ hb)
  exact (((a1.trans a2).trans a3).trans a4).trans a5
theorem tm_n (h : hp_T) (b ct cl : Nat) : hp_n (tmH h b ct cl) = hp_n h + 3 := rfl
theorem tm_tag {h : hp_T} {b ct cl : Nat} (hb : b < hp_n h) : hp_tag (tmH h b ct cl) b = hp_tag h b := by
  have e1 : ∀ (g : hp_T) (a n0 N : Nat), b < hp_n g → hp_tag (hcp g a n0 N) b = hp_tag g b := fun g a n0 N hg => (hcp_ne g a n0 N (by omega)).1
  unfold tmH
  generalize tmL (cpyF (hp_i h 152) 24 ct) ct = z
  have n1 : b < hp_n (tmA h b ct) := hb
  have t1 : hp_tag (tmA h b ct) b = hp_tag h b := rfl
  generalize tmA h b ct = h1 at t1 n1 ⊢
  have t2 : hp_tag (tmC h1 b cl) b = hp_tag h1 b := e1 h1 151 600 cl n1
  have n2 : b < hp_n (tmC h1 b cl) := Nat.lt_succ_of_lt n1
  generalize tmC h1 b cl = h2 at t2 n2 ⊢
  have t3 : hp_tag (tmK h2 b ct) b = hp_tag h2 b := e1 h2 152 24 ct n2
  have n3 : b < hp_n (tmK h2 b ct) := Nat.lt_succ_of_lt n2
  generalize tmK h2 b ct = h3 at t3 n3 ⊢
  have t4 : hp_tag (tmF h3 b ct cl) b = hp_tag h3 b := e1 h3 153 24 (ct + 1) n3
  generalize tmF h3 b ct cl = h4 at t4 ⊢
  show hp_tag h4 b = _
  rw [t4, t3, t2, t1]
theorem lo_rd {h : hp_T} (g : gr h) (Y : rZ) : loS (hb h 150 8 Y) (rdH h Y) ∧ hp_n (rdH h Y) = hp_n h + 4 ∧ hp_tag (rdH h Y) (hp_n h) = 10 := by
  have hn := g.1
  unfold rdH
  generalize (Y 0 3).toNatClampNeg = ct
  generalize (Y 0 4).toNatClampNeg = cl
  have a1 := lo_new (hb h 150 8 Y) 10 0 (hp_N 10) hn
  have t1 : hp_tag (hp_new (hb h 150 8 Y) 10 0 (hp_N 10)) (hp_n h) = 10 := hp_new_t (hb h 150 8 Y) 10 0 _
  have n1 : hp_n (hp_new (hb h 150 8 Y) 10 0 (hp_N 10)) = hp_n h + 1 := rfl
  generalize hp_new (hb h 150 8 Y) 10 0 (hp_N 10) = h1 at a1 t1 n1 ⊢
  exact ⟨a1.trans (lo_tm hn (by omega)), by rw [tm_n, n1], (tm_tag (by omega)).trans t1⟩
/-- what terms() reads -/
def trmY (S : rZ → Bool × rZ) (L : Nat) (h : hp_T) : rZ := stL S 25 (rdZ1 L (rd0 h))
def trm0 (h : hp_T) : hp_T := hp_setI h 150 0 0
def trmG (h : hp_T) (o : Int32) (n b : Nat) : hp_T := hp_setR (hp_setI (hp_setR (hp_setI (hp_setI (hp_setI h 158 0 (nI (n + 1))) 163 (n + 1) 1) 164 (n + 1) 0) 162 (n + 1) none) 159 (n + 1) o) 162 (n + 1) (some b)
abbrev isTm (o : Int32) (n : Nat) : Prop := isO o ∧ n < 200
def trmV (S : rZ → Bool × rZ) (L n : Nat) (h : hp_T) (o : Int32) : Int32 := if isTm o n then (if trmY S L h 0 1 = 0 then nI (n + 1) else -1) else -2
def trmR (S : rZ → Bool × rZ) (L n : Nat) (h : hp_T) (o : Int32) : hp_T := if isTm o n then (if trmY S L h 0 1 = 0 then trmG (trm0 (rdH h (trmY S L h))) o n (hp_n h) else trm0 (hb h 150 8 (trmY S L h))) else trm0 h
theorem e_X11_terms_S (E : gE) {d : Nat} (hd : 9 ≤ d) {L n : Nat} (S : rZ → Bool × rZ) (t : Int32) (h : hp_T) (hG : gr h) (hS : pcO E mX9_readStatement (d - 2) [] S h) (I : txI (rd0 h) L) (hN : hp_i h 158 0 = nI n) (hn : n ≤ 200) : ev E mX11_terms d [.ref (E.1 + 0), .int t] h (some (.int (trmV S L n h t))) (trmR S L n h t) := by
  refine ev_of rfl (fun q => absurd q (by decide)) (Nat.le_of_ble_eq_true rfl) ?_
  have er := e_X9_read E (d := d - 1) (by omega) S h hG hS (rd0 h) I
  change ev E mX9_read (d - 1) [.ref (E.1 + 150)] (hb h 150 8 (rd0 h)) (some (rdE E h (trmY S L h))) (rdF h (trmY S L h)) at er
  have hlo := lo_rd hG (trmY S L h)
  unfold trmV trmR
  by_cases hP : isTm t n
  · rw [if_pos hP, if_pos hP]
    generalize hY : (trmY S L h) = Y at er hlo ⊢
    have hf : ¬ 200 ≤ hp_i h 158 0 := by rw [hN]; exact nI_ge (a := n) (b := 200) hP.2 (by omega)
    by_cases e : Y 0 1 = 0
    · rw [if_pos e, if_pos e]
      rw [show rdE E h Y = .ref (E.1 + hp_n h) from if_pos e, show rdF h Y = rdH h Y from if_pos e] at er
      refine gf_iload_n 1 dX11_terms_0 rfl rfl ?_
      refine gf_callS cmX11_isOffice lkX11_143 stX11_isOffice dX11_terms_1 (d1 := d - 1) (by omega) (e_X11_isOffice E (by omega) t h) rfl rfl (Nat.le_of_ble_eq_true rfl) ?_
      refine gf_if_eq 17 dX11_terms_4 rfl (fun q => absurd q (fun q => zb_0.mp q hP.1)) (fun _ => ?_)
      refine gf_aload_n 0 dX11_terms_7 rfl rfl ?_
      refine gf_getR flX11_33 rfl dX11_terms_8 (gt_0 (by first | exact hG | exact gH)) (gp_0_3 (by first | exact hG | exact gH)) ?_
      refine gf_callV cmX0_full lkX11_160 imX0_full seX0_full ⟨rfl, by decide⟩ dX11_terms_11 (d1 := d - 1) (by omega) (gt_158 (by first | exact hG | exact gH)) (e_X0_full E (by omega) h hG) rfl rfl (Nat.le_of_ble_eq_true rfl) ?_
      refine gf_if_eq 28 dX11_terms_14 rfl (fun _ => ?_) (fun q => absurd (zb_f hf) q)
      refine gf_aload_n 0 dX11_terms_28 rfl rfl ?_
      refine gf_getR flX11_26 rfl dX11_terms_29 (gt_0 (by first | exact hG | exact gH)) (gp_0_2 (by first | exact hG | exact gH)) ?_
      refine gf_hE (show h = hb h 150 8 (rd0 h) from (hb_id h 150 8).symm) ?_
      refine gf_callV cmX9_read lkX11_164 imX9_read seX9_read ⟨rfl, by decide⟩ dX11_terms_32 (d1 := d - 1) (by omega) (gt_150 (by first | exact hG | exact gH)) (er) rfl rfl (Nat.le_of_ble_eq_true rfl) ?_
      obtain ⟨l1, l2, l3⟩ := hlo
      have gH : gr (rdH h Y) := gr_lo l1 (by rw [l2]; have := hG.1; omega) hG
      have hNH : hp_i (rdH h Y) 158 0 = nI n := (congrFun (l1 158 (by decide)).2.2.1 0).trans hN
      generalize rdH h Y = hR at l2 l3 gH hNH ⊢
      refine gf_astore_n 2 dX11_terms_35 rfl (Nat.le_of_ble_eq_true rfl) ?_
      refine gf_aload_n 0 dX11_terms_36 rfl rfl ?_
      refine gf_getR flX11_26 rfl dX11_terms_37 (gt_0 (by first | exact hG | exact gH)) (gp_0_2 (by first | exact hG | exact gH)) ?_
      refine gf_iconst (0) dX11_terms_40 rfl ?_
      refine gf_putI flX11_97 rfl rfl dX11_terms_41 (gt_150 (by first | exact hG | exact gH)) ⟨rfl, rfl⟩ ?_
      refine gf_aload_n 2 dX11_terms_44 rfl rfl ?_
      refine gf_ifnonnull_yes 50 dX11_terms_45 rfl ?_
      refine gf_aload_n 0 dX11_terms_50 rfl rfl ?_
      refine gf_getR flX11_33 rfl dX11_terms_51 (gt_0 (by first | exact hG | exact gH)) (gp_0_3 (by first | exact hG | exact gH)) ?_
      refine gf_iload_n 1 dX11_terms_54 rfl rfl ?_
      refine gf_aload_n 2 dX11_terms_55 rfl rfl ?_
      refine gf_callV cmX0_addTerms lkX11_168 imX0_addTerms seX0_addTerms ⟨rfl, by decide⟩ dX11_terms_56 (d1 := d - 1) (by omega) (gt_158 (by first | exact hG | exact gH)) (e_X0_addTerms E (by omega) t (b := hp_n h) (trm0 hR) gH hNH hP.2 l3) rfl rfl (Nat.le_of_ble_eq_true rfl) ?_
      exact gf_iretE dX11_terms_59 rfl (rfl) (rfl)
    · rw [if_neg e, if_neg e]
      rw [show rdE E h Y = .null from if_neg e, show rdF h Y = hb h 150 8 Y from if_neg e] at er
      refine gf_iload_n 1 dX11_terms_0 rfl rfl ?_
      refine gf_callS cmX11_isOffice lkX11_143 stX11_isOffice dX11_terms_1 (d1 := d - 1) (by omega) (e_X11_isOffice E (by omega) t h) rfl rfl (Nat.le_of_ble_eq_true rfl) ?_
      refine gf_if_eq 17 dX11_terms_4 rfl (fun q => absurd q (fun q => zb_0.mp q hP.1)) (fun _ => ?_)
      refine gf_aload_n 0 dX11_terms_7 rfl rfl ?_
      refine gf_getR flX11_33 rfl dX11_terms_8 (gt_0 hG) (gp_0_3 hG) ?_
      refine gf_callV cmX0_full lkX11_160 imX0_full seX0_full ⟨rfl, by decide⟩ dX11_terms_11 (d1 := d - 1) (by omega) (gt_158 hG) (e_X0_full E (by omega) h hG) rfl rfl (Nat.le_of_ble_eq_true rfl) ?_
      refine gf_if_eq 28 dX11_terms_14 rfl (fun _ => ?_) (fun q => absurd (zb_f hf) q)
      refine gf_aload_n 0 dX11_terms_28 rfl rfl ?_
      refine gf_getR flX11_26 rfl dX11_terms_29 (gt_0 hG) (gp_0_2 hG) ?_
      refine gf_hE (show h = hb h 150 8 (rd0 h) from (hb_id h 150 8).symm) ?_
      refine gf_callV cmX9_read lkX11_164 imX9_read seX9_read ⟨rfl, by decide⟩ dX11_terms_32 (d1 := d - 1) (by omega) (gt_150 hG) (er) rfl rfl (Nat.le_of_ble_eq_true rfl) ?_
      refine gf_astore_nN 2 dX11_terms_35 rfl (Nat.le_of_ble_eq_true rfl) ?_
      refine gf_aload_n 0 dX11_terms_36 rfl rfl ?_
      refine gf_getR flX11_26 rfl dX11_terms_37 (gt_0 hG) (gp_0_2 hG) ?_
      refine gf_iconst (0) dX11_terms_40 rfl ?_
      refine gf_putI flX11_97 rfl rfl dX11_terms_41 (gt_150 hG) ⟨rfl, rfl⟩ ?_
      refine gf_aload_nN 2 dX11_terms_44 rfl rfl ?_
      refine gf_ifnonnull_no dX11_terms_45 ?_
      refine gf_iconst (-1) dX11_terms_48 rfl ?_
      exact gf_iretE dX11_terms_49 rfl (rfl) (rfl)
  · rw [if_neg hP, if_neg hP]
    refine gf_iload_n 1 dX11_terms_0 rfl rfl ?_
    refine gf_callS cmX11_isOffice lkX11_143 stX11_isOffice dX11_terms_1 (d1 := d - 1) (by omega) (e_X11_isOffice E (by omega) t h) rfl rfl (Nat.le_of_ble_eq_true rfl) ?_
    refine gf_if_eq 17 dX11_terms_4 rfl (fun zc4 => ?_) (fun zc4 => ?_)
    · refine gf_aload_n 0 dX11_terms_17 rfl rfl ?_
      refine gf_getR flX11_26 rfl dX11_terms_18 (gt_0 hG) (gp_0_2 hG) ?_
      refine gf_iconst (0) dX11_terms_21 rfl ?_
      refine gf_putI flX11_97 rfl rfl dX11_terms_22 (gt_150 hG) ⟨rfl, rfl⟩ ?_
      refine gf_bipush (-2) dX11_terms_25 rfl ?_
      exact gf_iretE dX11_terms_27 rfl (rfl) (rfl)
    · refine gf_aload_n 0 dX11_terms_7 rfl rfl ?_
      refine gf_getR flX11_33 rfl dX11_terms_8 (gt_0 hG) (gp_0_3 hG) ?_
      refine gf_callV cmX0_full lkX11_160 imX0_full seX0_full ⟨rfl, by decide⟩ dX11_terms_11 (d1 := d - 1) (by omega) (gt_158 hG) (e_X0_full E (by omega) h hG) rfl rfl (Nat.le_of_ble_eq_true rfl) ?_
      refine gf_if_eq 28 dX11_terms_14 rfl (fun zc14 => ?_) (fun zc14 => ?_)
      · exact absurd ⟨zb_1.mp zc4, by have q := zb_0.mp zc14; rw [hN] at q; rcases Nat.lt_or_ge n 200 with w | w; exact w; exact absurd (nI_le (a := 200) w (by omega)) q⟩ hP
      · refine gf_aload_n 0 dX11_terms_17 rfl rfl ?_
        refine gf_getR flX11_26 rfl dX11_terms_18 (gt_0 hG) (gp_0_2 hG) ?_
        refine gf_iconst (0) dX11_terms_21 rfl ?_
        refine gf_putI flX11_97 rfl rfl dX11_terms_22 (gt_150 hG) ⟨rfl, rfl⟩ ?_
        refine gf_bipush (-2) dX11_terms_25 rfl ?_
        exact gf_iretE dX11_terms_27 rfl (rfl) (rfl)
def rdS : rZ → Bool × rZ := staS (rdr 77 0 0) (rdr 77 2 0)
theorem e_rdS (E : gE) {d : Nat} (hd : 90 ≤ d) (h : hp_T) (hG : gr h) : pcO E mX9_readStatement d [] rdS h := by
  have a0 := e_rdr E h hG 77 0 0 (d - 1) (by omega) (by omega) (by simp only [rkq]; omega) (by omega)
  have a2 := e_rdr E h hG 77 2 0 (d - 1) (by omega) (by omega) (by simp only [rkq]; omega) (by omega)
  unfold rdS
  generalize rdr 77 0 0 = R0 at a0 ⊢
  generalize rdr 77 2 0 = R2 at a2 ⊢
  exact e_X9_readStatement E (by omega) R0 R2 h hG a0 a2
theorem e_X11_terms (E : gE) {d : Nat} (hd : 95 ≤ d) {L n : Nat} (t : Int32) (h : hp_T) (hG : gr h) (I : txI (rd0 h) L) (hN : hp_i h 158 0 = nI n) (hn : n ≤ 200) : ev E mX11_terms d [.ref (E.1 + 0), .int t] h (some (.int (trmV rdS L n h t))) (trmR rdS L n h t) :=
  e_X11_terms_S E (by omega) rdS t h hG (e_rdS E (by omega) h hG) I hN hn
