/-! ===== the class: new Terms ===== -/
theorem hcp_ne (h : hp_T) (a n0 N : Nat) {x : Nat} (hx : x ≠ hp_n h) : hp_tag (hcp h a n0 N) x = hp_tag h x ∧ hp_len (hcp h a n0 N) x = hp_len h x ∧ hp_i (hcp h a n0 N) x = hp_i h x ∧ hp_l (hcp h a n0 N) x = hp_l h x ∧ hp_r (hcp h a n0 N) x = hp_r h x := by
  obtain ⟨q1, q2, q3, q4, q5⟩ := hp_new_ne h 14 N N hx
  exact ⟨q1, q2, (rw1_ne _ _ hx).trans q3, q4, q5⟩
theorem hcp_at (h : hp_T) (a n0 N : Nat) : hp_tag (hcp h a n0 N) (hp_n h) = 14 ∧ hp_len (hcp h a n0 N) (hp_n h) = N ∧ hp_i (hcp h a n0 N) (hp_n h) = cpyF (hp_i h a) n0 N := ⟨hp_new_t h 14 N N, hp_new_n h 14 N N, rw1_at _ _ _⟩
theorem gr_hcp {h : hp_T} {a n0 N : Nat} (g : gr h) (hn : 333 ≤ hp_n h) : gr (hcp h a n0 N) := by
  refine ⟨Nat.le_succ_of_le g.1, fun i q hq => ?_, fun i q hq => ?_⟩
  · have hi : i ≠ hp_n h := by
      have : i < gr_tl.length := (List.getElem?_eq_some_iff.mp hq).1
      have e : gr_tl.length = 333 := by decide +kernel
      omega
    obtain ⟨q1, q2, -⟩ := hcp_ne h a n0 N hi
    exact ⟨q1.trans (g.2.1 i q hq).1, q2.trans (g.2.1 i q hq).2⟩
  · have hi : q.1 ≠ hp_n h := by
      have : q.1 < 333 := of_decide_eq_true (List.all_eq_true.mp (show gr_rl.all (fun z => decide (z.1 < 333)) = true by decide +kernel) q (List.mem_of_getElem? hq))
      omega
    obtain ⟨-, -, -, -, q5⟩ := hcp_ne h a n0 N hi
    rw [q5]
    exact g.2.2 i q hq
/-- the last statements of their kinds: pay, premium, beside -/
def tmB (kd : Nat → Int32) (z : Int32 × Int32 × Int32) (i : Nat) : Int32 × Int32 × Int32 := if kd i = 17 then (nI i, z.2.1, z.2.2) else if kd i = 18 then (z.1, nI i, z.2.2) else if 20 ≤ kd i then (z.1, z.2.1, kd i) else z
def tmL (kd : Nat → Int32) (n : Nat) : Int32 × Int32 × Int32 := itN (tmB kd) (-1, -1, 21) n
def tmA (h : hp_T) (b ct : Nat) : hp_T := hp_setI h b 0 (nI ct)
def tmC (h : hp_T) (b cl : Nat) : hp_T := hp_setR (hcp h 151 600 cl) b 1 (some (hp_n h))
def tmK (h : hp_T) (b ct : Nat) : hp_T := hp_setR (hcp h 152 24 ct) b 2 (some (hp_n h))
def tmF (h : hp_T) (b ct cl : Nat) : hp_T := hp_setI (hp_setR (hcp h 153 24 (ct + 1)) b 3 (some (hp_n h))) (hp_n h) ct (nI cl)
def tmE (h : hp_T) (b : Nat) (z : Int32 × Int32 × Int32) : hp_T := hp_setI (hp_setI (hp_setI h b 4 z.1) b 5 z.2.1) b 6 z.2.2
def tmH (h : hp_T) (b ct cl : Nat) : hp_T := tmE (tmF (tmK (tmC (tmA h b ct) b cl) b ct) b ct cl) b (tmL (cpyF (hp_i h 152) 24 ct) ct)
theorem l_X10 (E : gE) {d : Nat} {b ct ka : Nat} {kd : Nat → Int32} (h : hp_T) (hb : hp_tag h b = 10) (hr : hp_r h b 2 = some ka) (hk : hp_tag h ka = 14 ∧ hp_len h ka = ct) (hkd : ∀ i, i < ct → hp_i h ka i = kd i) (hct : ct ≤ 24) {v : Option Value} {hz : hp_T} (K : gf E mX10_init d 156 [(0, .ref (E.1 + b)), (1, .ref (E.1 + 150)), (2, .int (tmL kd (ct)).1), (3, .int (tmL kd (ct)).2.1), (4, .int (tmL kd (ct)).2.2), (5, .int (nI (ct)))] [] h v hz) : ∀ (kz jz : Nat), jz + kz = ct → gf E mX10_init d 83 [(0, .ref (E.1 + b)), (1, .ref (E.1 + 150)), (2, .int (tmL kd (jz)).1), (3, .int (tmL kd (jz)).2.1), (4, .int (tmL kd (jz)).2.2), (5, .int (nI (jz)))] [] h v hz := by
  intro kz
  induction kz with
  | zero =>
    intro jz hj
    have hj : ct = jz := by omega
    subst hj
    refine gf_iload dX10_init_83 rfl ?_
    refine gf_aload_n 0 dX10_init_85 rfl rfl ?_
    refine gf_getR flX10_35 rfl dX10_init_86 hb hr ?_
    refine gf_alen ct dX10_init_89 hk.1 (by decide) (by decide) hk.2 ?_
    refine gf_icmp_ge 156 dX10_init_90 rfl (fun _ => ?_) (fun q => absurd (Int32.le_refl _) q)
    exact gf_lw K ⟨rfl, rfl, rfl, rfl, rfl, rfl, trivial⟩
  | succ kz ih =>
    intro jz hj
    have hkj := hkd jz (by omega)
    have ih1 := ih (jz + 1) (by omega)
    rw [show (tmL kd (jz + 1)) = tmB kd (tmL kd (jz)) jz from rfl] at ih1
    generalize (tmL kd (jz)) = z at ih1 ⊢
    refine gf_iload dX10_init_83 rfl ?_
    refine gf_aload_n 0 dX10_init_85 rfl rfl ?_
    refine gf_getR flX10_35 rfl dX10_init_86 hb hr ?_
    refine gf_alen ct dX10_init_89 hk.1 (by decide) (by decide) hk.2 ?_
    refine gf_icmp_ge 156 dX10_init_90 rfl (fun q => absurd q (nI_ge (by omega) (by omega))) (fun _ => ?_)
    refine gf_aload_n 0 dX10_init_93 rfl rfl ?_
    refine gf_getR flX10_35 rfl dX10_init_94 hb hr ?_
    refine gf_iload dX10_init_97 rfl ?_
    refine gf_iald ct dX10_init_99 hk.1 hk.2 rfl (by omega) (by omega) ?_
    rw [hkj]
    refine gf_bipush (17) dX10_init_100 rfl ?_
    refine gf_icmp_ne 111 dX10_init_102 rfl (fun zc102 => ?_) (fun zc102 => ?_)
    · refine gf_aload_n 0 dX10_init_111 rfl rfl ?_
      refine gf_getR flX10_35 rfl dX10_init_112 hb hr ?_
      refine gf_iload dX10_init_115 rfl ?_
      refine gf_iald ct dX10_init_117 hk.1 hk.2 rfl (by omega) (by omega) ?_
      rw [hkj]
      refine gf_bipush (18) dX10_init_118 rfl ?_
      refine gf_icmp_ne 129 dX10_init_120 rfl (fun zc120 => ?_) (fun zc120 => ?_)
      · refine gf_aload_n 0 dX10_init_129 rfl rfl ?_
        refine gf_getR flX10_35 rfl dX10_init_130 hb hr ?_
        refine gf_iload dX10_init_133 rfl ?_
        refine gf_iald ct dX10_init_135 hk.1 hk.2 rfl (by omega) (by omega) ?_
        rw [hkj]
        refine gf_bipush (20) dX10_init_136 rfl ?_
        refine gf_icmp_lt 150 dX10_init_138 rfl (fun zc138 => ?_) (fun zc138 => ?_)
        · refine gf_iinc (1) dX10_init_150 rfl rfl (Nat.le_of_ble_eq_true rfl) ?_
          refine gf_goto 83 dX10_init_153 rfl ?_
          rw [show tmB kd z jz = z from (if_neg zc102).trans ((if_neg zc120).trans (if_neg (fun w => by have q := zc138; rw [fa_lt] at q; rw [fa_le] at w; omega)))] at ih1
          exact gf_lw ih1 ⟨rfl, rfl, rfl, rfl, rfl, lvE (nI_1 jz), trivial⟩
        · refine gf_aload_n 0 dX10_init_141 rfl rfl ?_
          refine gf_getR flX10_35 rfl dX10_init_142 hb hr ?_
          refine gf_iload dX10_init_145 rfl ?_
          refine gf_iald ct dX10_init_147 hk.1 hk.2 rfl (by omega) (by omega) ?_
          rw [hkj]
          refine gf_istore dX10_init_148 (Nat.le_of_ble_eq_true rfl) ?_
          refine gf_iinc (1) dX10_init_150 rfl rfl (Nat.le_of_ble_eq_true rfl) ?_
          refine gf_goto 83 dX10_init_153 rfl ?_
          rw [show tmB kd z jz = (z.1, z.2.1, kd jz) from (if_neg zc102).trans ((if_neg zc120).trans (if_pos (by have q := zc138; rw [fa_lt] at q; rw [fa_le]; omega)))] at ih1
          exact gf_lw ih1 ⟨rfl, rfl, rfl, rfl, rfl, lvE (nI_1 jz), trivial⟩
      · refine gf_iload dX10_init_123 rfl ?_
        refine gf_istore_n 3 dX10_init_125 rfl (Nat.le_of_ble_eq_true rfl) ?_
        refine gf_goto 150 dX10_init_126 rfl ?_
        refine gf_iinc (1) dX10_init_150 rfl rfl (Nat.le_of_ble_eq_true rfl) ?_
        refine gf_goto 83 dX10_init_153 rfl ?_
        rw [show tmB kd z jz = (z.1, nI jz, z.2.2) from (if_neg zc102).trans (if_pos zc120)] at ih1
        exact gf_lw ih1 ⟨rfl, rfl, rfl, rfl, rfl, lvE (nI_1 jz), trivial⟩
    · refine gf_iload dX10_init_105 rfl ?_
      refine gf_istore_n 2 dX10_init_107 rfl (Nat.le_of_ble_eq_true rfl) ?_
      refine gf_goto 150 dX10_init_108 rfl ?_
      refine gf_iinc (1) dX10_init_150 rfl rfl (Nat.le_of_ble_eq_true rfl) ?_
      refine gf_goto 83 dX10_init_153 rfl ?_
      rw [show tmB kd z jz = (nI jz, z.2.1, z.2.2) from if_pos zc102] at ih1
      exact gf_lw ih1 ⟨rfl, rfl, rfl, rfl, rfl, lvE (nI_1 jz), trivial⟩
theorem gr_hcp_b {h : hp_T} {a n0 N b k : Nat} {v : Option Nat} (hb : 333 ≤ b) (hn : 333 ≤ hp_n h) (g : gr h) : gr (hp_setR (hcp h a n0 N) b k v) := by
  have g2 := gr_hcp (a := a) (n0 := n0) (N := N) g hn
  refine ⟨g2.1, g2.2.1, fun i q hq => ?_⟩
  have hi : q.1 < 333 := of_decide_eq_true (List.all_eq_true.mp (show gr_rl.all (fun z => decide (z.1 < 333)) = true by decide +kernel) q (List.mem_of_getElem? hq))
  show up2 (hp_r (hcp h a n0 N)) b k v q.1 q.2.1 = _
  rw [up2_a _ _ (by omega)]
  exact g2.2.2 i q hq
theorem e_X10_init (E : gE) {d : Nat} (hd : 3 ≤ d) {b ct cl : Nat} (h : hp_T) (hG : gr h) (hb : hp_tag h b = 10) (hbn : b < hp_n h) (hb3 : 333 ≤ b) (hct : hp_i h 150 3 = nI ct) (hct2 : ct ≤ 24) (hcl : hp_i h 150 4 = nI cl) (hcl2 : cl ≤ 600) : ev E mX10_init d [.ref (E.1 + b), .ref (E.1 + 150)] h none (tmH h b ct cl) := by
  have hn3 : 333 ≤ hp_n h := by omega
  refine ev_of rfl (fun _ => rfl) (Nat.le_of_ble_eq_true rfl) ?_
  refine gf_aload_n 0 dX10_init_0 rfl rfl ?_
  refine gf_objInit lkX10_3 kObj.1 kObj.2 dX10_init_1 (by omega) (Nat.le_of_ble_eq_true rfl) ?_
  refine gf_aload_n 0 dX10_init_4 rfl rfl ?_
  refine gf_aload_n 1 dX10_init_5 rfl rfl ?_
  refine gf_getI flX10_9 rfl dX10_init_6 (gt_150 hG) ?_
  rw [hct]
  refine gf_putIF flX10_15 rfl rfl rfl rfl dX10_init_9 hb ⟨rfl, rfl⟩ ?_
  unfold tmH
  rw [show hp_i h 152 = hp_i (tmA h b ct) 152 from (hp_upne (f := hp_i h) (by omega)).symm]
  have g1 : gr (tmA h b ct) := hG
  have b1 : hp_tag (tmA h b ct) b = 10 := hb
  have n1 : hp_n (tmA h b ct) = hp_n h := rfl
  have r1 : hp_i (tmA h b ct) 150 = hp_i h 150 := hp_upne (by omega)
  change gf _ _ _ _ _ _ (tmA h b ct) _ _
  generalize tmA h b ct = ha at g1 b1 n1 r1 ⊢
  refine gf_aload_n 0 dX10_init_12 rfl rfl ?_
  refine gf_aload_n 1 dX10_init_13 rfl rfl ?_
  refine gf_getR flX10_18 rfl dX10_init_14 (gt_150 g1) (gp_150_5 g1) ?_
  refine gf_aload_n 1 dX10_init_17 rfl rfl ?_
  refine gf_getI flX10_22 rfl dX10_init_18 (gt_150 g1) ?_
  rw [r1, hcl]
  refine gf_callS cmJ7_copyOf_59c91 lkX10_25 stJ7_copyOf_59c91 dX10_init_21 (d1 := d - 1) (by omega) (e_copyOf E (by omega) (N := cl) ha (gt_151 g1) (gl_151 g1) (by have := g1.1; omega) (by omega) (by omega)) rfl rfl (Nat.le_of_ble_eq_true rfl) ?_
  refine gf_putRF flX10_31 rfl rfl rfl rfl dX10_init_24 ((hcp_ne ha 151 600 cl (by omega)).1.trans b1) ⟨rfl, rfl⟩ ?_
  have g2 : gr (tmC ha b cl) := gr_hcp_b (by omega) (by omega) g1
  have b2 : hp_tag (tmC ha b cl) b = 10 := (hcp_ne ha 151 600 cl (by omega)).1.trans b1
  have n2 : hp_n (tmC ha b cl) = hp_n h + 1 := congrArg (· + 1) n1
  have r2 : hp_i (tmC ha b cl) 150 = hp_i h 150 := (hcp_ne ha 151 600 cl (by omega)).2.2.1.trans r1
  rw [show hp_i ha 152 = hp_i (tmC ha b cl) 152 from (hcp_ne ha 151 600 cl (by omega)).2.2.1.symm]
  change gf _ _ _ _ _ _ (tmC ha b cl) _ _
  generalize tmC ha b cl = hc at g2 b2 n2 r2 ⊢
  refine gf_aload_n 0 dX10_init_27 rfl rfl ?_
  refine gf_aload_n 1 dX10_init_28 rfl rfl ?_
  refine gf_getR flX10_32 rfl dX10_init_29 (gt_150 g2) (gp_150_6 g2) ?_
  refine gf_aload_n 1 dX10_init_32 rfl rfl ?_
  refine gf_getI flX10_9 rfl dX10_init_33 (gt_150 g2) ?_
  rw [r2, hct]
  refine gf_callS cmJ7_copyOf_59c91 lkX10_25 stJ7_copyOf_59c91 dX10_init_36 (d1 := d - 1) (by omega) (e_copyOf E (by omega) (N := ct) hc (gt_152 g2) (gl_152 g2) (by have := g2.1; omega) (by omega) (by omega)) rfl rfl (Nat.le_of_ble_eq_true rfl) ?_
  refine gf_putRF flX10_35 rfl rfl rfl rfl dX10_init_39 ((hcp_ne hc 152 24 ct (by omega)).1.trans b2) ⟨rfl, rfl⟩ ?_
  have g3 : gr (tmK hc b ct) := gr_hcp_b (by omega) (by omega) g2
  have b3 : hp_tag (tmK hc b ct) b = 10 := (hcp_ne hc 152 24 ct (by omega)).1.trans b2
  have n3 : hp_n (tmK hc b ct) = hp_n hc + 1 := rfl
  have r3 : hp_i (tmK hc b ct) 150 = hp_i h 150 := (hcp_ne hc 152 24 ct (by omega)).2.2.1.trans r2
  have k3 : hp_r (tmK hc b ct) b 2 = some (hp_n hc) := up2_s _ _ _ _
  obtain ⟨t3, l3, i3⟩ := hcp_at hc 152 24 ct
  change hp_tag (tmK hc b ct) (hp_n hc) = 14 at t3
  change hp_len (tmK hc b ct) (hp_n hc) = ct at l3
  change hp_i (tmK hc b ct) (hp_n hc) = cpyF (hp_i hc 152) 24 ct at i3
  rw [← i3]
  change gf _ _ _ _ _ _ (tmK hc b ct) _ _
  generalize hq3 : hp_n hc = c3 at n3 k3 t3 l3 i3 ⊢
  generalize tmK hc b ct = hk at g3 b3 n3 r3 k3 t3 l3 i3 ⊢
  refine gf_aload_n 0 dX10_init_42 rfl rfl ?_
  refine gf_aload_n 1 dX10_init_43 rfl rfl ?_
  refine gf_getR flX10_36 rfl dX10_init_44 (gt_150 g3) (gp_150_7 g3) ?_
  refine gf_aload_n 1 dX10_init_47 rfl rfl ?_
  refine gf_getI flX10_9 rfl dX10_init_48 (gt_150 g3) ?_
  rw [r3, hct]
  refine gf_iconst (1) dX10_init_51 rfl ?_
  refine gf_iadd dX10_init_52 ?_
  rw [nI_1]
  refine gf_callS cmJ7_copyOf_59c91 lkX10_25 stJ7_copyOf_59c91 dX10_init_53 (d1 := d - 1) (by omega) (e_copyOf E (by omega) (N := ct + 1) hk (gt_153 g3) (gl_153 g3) (by have := g3.1; omega) (by omega) (by omega)) rfl rfl (Nat.le_of_ble_eq_true rfl) ?_
  refine gf_putRF flX10_39 rfl rfl rfl rfl dX10_init_56 ((hcp_ne hk 153 24 (ct + 1) (by omega)).1.trans b3) ⟨rfl, rfl⟩ ?_
  have q4 := hcp_ne hk 153 24 (ct + 1) (x := b) (by omega)
  have q5 := hcp_ne hk 153 24 (ct + 1) (x := 150) (by omega)
  have q6 := hcp_ne hk 153 24 (ct + 1) (x := c3) (by omega)
  have q7 := hcp_at hk 153 24 (ct + 1)
  have g4 : gr (hp_setR (hcp hk 153 24 (ct + 1)) b 3 (some (hp_n hk))) := gr_hcp_b (by omega) (by omega) g3
  have b4 : hp_tag (hp_setR (hcp hk 153 24 (ct + 1)) b 3 (some (hp_n hk))) b = 10 := q4.1.trans b3
  have f4 : hp_r (hp_setR (hcp hk 153 24 (ct + 1)) b 3 (some (hp_n hk))) b 3 = some (hp_n hk) := up2_s _ _ _ _
  have r4 : hp_i (hp_setR (hcp hk 153 24 (ct + 1)) b 3 (some (hp_n hk))) 150 = hp_i h 150 := q5.2.2.1.trans r3
  have k4 : hp_r (hp_setR (hcp hk 153 24 (ct + 1)) b 3 (some (hp_n hk))) b 2 = some c3 := (up2_k _ _ (by decide)).trans ((congrFun q4.2.2.2.2 2).trans k3)
  unfold tmF
  refine gf_aload_n 0 dX10_init_59 rfl rfl ?_
  refine gf_getR flX10_39 rfl dX10_init_60 b4 f4 ?_
  refine gf_aload_n 1 dX10_init_63 rfl rfl ?_
  refine gf_getI flX10_9 rfl dX10_init_64 (gt_150 g4) ?_
  rw [r4, hct]
  refine gf_aload_n 1 dX10_init_67 rfl rfl ?_
  refine gf_getI flX10_22 rfl dX10_init_68 (gt_150 g4) ?_
  rw [r4, hcl]
  refine gf_iast (ct + 1) dX10_init_71 q7.1 q7.2.1 rfl (by omega) (by omega) ?_
  refine gf_iconst (-1) dX10_init_72 rfl ?_
  refine gf_istore_n 2 dX10_init_73 rfl (Nat.le_of_ble_eq_true rfl) ?_
  refine gf_iconst (-1) dX10_init_74 rfl ?_
  refine gf_istore_n 3 dX10_init_75 rfl (Nat.le_of_ble_eq_true rfl) ?_
  refine gf_bipush (21) dX10_init_76 rfl ?_
  refine gf_istore dX10_init_78 (Nat.le_of_ble_eq_true rfl) ?_
  refine gf_iconst (0) dX10_init_80 rfl ?_
  refine gf_istore dX10_init_81 (Nat.le_of_ble_eq_true rfl) ?_
  refine gf_lw (l_X10 E (ct := ct) (ka := c3) (kd := hp_i hk c3) _ ?_ ?_ ?_ ?_ hct2 ?_ ct 0 (by omega)) ⟨rfl, rfl, rfl, rfl, rfl, rfl, trivial⟩
  · exact b4
  · exact k4
  · exact ⟨q6.1.trans t3, q6.2.1.trans l3⟩
  · intro i _
    show up2 (hp_i (hcp hk 153 24 (ct + 1))) (hp_n hk) ct (nI cl) c3 i = _
    rw [up2_a _ _ (by omega), q6.2.2.1]
  · refine gf_aload_n 0 dX10_init_156 rfl rfl ?_
    refine gf_iload_n 2 dX10_init_157 rfl rfl ?_
    refine gf_putIF flX10_40 rfl rfl rfl rfl dX10_init_158 b4 ⟨rfl, rfl⟩ ?_
    refine gf_aload_n 0 dX10_init_161 rfl rfl ?_
    refine gf_iload_n 3 dX10_init_162 rfl rfl ?_
    refine gf_putIF flX10_43 rfl rfl rfl rfl dX10_init_163 b4 ⟨rfl, rfl⟩ ?_
    refine gf_aload_n 0 dX10_init_166 rfl rfl ?_
    refine gf_iload dX10_init_167 rfl ?_
    refine gf_putIF flX10_46 rfl rfl rfl rfl dX10_init_169 b4 ⟨rfl, rfl⟩ ?_
    exact gf_vretE dX10_init_172 rfl (rfl)
