/-! ===== the class: read, terms ===== -/
theorem f_rdNL : (Jvm.Cond.classLink "PlateCity$Reader" (63 : Nat) "PlateCity$Terms") ∈ tt := mt_4 (List.mem_of_getElem? (i := 80) rfl) rfl
theorem f_rdNI : (Jvm.Cond.instantiable "PlateCity$Terms" (7 : Nat)) ∈ tt := mt_4 (List.mem_of_getElem? (i := 81) rfl) rfl
def rdZ0 (Z : rZ) : rZ := up2 (up2 (up2 (up2 (up2 Z 0 1 0) 0 2 (-1)) 0 3 0) 0 4 0) 0 13 0
def rdZ1 (L : Nat) (Z : rZ) : rZ := scZ L (rdZ0 Z) L
def stL (S : rZ → Bool × rZ) : Nat → rZ → rZ
  | 0, Z => Z
  | n + 1, Z => if Z 0 1 = 0 ∧ ¬ rtok Z = 24 then stL S n (S Z).2 else Z
theorem stL_I {S : rZ → Bool × rZ} (hS : ∀ Z, rdI Z → rdI (S Z).2) : ∀ n Z, rdI Z → rdI (stL S n Z)
  | 0, _, I => I
  | n + 1, Z, I => by
    unfold stL
    split
    · exact stL_I hS n _ (hS Z I)
    · exact I
theorem rdZ1_I {L : Nat} {Z : rZ} (I : txI Z L) : rdI (rdZ1 L Z) := by
  have hL := I.2.1
  obtain ⟨h4, h0, ⟨c, hc, h12⟩, -⟩ := sc_all (L := L) (rdZ0 Z) L hL
  unfold rdZ1
  refine ⟨0, c, 0, 0, ?_, Nat.zero_le _, h12, by omega, ?_, by omega, ?_, by omega⟩
  · rw [h0 13 (by decide)]; exact up2_s _ _ _ _
  · rw [h0 4 (by decide)]; exact (up2_k _ _ (by decide)).trans (up2_s _ _ _ _)
  · rw [h0 3 (by decide)]; exact (up2_k _ _ (by decide)).trans ((up2_k _ _ (by decide)).trans (up2_s _ _ _ _))
theorem rdZ0_tx {L : Nat} {Z : rZ} (I : txI Z L) : txI (rdZ0 Z) L := I
/-- the terms read, as an object -/
def rdH (h : hp_T) (Y : rZ) : hp_T := tmH (hp_new (hb h 150 8 Y) 10 0 (hp_N 10)) (hp_n h) (Y 0 3).toNatClampNeg (Y 0 4).toNatClampNeg
def rdE (E : gE) (h : hp_T) (Y : rZ) : Value := if Y 0 1 = 0 then .ref (E.1 + hp_n h) else .null
def rdF (h : hp_T) (Y : rZ) : hp_T := if Y 0 1 = 0 then rdH h Y else hb h 150 8 Y
theorem gr_nw {h : hp_T} {t len sl : Nat} (g : gr h) : gr (hp_new h t len sl) := by
  have hn := g.1
  refine ⟨Nat.le_succ_of_le g.1, fun i q hq => ?_, fun i q hq => ?_⟩
  · have hi : i ≠ hp_n h := by
      have : i < gr_tl.length := (List.getElem?_eq_some_iff.mp hq).1
      have e : gr_tl.length = 333 := by decide +kernel
      omega
    obtain ⟨q1, q2, -⟩ := hp_new_ne h t len sl hi
    exact ⟨q1.trans (g.2.1 i q hq).1, q2.trans (g.2.1 i q hq).2⟩
  · have hi : q.1 ≠ hp_n h := by
      have : q.1 < 333 := of_decide_eq_true (List.all_eq_true.mp (show gr_rl.all (fun z => decide (z.1 < 333)) = true by decide +kernel) q (List.mem_of_getElem? hq))
      omega
    obtain ⟨-, -, -, -, q5⟩ := hp_new_ne h t len sl hi
    rw [q5]
    exact g.2.2 i q hq
theorem l_read (E : gE) {d : Nat} (hd : 6 ≤ d) (S : rZ → Bool × rZ) (h : hp_T) (hG : gr h) (hS : pcO E mX9_readStatement (d - 1) [] S h) : ∀ (n : Nat), n ≤ 25 → ∀ Z, rdI Z → gf E mX9_read d 31 [(0, .ref (E.1 + 150)), (1, .int (nI (25 - n)))] [] (hb h 150 8 Z) (some (rdE E h (stL S n Z))) (rdF h (stL S n Z)) := by
  intro n
  induction n with
  | zero =>
    intro _ Z I
    change gf _ _ _ _ _ _ _ (some (rdE E h Z)) (rdF h Z)
    refine gf_iload_n 1 dX9_read_31 rfl rfl ?_
    refine gf_bipush (24) dX9_read_32 rfl ?_
    refine gf_icmp_gt 64 dX9_read_34 rfl (fun _ => ?_) (fun q => absurd (nI_lt (a := 24) (by omega) (by omega)) q)
    have IY := I
    refine gf_aload_n 0 dX9_read_64 rfl rfl ?_
    refine gf_getI flX9_40 rfl dX9_read_65 (gt_150 hG) ?_
    refine gf_if_ne 82 dX9_read_68 rfl (fun zc68 => ?_) (fun zc68 => ?_)
    · have hf0 : ¬ Z 0 1 = 0 := zc68
      refine gf_null dX9_read_82 ?_
      rw [show rdE E h Z = .null from if_neg hf0, show rdF h Z = hb h 150 8 Z from if_neg hf0]
      exact gf_aret dX9_read_83 rfl (Or.inl rfl)
    · have hf0 : Z 0 1 = 0 := zc68
      refine gf_new 10 (by decide) f_rdNL f_rdNI icX10 dX9_read_71 ?_
      refine gf_dup dX9_read_74 rfl ?_
      refine gf_aload_n 0 dX9_read_75 rfl rfl ?_
      obtain ⟨a, c, l, t, k1, k2, k3, k4, k5, k6, k7, k8⟩ := IY
      have hn3 := hG.1
      obtain ⟨q1, q2, q3, q4, q5⟩ := hp_new_ne (hb h 150 8 Z) 10 0 (hp_N 10) (x := 150) (show 150 ≠ hp_n h by omega)
      have gN : gr (hp_new (hb h 150 8 Z) 10 0 (hp_N 10)) := gr_nw (h := hb h 150 8 Z) hG
      refine gf_callI cmX10_init rfl lkX9_65 imX10_init rfl dX9_read_76 (d1 := d - 1) (by omega) (e_X10_init E (by omega) (b := hp_n h) (ct := t) (cl := l) (hp_new (hb h 150 8 Z) 10 0 (hp_N 10)) gN (hp_new_t (hb h 150 8 Z) 10 0 _) (Nat.lt_succ_self _) hn3 ((congrFun q3 3).trans k7) k8 ((congrFun q3 4).trans k5) k6) rfl rfl (Nat.le_of_ble_eq_true rfl) ?_
      refine gf_goto 83 dX9_read_79 rfl ?_
      have eH : rdF h Z = tmH (hp_new (hb h 150 8 Z) 10 0 (hp_N 10)) (hp_n h) t l := (if_pos hf0).trans (by unfold rdH; rw [k7, k5, nI_clamp (by omega), nI_clamp (by omega)])
      rw [show rdE E h Z = .ref (E.1 + hp_n h) from if_pos hf0, eH]
      exact gf_aret dX9_read_83 rfl (Or.inr ⟨_, rfl⟩)
  | succ n ih =>
    intro hn Z I
    refine gf_iload_n 1 dX9_read_31 rfl rfl ?_
    refine gf_bipush (24) dX9_read_32 rfl ?_
    refine gf_icmp_gt 64 dX9_read_34 rfl (fun q => absurd q (fun q => nI_nlt (b := 25 - (n + 1)) (a := 24) (by omega) (by omega) q)) (fun _ => ?_)
    refine gf_aload_n 0 dX9_read_37 rfl rfl ?_
    refine gf_getI flX9_40 rfl dX9_read_38 (gt_150 hG) ?_
    refine gf_if_ne 64 dX9_read_41 rfl (fun zc41 => ?_) (fun zc41 => ?_)
    · rw [show stL S (n + 1) Z = Z from if_neg (fun w => zc41 w.1)]
      have IY := I
      refine gf_aload_n 0 dX9_read_64 rfl rfl ?_
      refine gf_getI flX9_40 rfl dX9_read_65 (gt_150 hG) ?_
      refine gf_if_ne 82 dX9_read_68 rfl (fun zc68 => ?_) (fun zc68 => ?_)
      · have hf0 : ¬ Z 0 1 = 0 := zc68
        refine gf_null dX9_read_82 ?_
        rw [show rdE E h Z = .null from if_neg hf0, show rdF h Z = hb h 150 8 Z from if_neg hf0]
        exact gf_aret dX9_read_83 rfl (Or.inl rfl)
      · have hf0 : Z 0 1 = 0 := zc68
        refine gf_new 10 (by decide) f_rdNL f_rdNI icX10 dX9_read_71 ?_
        refine gf_dup dX9_read_74 rfl ?_
        refine gf_aload_n 0 dX9_read_75 rfl rfl ?_
        obtain ⟨a, c, l, t, k1, k2, k3, k4, k5, k6, k7, k8⟩ := IY
        have hn3 := hG.1
        obtain ⟨q1, q2, q3, q4, q5⟩ := hp_new_ne (hb h 150 8 Z) 10 0 (hp_N 10) (x := 150) (show 150 ≠ hp_n h by omega)
        have gN : gr (hp_new (hb h 150 8 Z) 10 0 (hp_N 10)) := gr_nw (h := hb h 150 8 Z) hG
        refine gf_callI cmX10_init rfl lkX9_65 imX10_init rfl dX9_read_76 (d1 := d - 1) (by omega) (e_X10_init E (by omega) (b := hp_n h) (ct := t) (cl := l) (hp_new (hb h 150 8 Z) 10 0 (hp_N 10)) gN (hp_new_t (hb h 150 8 Z) 10 0 _) (Nat.lt_succ_self _) hn3 ((congrFun q3 3).trans k7) k8 ((congrFun q3 4).trans k5) k6) rfl rfl (Nat.le_of_ble_eq_true rfl) ?_
        refine gf_goto 83 dX9_read_79 rfl ?_
        have eH : rdF h Z = tmH (hp_new (hb h 150 8 Z) 10 0 (hp_N 10)) (hp_n h) t l := (if_pos hf0).trans (by unfold rdH; rw [k7, k5, nI_clamp (by omega), nI_clamp (by omega)])
        rw [show rdE E h Z = .ref (E.1 + hp_n h) from if_pos hf0, eH]
        exact gf_aret dX9_read_83 rfl (Or.inr ⟨_, rfl⟩)
    · refine gf_aload_n 0 dX9_read_44 rfl rfl ?_
      refine gf_callV cmX9_token lkX9_55 imX9_token seX9_token ⟨rfl, by decide⟩ dX9_read_45 (d1 := d - 1) (by omega) (gt_150 hG) (e_X9_token E (by omega) h hG Z I) rfl rfl (Nat.le_of_ble_eq_true rfl) ?_
      refine gf_bipush (24) dX9_read_48 rfl ?_
      refine gf_icmp_eq 64 dX9_read_50 rfl (fun zc50 => ?_) (fun zc50 => ?_)
      · rw [show stL S (n + 1) Z = Z from if_neg (fun w => w.2 zc50)]
        have IY := I
        refine gf_aload_n 0 dX9_read_64 rfl rfl ?_
        refine gf_getI flX9_40 rfl dX9_read_65 (gt_150 hG) ?_
        refine gf_if_ne 82 dX9_read_68 rfl (fun zc68 => ?_) (fun zc68 => ?_)
        · have hf0 : ¬ Z 0 1 = 0 := zc68
          refine gf_null dX9_read_82 ?_
          rw [show rdE E h Z = .null from if_neg hf0, show rdF h Z = hb h 150 8 Z from if_neg hf0]
          exact gf_aret dX9_read_83 rfl (Or.inl rfl)
        · have hf0 : Z 0 1 = 0 := zc68
          refine gf_new 10 (by decide) f_rdNL f_rdNI icX10 dX9_read_71 ?_
          refine gf_dup dX9_read_74 rfl ?_
          refine gf_aload_n 0 dX9_read_75 rfl rfl ?_
          obtain ⟨a, c, l, t, k1, k2, k3, k4, k5, k6, k7, k8⟩ := IY
          have hn3 := hG.1
          obtain ⟨q1, q2, q3, q4, q5⟩ := hp_new_ne (hb h 150 8 Z) 10 0 (hp_N 10) (x := 150) (show 150 ≠ hp_n h by omega)
          have gN : gr (hp_new (hb h 150 8 Z) 10 0 (hp_N 10)) := gr_nw (h := hb h 150 8 Z) hG
          refine gf_callI cmX10_init rfl lkX9_65 imX10_init rfl dX9_read_76 (d1 := d - 1) (by omega) (e_X10_init E (by omega) (b := hp_n h) (ct := t) (cl := l) (hp_new (hb h 150 8 Z) 10 0 (hp_N 10)) gN (hp_new_t (hb h 150 8 Z) 10 0 _) (Nat.lt_succ_self _) hn3 ((congrFun q3 3).trans k7) k8 ((congrFun q3 4).trans k5) k6) rfl rfl (Nat.le_of_ble_eq_true rfl) ?_
          refine gf_goto 83 dX9_read_79 rfl ?_
          have eH : rdF h Z = tmH (hp_new (hb h 150 8 Z) 10 0 (hp_N 10)) (hp_n h) t l := (if_pos hf0).trans (by unfold rdH; rw [k7, k5, nI_clamp (by omega), nI_clamp (by omega)])
          rw [show rdE E h Z = .ref (E.1 + hp_n h) from if_pos hf0, eH]
          exact gf_aret dX9_read_83 rfl (Or.inr ⟨_, rfl⟩)
      · refine gf_aload_n 0 dX9_read_53 rfl rfl ?_
        refine gf_callV cmX9_readStatement lkX9_59 imX9_readStatement seX9_readStatement ⟨rfl, by decide⟩ dX9_read_54 (d1 := d - 1) (by omega) (gt_150 hG) ((hS Z I).1) rfl rfl (Nat.le_of_ble_eq_true rfl) ?_
        refine gf_pop dX9_read_57 rfl ?_
        refine gf_iinc (1) dX9_read_58 rfl rfl (Nat.le_of_ble_eq_true rfl) ?_
        refine gf_goto 31 dX9_read_61 rfl ?_
        rw [show stL S (n + 1) Z = stL S n (S Z).2 from if_pos ⟨zc41, zc50⟩]
        exact gf_lw (ih (by omega) _ (hS Z I).2) ⟨rfl, lvE (show nI (25 - (n + 1)) + 1 = nI (25 - n) from by rw [nI_1]; exact congrArg nI (by omega)), trivial⟩
theorem e_X9_read (E : gE) {d : Nat} (hd : 6 ≤ d) {L : Nat} (S : rZ → Bool × rZ) (h : hp_T) (hG : gr h) (hS : pcO E mX9_readStatement (d - 1) [] S h) (Z : rZ) (I : txI Z L) : ev E mX9_read d [.ref (E.1 + 150)] (hb h 150 8 Z) (some (rdE E h (stL S 25 (rdZ1 L Z)))) (rdF h (stL S 25 (rdZ1 L Z))) := by
  refine ev_of rfl (fun q => absurd q (by decide)) (Nat.le_of_ble_eq_true rfl) ?_
  refine gf_aload_n 0 dX9_read_0 rfl rfl ?_
  refine gf_iconst (0) dX9_read_1 rfl ?_
  refine gf_putI flX9_40 rfl rfl dX9_read_2 (gt_150 hG) ⟨rfl, rfl⟩ ?_
  rw [rd_0]
  refine gf_aload_n 0 dX9_read_5 rfl rfl ?_
  refine gf_iconst (-1) dX9_read_6 rfl ?_
  refine gf_putI flX9_9 rfl rfl dX9_read_7 (gt_150 hG) ⟨rfl, rfl⟩ ?_
  rw [rd_0]
  refine gf_aload_n 0 dX9_read_10 rfl rfl ?_
  refine gf_iconst (0) dX9_read_11 rfl ?_
  refine gf_putI flX9_43 rfl rfl dX9_read_12 (gt_150 hG) ⟨rfl, rfl⟩ ?_
  rw [rd_0]
  refine gf_aload_n 0 dX9_read_15 rfl rfl ?_
  refine gf_iconst (0) dX9_read_16 rfl ?_
  refine gf_putI flX9_46 rfl rfl dX9_read_17 (gt_150 hG) ⟨rfl, rfl⟩ ?_
  rw [rd_0]
  refine gf_aload_n 0 dX9_read_20 rfl rfl ?_
  refine gf_iconst (0) dX9_read_21 rfl ?_
  refine gf_putI flX9_49 rfl rfl dX9_read_22 (gt_150 hG) ⟨rfl, rfl⟩ ?_
  rw [rd_0]
  change gf _ _ _ _ _ _ (hb h 150 8 (rdZ0 Z)) _ _
  refine gf_aload_n 0 dX9_read_25 rfl rfl ?_
  refine gf_callV cmX9_scan lkX9_52 imX9_scan seX9_scan ⟨rfl, by decide⟩ dX9_read_26 (d1 := d - 1) (by omega) (gt_150 hG) (e_X9_scan E (by omega) h hG (rdZ0 Z) (rdZ0_tx I)) rfl rfl (Nat.le_of_ble_eq_true rfl) ?_
  change gf _ _ _ _ _ _ (hb h 150 8 (rdZ1 L Z)) _ _
  refine gf_iconst (0) dX9_read_29 rfl ?_
  refine gf_istore_n 1 dX9_read_30 rfl (Nat.le_of_ble_eq_true rfl) ?_
  exact gf_lw (l_read E (by omega) S h hG hS 25 (by omega) (rdZ1 L Z) (rdZ1_I I)) ⟨rfl, rfl, trivial⟩
