/-! ===== the class's Fire: the engines are driven ===== -/
def seek (hp : Nat → Int32) (w g : Nat) (off : Int32) (X : Nat → Nat → Int32) (e : Nat) : Nat → Nat → Int32 := up2 X 10 e (itN (neaB X hp w (X 9 e).toNatClampNeg off) (-1, 120) (w * g)).1
def drv1 (F : Nat → Nat → Int32) (w g : Nat) (X : Nat → Nat → Int32) (e : Nat) : Nat → Nat → Int32 := if X 10 e = -1 then seek (F 170) w g (1 <<< (F 146 e &&& 31)) X e else if X 3 (X 10 e).toNatClampNeg = 1 then X else seek (F 170) w g (1 <<< (F 146 e &&& 31)) X e
def drv2 (F : Nat → Nat → Int32) (t : Int32) (X : Nat → Nat → Int32) (e : Nat) : Nat → Nat → Int32 := if X 10 e = -1 then X else if ¬ gonS F (X 9 e).toNatClampNeg (X 10 e).toNatClampNeg (F 148 e) = X 10 e then up2 X 9 e (gonS F (X 9 e).toNatClampNeg (X 10 e).toNatClampNeg (F 148 e)) else pouX (up2 X 9 e (gonS F (X 9 e).toNatClampNeg (X 10 e).toNatClampNeg (F 148 e))) e (X 10 e).toNatClampNeg (F 149 e) t
def drvB (F : Nat → Nat → Int32) (w g : Nat) (t : Int32) (X : Nat → Nat → Int32) (e : Nat) : Nat → Nat → Int32 := drv2 F t (drv1 F w g X e) e
/-- an aim: none, or a cell -/
def aimOk (n : Nat) (x : Int32) : Prop := x = -1 ∨ ∃ c, c < n ∧ x = nI c
def drvI (m n : Nat) (X : Nat → Nat → Int32) : Prop := X 0 1 = nI m ∧ ∀ e, e < m → (∃ a, a < n ∧ X 9 e = nI a) ∧ aimOk n (X 10 e)
theorem near_ok (X : Nat → Nat → Int32) (hp : Nat → Int32) (w a : Nat) (off : Int32) (N : Nat) : ∀ kx, kx ≤ N → aimOk N (itN (neaB X hp w a off) (-1, 120) kx).1
  | 0, _ => Or.inl rfl
  | kx + 1, hk => by
    have ih := near_ok X hp w a off N kx (by omega)
    show aimOk N (neaB X hp w a off (itN (neaB X hp w a off) (-1, 120) kx) kx).1
    unfold neaB
    split
    · exact Or.inr ⟨kx, by omega, rfl⟩
    · exact ih
theorem pou_9 (X : Nat → Nat → Int32) (e c : Nat) (wt t : Int32) : pouX X e c wt t 9 = X 9 ∧ pouX X e c wt t 10 = X 10 ∧ pouX X e c wt t 0 = X 0 := by
  refine ⟨?_, ?_, ?_⟩ <;> (funext i; unfold pouX; (try dsimp only); repeat' split)
  all_goals simp [up2]
theorem seek_I {m n : Nat} (hp : Nat → Int32) (w g : Nat) (off : Int32) (X : Nat → Nat → Int32) (e : Nat) (hn : n = w * g) (I : drvI m n X) : drvI m n (seek hp w g off X e) := by
  refine ⟨I.1, fun i hi => ⟨(I.2 i hi).1, ?_⟩⟩
  unfold seek
  by_cases q : i = e
  · rw [q, up2_s, hn]
    exact near_ok X hp w _ off (w * g) (w * g) (Nat.le_refl _)
  · rw [up2_k _ _ q]
    exact (I.2 i hi).2
theorem drv1_I {m n : Nat} (F : Nat → Nat → Int32) (w g : Nat) (X : Nat → Nat → Int32) (e : Nat) (hn : n = w * g) (I : drvI m n X) : drvI m n (drv1 F w g X e) := by
  unfold drv1
  split
  · exact seek_I _ w g _ X e hn I
  · split
    · exact I
    · exact seek_I _ w g _ X e hn I
theorem drv2_I {F : Nat → Nat → Int32} {m w g : Nat} (C : cty F w g) (hgo : ∀ e, e < m → ∃ k, k ≤ 9 ∧ F 148 e = nI k) (t : Int32) (X : Nat → Nat → Int32) (e : Nat) (he : e < m) (I : drvI m (w * g) X) : drvI m (w * g) (drv2 F t X e) := by
  have hn := cty_n C
  obtain ⟨⟨a, ha, eA⟩, hO⟩ := I.2 e he
  unfold drv2
  split
  · exact I
  · rename_i q
    rcases hO with hO | ⟨c, hc, eC⟩
    · exact absurd hO q
    · obtain ⟨k, hk, eK⟩ := hgo e he
      obtain ⟨c1, h1, h2, -⟩ := gon_e C ha hc hk
      rw [eA, eC, nI_clamp (by omega), nI_clamp (by omega), eK, h2]
      have J : drvI m (w * g) (up2 X 9 e (nI c1)) := by
        refine ⟨I.1, fun i hi => ⟨?_, (I.2 i hi).2⟩⟩
        by_cases qi : i = e
        · rw [qi, up2_s]
          exact ⟨c1, h1, rfl⟩
        · rw [up2_k _ _ qi]
          exact (I.2 i hi).1
      split
      · exact J
      · obtain ⟨p9, p10, p0⟩ := pou_9 (up2 X 9 e (nI c1)) e c (F 149 e) t
        refine ⟨by rw [p0]; exact J.1, fun i hi => ?_⟩
        rw [p9, p10]
        exact J.2 i hi
theorem drvB_I {F : Nat → Nat → Int32} {m w g : Nat} (C : cty F w g) (hgo : ∀ e, e < m → ∃ k, k ≤ 9 ∧ F 148 e = nI k) (t : Int32) {X : Nat → Nat → Int32} (I : drvI m (w * g) X) : ∀ kx, kx ≤ m → drvI m (w * g) (itN (drvB F w g t) X kx)
  | 0, _ => I
  | kx + 1, hk => drv2_I C hgo t _ kx (by omega) (drv1_I F w g _ kx rfl (drvB_I C hgo t I kx (by omega)))
theorem s35_174 (E : gE) {d : Nat} (hd : 3 ≤ d) {t0 m : Nat} (h : hp_T) (hG : gr h) (X : Nat → Nat → Int32) {w g : Nat} (C : cty (hp_i h) w g) (hm : m ≤ 12) {e a : Nat} (he : e < m) (ha : a < w * g) (hS : X 9 e = nI a) {v : Option Value} {hz : hp_T} (K : gf E mX5_drive d 63 [(0, .ref (E.1 + 174)), (1, .int (nI t0)), (2, .ref (E.1 + 170)), (3, .int (nI (e)))] [] (hb h 174 12 (seek (hp_i h 170) w g (1 <<< (hp_i h 146 e &&& 31)) X e)) v hz) : gf E mX5_drive d 35 [(0, .ref (E.1 + 174)), (1, .int (nI t0)), (2, .ref (E.1 + 170)), (3, .int (nI (e)))] [] (hb h 174 12 (X)) v hz := by
  have hn := cty_n C
  have eS : (X 9 e).toNatClampNeg = a := by rw [hS, nI_clamp (by omega)]
  refine gf_aload_n 0 dX5_drive_35 rfl rfl ?_
  refine gf_getR flX5_40 rfl dX5_drive_36 (gt_174 hG) (gp_174_14 hG) ?_
  refine gf_iload_n 3 dX5_drive_39 rfl rfl ?_
  refine gf_aload_n 0 dX5_drive_40 rfl rfl ?_
  refine gf_aload_n 0 dX5_drive_41 rfl rfl ?_
  refine gf_getR flX5_37 rfl dX5_drive_42 (gt_174 hG) (gp_174_13 hG) ?_
  refine gf_iload_n 3 dX5_drive_45 rfl rfl ?_
  refine gf_iald 12 dX5_drive_46 (gt_183 hG) (gl_183 hG) rfl (by omega) (by decide) ?_
  refine gf_iconst (1) dX5_drive_47 rfl ?_
  refine gf_aload_n 0 dX5_drive_48 rfl rfl ?_
  refine gf_getR flX5_50 rfl dX5_drive_49 (gt_174 hG) (gp_174_6 hG) ?_
  refine gf_getR flX5_142 rfl dX5_drive_52 (gt_145 hG) (gp_145_1 hG) ?_
  refine gf_iload_n 3 dX5_drive_55 rfl rfl ?_
  refine gf_iald 12 dX5_drive_56 (gt_146 hG) (gl_146 hG) rfl (by omega) (by decide) ?_
  refine gf_ishl dX5_drive_57 ?_
  refine gf_aload_n 2 dX5_drive_58 rfl rfl ?_
  refine gf_callV cmX5_nearest lkX5_145 imX5_nearest seX5_nearest ⟨rfl, by decide⟩ dX5_drive_59 (d1 := d - 1) (by omega) (gt_174 hG) (ev_aE (aw := [.ref (E.1 + 174), .int (hp_i (hb h 174 12 (X)) 183 e), .int (1 <<< (hp_i h 146 e &&& 31)), .ref (E.1 + 170)]) (by rw [show hp_i (hb h 174 12 (X)) 183 e = nI a from hS]) (e_X5_nearest_174 E (by omega) (a := a) (1 <<< (hp_i h 146 e &&& 31)) h hG X C ha)) rfl rfl (Nat.le_of_ble_eq_true rfl) ?_
  refine gf_iast 12 dX5_drive_62 (gt_184 hG) (gl_184 hG) rfl (by omega) (by decide) ?_
  rw [hs174_10]
  exact gf_hE (congrArg (hb h 174 12) (by unfold seek; rw [eS])) K
theorem s63_174 (E : gE) {d : Nat} (hd : 3 ≤ d) {t0 m : Nat} (h : hp_T) (hG : gr h) (X : Nat → Nat → Int32) {w g : Nat} (C : cty (hp_i h) w g) (hm : m ≤ 12) {e a k : Nat} (he : e < m) (ha : a < w * g) (hS : X 9 e = nI a) (hA : aimOk (w * g) (X 10 e)) (hk : k ≤ 9) (hgo : hp_i h 148 e = nI k) {v : Option Value} {hz : hp_T} (K : gf E mX5_drive d 125 [(0, .ref (E.1 + 174)), (1, .int (nI t0)), (2, .ref (E.1 + 170)), (3, .int (nI (e)))] [] (hb h 174 12 (drv2 (hp_i h) (nI t0) X e)) v hz) : gf E mX5_drive d 63 [(0, .ref (E.1 + 174)), (1, .int (nI t0)), (2, .ref (E.1 + 170)), (3, .int (nI (e)))] [] (hb h 174 12 (X)) v hz := by
  have hn := cty_n C
  have eS : (X 9 e).toNatClampNeg = a := by rw [hS, nI_clamp (by omega)]
  rcases hA with hA | ⟨c, hc, hA⟩
  · refine gf_aload_n 0 dX5_drive_63 rfl rfl ?_
    refine gf_getR flX5_40 rfl dX5_drive_64 (gt_174 hG) (gp_174_14 hG) ?_
    refine gf_iload_n 3 dX5_drive_67 rfl rfl ?_
    refine gf_iald 12 dX5_drive_68 (gt_184 hG) (gl_184 hG) rfl (by omega) (by decide) ?_
    refine gf_iconst (-1) dX5_drive_69 rfl ?_
    refine gf_icmp_eq 125 dX5_drive_70 rfl (fun _ => ?_) (fun q => absurd (hA) q)
    exact gf_hE (congrArg (hb h 174 12) (if_pos hA).symm) K
  · have eA : (X 10 e).toNatClampNeg = c := by rw [hA, nI_clamp (by omega)]
    have hA1 : ¬ X 10 e = -1 := by rw [hA]; exact nI_nm1 (by omega)
    have e2 : drv2 (hp_i h) (nI t0) X e = (if ¬ gonS (hp_i h) a c (hp_i h 148 e) = X 10 e then (up2 X 9 e (gonS (hp_i h) a c (hp_i h 148 e))) else pouX (up2 X 9 e (gonS (hp_i h) a c (hp_i h 148 e))) e c (hp_i h 149 e) (nI t0)) := by
      unfold drv2
      rw [if_neg hA1, eS, eA]
    refine gf_aload_n 0 dX5_drive_63 rfl rfl ?_
    refine gf_getR flX5_40 rfl dX5_drive_64 (gt_174 hG) (gp_174_14 hG) ?_
    refine gf_iload_n 3 dX5_drive_67 rfl rfl ?_
    refine gf_iald 12 dX5_drive_68 (gt_184 hG) (gl_184 hG) rfl (by omega) (by decide) ?_
    refine gf_iconst (-1) dX5_drive_69 rfl ?_
    refine gf_icmp_eq 125 dX5_drive_70 rfl (fun q => absurd q (hA1)) (fun _ => ?_)
    refine gf_aload_n 0 dX5_drive_73 rfl rfl ?_
    refine gf_getR flX5_37 rfl dX5_drive_74 (gt_174 hG) (gp_174_13 hG) ?_
    refine gf_iload_n 3 dX5_drive_77 rfl rfl ?_
    refine gf_aload_n 0 dX5_drive_78 rfl rfl ?_
    refine gf_aload_n 0 dX5_drive_79 rfl rfl ?_
    refine gf_getR flX5_37 rfl dX5_drive_80 (gt_174 hG) (gp_174_13 hG) ?_
    refine gf_iload_n 3 dX5_drive_83 rfl rfl ?_
    refine gf_iald 12 dX5_drive_84 (gt_183 hG) (gl_183 hG) rfl (by omega) (by decide) ?_
    refine gf_aload_n 0 dX5_drive_85 rfl rfl ?_
    refine gf_getR flX5_40 rfl dX5_drive_86 (gt_174 hG) (gp_174_14 hG) ?_
    refine gf_iload_n 3 dX5_drive_89 rfl rfl ?_
    refine gf_iald 12 dX5_drive_90 (gt_184 hG) (gl_184 hG) rfl (by omega) (by decide) ?_
    refine gf_aload_n 0 dX5_drive_91 rfl rfl ?_
    refine gf_getR flX5_50 rfl dX5_drive_92 (gt_174 hG) (gp_174_6 hG) ?_
    refine gf_getR flX5_149 rfl dX5_drive_95 (gt_145 hG) (gp_145_3 hG) ?_
    refine gf_iload_n 3 dX5_drive_98 rfl rfl ?_
    refine gf_iald 12 dX5_drive_99 (gt_148 hG) (gl_148 hG) rfl (by omega) (by decide) ?_
    refine gf_callV cmX5_gone lkX5_152 imX5_gone seX5_gone ⟨rfl, by decide⟩ dX5_drive_100 (d1 := d - 1) (by omega) (gt_174 hG) (ev_aE (aw := [.ref (E.1 + 174), .int (hp_i (hb h 174 12 (X)) 183 e), .int (hp_i (hb h 174 12 (X)) 184 e), .int (hp_i (hb h 174 12 (X)) 148 e)]) (by rw [show hp_i (hb h 174 12 (X)) 183 e = nI a from hS, show hp_i (hb h 174 12 (X)) 184 e = nI c from hA]; rfl) (e_X5_gone_174 E (by omega) (a := a) (b := c) (hp_i h 148 e) h hG X (by omega) (by omega))) rfl rfl (Nat.le_of_ble_eq_true rfl) ?_
    refine gf_iast 12 dX5_drive_103 (gt_183 hG) (gl_183 hG) rfl (by omega) (by decide) ?_
    rw [hs174_9]
    refine gf_aload_n 0 dX5_drive_104 rfl rfl ?_
    refine gf_getR flX5_37 rfl dX5_drive_105 (gt_174 hG) (gp_174_13 hG) ?_
    refine gf_iload_n 3 dX5_drive_108 rfl rfl ?_
    refine gf_iald 12 dX5_drive_109 (gt_183 hG) (gl_183 hG) rfl (by omega) (by decide) ?_
    refine gf_aload_n 0 dX5_drive_110 rfl rfl ?_
    refine gf_getR flX5_40 rfl dX5_drive_111 (gt_174 hG) (gp_174_14 hG) ?_
    refine gf_iload_n 3 dX5_drive_114 rfl rfl ?_
    refine gf_iald 12 dX5_drive_115 (gt_184 hG) (gl_184 hG) rfl (by omega) (by decide) ?_
    refine gf_icmp_ne 125 dX5_drive_116 rfl (fun zc116 => ?_) (fun zc116 => ?_)
    · exact gf_hE (congrArg (hb h 174 12) (e2.trans (if_pos (show ¬ gonS (hp_i h) a c (hp_i h 148 e) = X 10 e from by have zz := zc116; rw [show hp_i (hb h 174 12 ((up2 X 9 e (gonS (hp_i h) a c (hp_i h 148 e))))) 183 e = gonS (hp_i h) a c (hp_i h 148 e) from up2_s _ _ _ _] at zz; exact zz))).symm) K
    · refine gf_aload_n 0 dX5_drive_119 rfl rfl ?_
      refine gf_iload_n 3 dX5_drive_120 rfl rfl ?_
      refine gf_iload_n 1 dX5_drive_121 rfl rfl ?_
      refine gf_callV cmX5_pour lkX5_156 imX5_pour seX5_pour ⟨rfl, by decide⟩ dX5_drive_122 (d1 := d - 1) (by omega) (gt_174 hG) (e_X5_pour_174 E (by omega) (e := e) (c := c) (nI t0) h hG (up2 X 9 e (gonS (hp_i h) a c (hp_i h 148 e))) (by omega) (by omega) hA) rfl rfl (Nat.le_of_ble_eq_true rfl) ?_
      exact gf_hE (congrArg (hb h 174 12) (e2.trans (if_neg (fun q => q (show gonS (hp_i h) a c (hp_i h 148 e) = X 10 e from by have zz := zc116; rw [show hp_i (hb h 174 12 ((up2 X 9 e (gonS (hp_i h) a c (hp_i h 148 e))))) 183 e = gonS (hp_i h) a c (hp_i h 148 e) from up2_s _ _ _ _] at zz; exact zz)))).symm) K
theorem l_X5_drive_174 (E : gE) {d : Nat} (hd : 3 ≤ d) {t0 m : Nat} (h : hp_T) (hG : gr h) (X : Nat → Nat → Int32) {w g : Nat} (C : cty (hp_i h) w g) (hm : m ≤ 12) (I : drvI m (w * g) X) (hgo : ∀ e, e < m → ∃ k, k ≤ 9 ∧ hp_i h 148 e = nI k) : ∀ (kz jz : Nat), jz + kz = m → gf E mX5_drive d 2 [(0, .ref (E.1 + 174)), (1, .int (nI t0)), (2, .ref (E.1 + 170)), (3, .int (nI (jz)))] [] (hb h 174 12 (itN (drvB (hp_i h) w g (nI t0)) X (jz))) none (hb h 174 12 (itN (drvB (hp_i h) w g (nI t0)) X (m))) := by
  have hn := cty_n C
  intro kz
  induction kz with
  | zero =>
    intro jz hj
    have hj : m = jz := by omega
    subst hj
    have I1 := drvB_I C hgo (nI t0) I m (Nat.le_refl m)
    refine gf_iload_n 3 dX5_drive_2 rfl rfl ?_
    refine gf_aload_n 0 dX5_drive_3 rfl rfl ?_
    refine gf_getI flX5_97 rfl dX5_drive_4 (gt_174 hG) ?_
    refine gf_icmp_ge 131 dX5_drive_7 rfl (fun _ => ?_) (fun q => absurd (by rw [show hp_i (hb h 174 12 (itN (drvB (hp_i h) w g (nI t0)) X (m))) 174 1 = nI m from I1.1]; exact nI_le (Nat.le_refl _) (by omega)) q)
    exact gf_vretE dX5_drive_131 rfl (rfl)
  | succ kz ih =>
    intro jz hj
    have I1 := drvB_I C hgo (nI t0) I jz (by omega)
    obtain ⟨⟨a, ha, hS⟩, hO⟩ := I1.2 jz (by omega)
    obtain ⟨k, hk, hK⟩ := hgo jz (by omega)
    have I2 := drv1_I (hp_i h) w g (itN (drvB (hp_i h) w g (nI t0)) X (jz)) jz rfl I1
    obtain ⟨⟨a2, ha2, hS2⟩, hO2⟩ := I2.2 jz (by omega)
    have K1 : gf E mX5_drive d 63 [(0, .ref (E.1 + 174)), (1, .int (nI t0)), (2, .ref (E.1 + 170)), (3, .int (nI (jz)))] [] (hb h 174 12 (drv1 (hp_i h) w g (itN (drvB (hp_i h) w g (nI t0)) X (jz)) jz)) none (hb h 174 12 (itN (drvB (hp_i h) w g (nI t0)) X (m))) := by
      refine s63_174 E hd h hG (drv1 (hp_i h) w g (itN (drvB (hp_i h) w g (nI t0)) X (jz)) jz) C hm (show jz < m by omega) ha2 hS2 hO2 hk hK ?_
      refine gf_iinc (1) dX5_drive_125 rfl rfl (Nat.le_of_ble_eq_true rfl) ?_
      refine gf_goto 2 dX5_drive_128 rfl ?_
      exact gf_lw (ih (jz + 1) (by omega)) ⟨rfl, rfl, rfl, lvE (nI_1 jz), trivial⟩
    rcases hO with hO | ⟨c, hc, hO⟩
    · refine gf_iload_n 3 dX5_drive_2 rfl rfl ?_
      refine gf_aload_n 0 dX5_drive_3 rfl rfl ?_
      refine gf_getI flX5_97 rfl dX5_drive_4 (gt_174 hG) ?_
      refine gf_icmp_ge 131 dX5_drive_7 rfl (fun q => absurd q (by rw [show hp_i (hb h 174 12 (itN (drvB (hp_i h) w g (nI t0)) X (jz))) 174 1 = nI m from I1.1]; exact nI_ge (by omega) (by omega))) (fun _ => ?_)
      refine gf_aload_n 0 dX5_drive_10 rfl rfl ?_
      refine gf_getR flX5_40 rfl dX5_drive_11 (gt_174 hG) (gp_174_14 hG) ?_
      refine gf_iload_n 3 dX5_drive_14 rfl rfl ?_
      refine gf_iald 12 dX5_drive_15 (gt_184 hG) (gl_184 hG) rfl (by omega) (by decide) ?_
      refine gf_iconst (-1) dX5_drive_16 rfl ?_
      refine gf_icmp_eq 35 dX5_drive_17 rfl (fun _ => ?_) (fun q => absurd (hO) q)
      refine s35_174 E hd h hG (itN (drvB (hp_i h) w g (nI t0)) X (jz)) C hm (show jz < m by omega) ha hS ?_
      exact gf_hE (congrArg (hb h 174 12) (show seek (hp_i h 170) w g (1 <<< (hp_i h 146 jz &&& 31)) (itN (drvB (hp_i h) w g (nI t0)) X (jz)) jz = drv1 (hp_i h) w g (itN (drvB (hp_i h) w g (nI t0)) X (jz)) jz from (if_pos hO).symm)) K1
    · have hO1 : ¬ (itN (drvB (hp_i h) w g (nI t0)) X (jz)) 10 jz = -1 := by rw [hO]; exact nI_nm1 (by omega)
      have eO : ((itN (drvB (hp_i h) w g (nI t0)) X (jz)) 10 jz).toNatClampNeg = c := by rw [hO, nI_clamp (by omega)]
      refine gf_iload_n 3 dX5_drive_2 rfl rfl ?_
      refine gf_aload_n 0 dX5_drive_3 rfl rfl ?_
      refine gf_getI flX5_97 rfl dX5_drive_4 (gt_174 hG) ?_
      refine gf_icmp_ge 131 dX5_drive_7 rfl (fun q => absurd q (by rw [show hp_i (hb h 174 12 (itN (drvB (hp_i h) w g (nI t0)) X (jz))) 174 1 = nI m from I1.1]; exact nI_ge (by omega) (by omega))) (fun _ => ?_)
      refine gf_aload_n 0 dX5_drive_10 rfl rfl ?_
      refine gf_getR flX5_40 rfl dX5_drive_11 (gt_174 hG) (gp_174_14 hG) ?_
      refine gf_iload_n 3 dX5_drive_14 rfl rfl ?_
      refine gf_iald 12 dX5_drive_15 (gt_184 hG) (gl_184 hG) rfl (by omega) (by decide) ?_
      refine gf_iconst (-1) dX5_drive_16 rfl ?_
      refine gf_icmp_eq 35 dX5_drive_17 rfl (fun q => absurd q (hO1)) (fun _ => ?_)
      refine gf_aload_n 0 dX5_drive_20 rfl rfl ?_
      refine gf_getR flX5_19 rfl dX5_drive_21 (gt_174 hG) (gp_174_7 hG) ?_
      refine gf_aload_n 0 dX5_drive_24 rfl rfl ?_
      refine gf_getR flX5_40 rfl dX5_drive_25 (gt_174 hG) (gp_174_14 hG) ?_
      refine gf_iload_n 3 dX5_drive_28 rfl rfl ?_
      refine gf_iald 12 dX5_drive_29 (gt_184 hG) (gl_184 hG) rfl (by omega) (by decide) ?_
      refine gf_iald 120 dX5_drive_30 (gt_177 hG) (gl_177 hG) hO (by omega) (by decide) ?_
      refine gf_iconst (1) dX5_drive_31 rfl ?_
      refine gf_icmp_eq 63 dX5_drive_32 rfl (fun zc32 => ?_) (fun zc32 => ?_)
      · exact gf_hE (congrArg (hb h 174 12) (show itN (drvB (hp_i h) w g (nI t0)) X (jz) = drv1 (hp_i h) w g (itN (drvB (hp_i h) w g (nI t0)) X (jz)) jz from ((if_neg hO1).trans (if_pos (show (itN (drvB (hp_i h) w g (nI t0)) X (jz)) 3 ((itN (drvB (hp_i h) w g (nI t0)) X (jz)) 10 jz).toNatClampNeg = 1 from by rw [eO]; exact zc32))).symm)) K1
      · refine s35_174 E hd h hG (itN (drvB (hp_i h) w g (nI t0)) X (jz)) C hm (show jz < m by omega) ha hS ?_
        exact gf_hE (congrArg (hb h 174 12) (show seek (hp_i h 170) w g (1 <<< (hp_i h 146 jz &&& 31)) (itN (drvB (hp_i h) w g (nI t0)) X (jz)) jz = drv1 (hp_i h) w g (itN (drvB (hp_i h) w g (nI t0)) X (jz)) jz from ((if_neg hO1).trans (if_neg (show ¬ (itN (drvB (hp_i h) w g (nI t0)) X (jz)) 3 ((itN (drvB (hp_i h) w g (nI t0)) X (jz)) 10 jz).toNatClampNeg = 1 from by rw [eO]; exact zc32))).symm)) K1
theorem e_X5_drive_174 (E : gE) {d : Nat} (hd : 3 ≤ d) {t0 m : Nat} (h : hp_T) (hG : gr h) (X : Nat → Nat → Int32) {w g : Nat} (C : cty (hp_i h) w g) (hm : m ≤ 12) (I : drvI m (w * g) X) (hgo : ∀ e, e < m → ∃ k, k ≤ 9 ∧ hp_i h 148 e = nI k) : ev E mX5_drive d [.ref (E.1 + 174), .int (nI t0), .ref (E.1 + 170)] (hb h 174 12 (X)) (none) (hb h 174 12 (itN (drvB (hp_i h) w g (nI t0)) X (m))) := by
  refine ev_of rfl (fun q => absurd q (by decide)) (Nat.le_of_ble_eq_true rfl) ?_
  refine gf_iconst (0) dX5_drive_0 rfl ?_
  refine gf_istore_n 3 dX5_drive_1 rfl (Nat.le_of_ble_eq_true rfl) ?_
  exact l_X5_drive_174 E hd h hG X C hm I hgo m 0 (by omega)
theorem s35_193 (E : gE) {d : Nat} (hd : 3 ≤ d) {t0 m : Nat} (h : hp_T) (hG : gr h) (X : Nat → Nat → Int32) {w g : Nat} (C : cty (hp_i h) w g) (hm : m ≤ 12) {e a : Nat} (he : e < m) (ha : a < w * g) (hS : X 9 e = nI a) {v : Option Value} {hz : hp_T} (K : gf E mX5_drive d 63 [(0, .ref (E.1 + 193)), (1, .int (nI t0)), (2, .ref (E.1 + 170)), (3, .int (nI (e)))] [] (hb h 193 12 (seek (hp_i h 170) w g (1 <<< (hp_i h 146 e &&& 31)) X e)) v hz) : gf E mX5_drive d 35 [(0, .ref (E.1 + 193)), (1, .int (nI t0)), (2, .ref (E.1 + 170)), (3, .int (nI (e)))] [] (hb h 193 12 (X)) v hz := by
  have hn := cty_n C
  have eS : (X 9 e).toNatClampNeg = a := by rw [hS, nI_clamp (by omega)]
  refine gf_aload_n 0 dX5_drive_35 rfl rfl ?_
  refine gf_getR flX5_40 rfl dX5_drive_36 (gt_193 hG) (gp_193_14 hG) ?_
  refine gf_iload_n 3 dX5_drive_39 rfl rfl ?_
  refine gf_aload_n 0 dX5_drive_40 rfl rfl ?_
  refine gf_aload_n 0 dX5_drive_41 rfl rfl ?_
  refine gf_getR flX5_37 rfl dX5_drive_42 (gt_193 hG) (gp_193_13 hG) ?_
  refine gf_iload_n 3 dX5_drive_45 rfl rfl ?_
  refine gf_iald 12 dX5_drive_46 (gt_202 hG) (gl_202 hG) rfl (by omega) (by decide) ?_
  refine gf_iconst (1) dX5_drive_47 rfl ?_
  refine gf_aload_n 0 dX5_drive_48 rfl rfl ?_
  refine gf_getR flX5_50 rfl dX5_drive_49 (gt_193 hG) (gp_193_6 hG) ?_
  refine gf_getR flX5_142 rfl dX5_drive_52 (gt_145 hG) (gp_145_1 hG) ?_
  refine gf_iload_n 3 dX5_drive_55 rfl rfl ?_
  refine gf_iald 12 dX5_drive_56 (gt_146 hG) (gl_146 hG) rfl (by omega) (by decide) ?_
  refine gf_ishl dX5_drive_57 ?_
  refine gf_aload_n 2 dX5_drive_58 rfl rfl ?_
  refine gf_callV cmX5_nearest lkX5_145 imX5_nearest seX5_nearest ⟨rfl, by decide⟩ dX5_drive_59 (d1 := d - 1) (by omega) (gt_193 hG) (ev_aE (aw := [.ref (E.1 + 193), .int (hp_i (hb h 193 12 (X)) 202 e), .int (1 <<< (hp_i h 146 e &&& 31)), .ref (E.1 + 170)]) (by rw [show hp_i (hb h 193 12 (X)) 202 e = nI a from hS]) (e_X5_nearest_193 E (by omega) (a := a) (1 <<< (hp_i h 146 e &&& 31)) h hG X C ha)) rfl rfl (Nat.le_of_ble_eq_true rfl) ?_
  refine gf_iast 12 dX5_drive_62 (gt_203 hG) (gl_203 hG) rfl (by omega) (by decide) ?_
  rw [hs193_10]
  exact gf_hE (congrArg (hb h 193 12) (by unfold seek; rw [eS])) K
theorem s63_193 (E : gE) {d : Nat} (hd : 3 ≤ d) {t0 m : Nat} (h : hp_T) (hG : gr h) (X : Nat → Nat → Int32) {w g : Nat} (C : cty (hp_i h) w g) (hm : m ≤ 12) {e a k : Nat} (he : e < m) (ha : a < w * g) (hS : X 9 e = nI a) (hA : aimOk (w * g) (X 10 e)) (hk : k ≤ 9) (hgo : hp_i h 148 e = nI k) {v : Option Value} {hz : hp_T} (K : gf E mX5_drive d 125 [(0, .ref (E.1 + 193)), (1, .int (nI t0)), (2, .ref (E.1 + 170)), (3, .int (nI (e)))] [] (hb h 193 12 (drv2 (hp_i h) (nI t0) X e)) v hz) : gf E mX5_drive d 63 [(0, .ref (E.1 + 193)), (1, .int (nI t0)), (2, .ref (E.1 + 170)), (3, .int (nI (e)))] [] (hb h 193 12 (X)) v hz := by
  have hn := cty_n C
  have eS : (X 9 e).toNatClampNeg = a := by rw [hS, nI_clamp (by omega)]
  rcases hA with hA | ⟨c, hc, hA⟩
  · refine gf_aload_n 0 dX5_drive_63 rfl rfl ?_
    refine gf_getR flX5_40 rfl dX5_drive_64 (gt_193 hG) (gp_193_14 hG) ?_
    refine gf_iload_n 3 dX5_drive_67 rfl rfl ?_
    refine gf_iald 12 dX5_drive_68 (gt_203 hG) (gl_203 hG) rfl (by omega) (by decide) ?_
    refine gf_iconst (-1) dX5_drive_69 rfl ?_
    refine gf_icmp_eq 125 dX5_drive_70 rfl (fun _ => ?_) (fun q => absurd (hA) q)
    exact gf_hE (congrArg (hb h 193 12) (if_pos hA).symm) K
  · have eA : (X 10 e).toNatClampNeg = c := by rw [hA, nI_clamp (by omega)]
    have hA1 : ¬ X 10 e = -1 := by rw [hA]; exact nI_nm1 (by omega)
    have e2 : drv2 (hp_i h) (nI t0) X e = (if ¬ gonS (hp_i h) a c (hp_i h 148 e) = X 10 e then (up2 X 9 e (gonS (hp_i h) a c (hp_i h 148 e))) else pouX (up2 X 9 e (gonS (hp_i h) a c (hp_i h 148 e))) e c (hp_i h 149 e) (nI t0)) := by
      unfold drv2
      rw [if_neg hA1, eS, eA]
    refine gf_aload_n 0 dX5_drive_63 rfl rfl ?_
    refine gf_getR flX5_40 rfl dX5_drive_64 (gt_193 hG) (gp_193_14 hG) ?_
    refine gf_iload_n 3 dX5_drive_67 rfl rfl ?_
    refine gf_iald 12 dX5_drive_68 (gt_203 hG) (gl_203 hG) rfl (by omega) (by decide) ?_
    refine gf_iconst (-1) dX5_drive_69 rfl ?_
    refine gf_icmp_eq 125 dX5_drive_70 rfl (fun q => absurd q (hA1)) (fun _ => ?_)
    refine gf_aload_n 0 dX5_drive_73 rfl rfl ?_
    refine gf_getR flX5_37 rfl dX5_drive_74 (gt_193 hG) (gp_193_13 hG) ?_
    refine gf_iload_n 3 dX5_drive_77 rfl rfl ?_
    refine gf_aload_n 0 dX5_drive_78 rfl rfl ?_
    refine gf_aload_n 0 dX5_drive_79 rfl rfl ?_
    refine gf_getR flX5_37 rfl dX5_drive_80 (gt_193 hG) (gp_193_13 hG) ?_
    refine gf_iload_n 3 dX5_drive_83 rfl rfl ?_
    refine gf_iald 12 dX5_drive_84 (gt_202 hG) (gl_202 hG) rfl (by omega) (by decide) ?_
    refine gf_aload_n 0 dX5_drive_85 rfl rfl ?_
    refine gf_getR flX5_40 rfl dX5_drive_86 (gt_193 hG) (gp_193_14 hG) ?_
    refine gf_iload_n 3 dX5_drive_89 rfl rfl ?_
    refine gf_iald 12 dX5_drive_90 (gt_203 hG) (gl_203 hG) rfl (by omega) (by decide) ?_
    refine gf_aload_n 0 dX5_drive_91 rfl rfl ?_
    refine gf_getR flX5_50 rfl dX5_drive_92 (gt_193 hG) (gp_193_6 hG) ?_
    refine gf_getR flX5_149 rfl dX5_drive_95 (gt_145 hG) (gp_145_3 hG) ?_
    refine gf_iload_n 3 dX5_drive_98 rfl rfl ?_
    refine gf_iald 12 dX5_drive_99 (gt_148 hG) (gl_148 hG) rfl (by omega) (by decide) ?_
    refine gf_callV cmX5_gone lkX5_152 imX5_gone seX5_gone ⟨rfl, by decide⟩ dX5_drive_100 (d1 := d - 1) (by omega) (gt_193 hG) (ev_aE (aw := [.ref (E.1 + 193), .int (hp_i (hb h 193 12 (X)) 202 e), .int (hp_i (hb h 193 12 (X)) 203 e), .int (hp_i (hb h 193 12 (X)) 148 e)]) (by rw [show hp_i (hb h 193 12 (X)) 202 e = nI a from hS, show hp_i (hb h 193 12 (X)) 203 e = nI c from hA]; rfl) (e_X5_gone_193 E (by omega) (a := a) (b := c) (hp_i h 148 e) h hG X (by omega) (by omega))) rfl rfl (Nat.le_of_ble_eq_true rfl) ?_
    refine gf_iast 12 dX5_drive_103 (gt_202 hG) (gl_202 hG) rfl (by omega) (by decide) ?_
    rw [hs193_9]
    refine gf_aload_n 0 dX5_drive_104 rfl rfl ?_
    refine gf_getR flX5_37 rfl dX5_drive_105 (gt_193 hG) (gp_193_13 hG) ?_
    refine gf_iload_n 3 dX5_drive_108 rfl rfl ?_
    refine gf_iald 12 dX5_drive_109 (gt_202 hG) (gl_202 hG) rfl (by omega) (by decide) ?_
    refine gf_aload_n 0 dX5_drive_110 rfl rfl ?_
    refine gf_getR flX5_40 rfl dX5_drive_111 (gt_193 hG) (gp_193_14 hG) ?_
    refine gf_iload_n 3 dX5_drive_114 rfl rfl ?_
    refine gf_iald 12 dX5_drive_115 (gt_203 hG) (gl_203 hG) rfl (by omega) (by decide) ?_
    refine gf_icmp_ne 125 dX5_drive_116 rfl (fun zc116 => ?_) (fun zc116 => ?_)
    · exact gf_hE (congrArg (hb h 193 12) (e2.trans (if_pos (show ¬ gonS (hp_i h) a c (hp_i h 148 e) = X 10 e from by have zz := zc116; rw [show hp_i (hb h 193 12 ((up2 X 9 e (gonS (hp_i h) a c (hp_i h 148 e))))) 202 e = gonS (hp_i h) a c (hp_i h 148 e) from up2_s _ _ _ _] at zz; exact zz))).symm) K
    · refine gf_aload_n 0 dX5_drive_119 rfl rfl ?_
      refine gf_iload_n 3 dX5_drive_120 rfl rfl ?_
      refine gf_iload_n 1 dX5_drive_121 rfl rfl ?_
      refine gf_callV cmX5_pour lkX5_156 imX5_pour seX5_pour ⟨rfl, by decide⟩ dX5_drive_122 (d1 := d - 1) (by omega) (gt_193 hG) (e_X5_pour_193 E (by omega) (e := e) (c := c) (nI t0) h hG (up2 X 9 e (gonS (hp_i h) a c (hp_i h 148 e))) (by omega) (by omega) hA) rfl rfl (Nat.le_of_ble_eq_true rfl) ?_
      exact gf_hE (congrArg (hb h 193 12) (e2.trans (if_neg (fun q => q (show gonS (hp_i h) a c (hp_i h 148 e) = X 10 e from by have zz := zc116; rw [show hp_i (hb h 193 12 ((up2 X 9 e (gonS (hp_i h) a c (hp_i h 148 e))))) 202 e = gonS (hp_i h) a c (hp_i h 148 e) from up2_s _ _ _ _] at zz; exact zz)))).symm) K
theorem l_X5_drive_193 (E : gE) {d : Nat} (hd : 3 ≤ d) {t0 m : Nat} (h : hp_T) (hG : gr h) (X : Nat → Nat → Int32) {w g : Nat} (C : cty (hp_i h) w g) (hm : m ≤ 12) (I : drvI m (w * g) X) (hgo : ∀ e, e < m → ∃ k, k ≤ 9 ∧ hp_i h 148 e = nI k) : ∀ (kz jz : Nat), jz + kz = m → gf E mX5_drive d 2 [(0, .ref (E.1 + 193)), (1, .int (nI t0)), (2, .ref (E.1 + 170)), (3, .int (nI (jz)))] [] (hb h 193 12 (itN (drvB (hp_i h) w g (nI t0)) X (jz))) none (hb h 193 12 (itN (drvB (hp_i h) w g (nI t0)) X (m))) := by
  have hn := cty_n C
  intro kz
  induction kz with
  | zero =>
    intro jz hj
    have hj : m = jz := by omega
    subst hj
    have I1 := drvB_I C hgo (nI t0) I m (Nat.le_refl m)
    refine gf_iload_n 3 dX5_drive_2 rfl rfl ?_
    refine gf_aload_n 0 dX5_drive_3 rfl rfl ?_
    refine gf_getI flX5_97 rfl dX5_drive_4 (gt_193 hG) ?_
    refine gf_icmp_ge 131 dX5_drive_7 rfl (fun _ => ?_) (fun q => absurd (by rw [show hp_i (hb h 193 12 (itN (drvB (hp_i h) w g (nI t0)) X (m))) 193 1 = nI m from I1.1]; exact nI_le (Nat.le_refl _) (by omega)) q)
    exact gf_vretE dX5_drive_131 rfl (rfl)
  | succ kz ih =>
    intro jz hj
    have I1 := drvB_I C hgo (nI t0) I jz (by omega)
    obtain ⟨⟨a, ha, hS⟩, hO⟩ := I1.2 jz (by omega)
    obtain ⟨k, hk, hK⟩ := hgo jz (by omega)
    have I2 := drv1_I (hp_i h) w g (itN (drvB (hp_i h) w g (nI t0)) X (jz)) jz rfl I1
    obtain ⟨⟨a2, ha2, hS2⟩, hO2⟩ := I2.2 jz (by omega)
    have K1 : gf E mX5_drive d 63 [(0, .ref (E.1 + 193)), (1, .int (nI t0)), (2, .ref (E.1 + 170)), (3, .int (nI (jz)))] [] (hb h 193 12 (drv1 (hp_i h) w g (itN (drvB (hp_i h) w g (nI t0)) X (jz)) jz)) none (hb h 193 12 (itN (drvB (hp_i h) w g (nI t0)) X (m))) := by
      refine s63_193 E hd h hG (drv1 (hp_i h) w g (itN (drvB (hp_i h) w g (nI t0)) X (jz)) jz) C hm (show jz < m by omega) ha2 hS2 hO2 hk hK ?_
      refine gf_iinc (1) dX5_drive_125 rfl rfl (Nat.le_of_ble_eq_true rfl) ?_
      refine gf_goto 2 dX5_drive_128 rfl ?_
      exact gf_lw (ih (jz + 1) (by omega)) ⟨rfl, rfl, rfl, lvE (nI_1 jz), trivial⟩
    rcases hO with hO | ⟨c, hc, hO⟩
    · refine gf_iload_n 3 dX5_drive_2 rfl rfl ?_
      refine gf_aload_n 0 dX5_drive_3 rfl rfl ?_
      refine gf_getI flX5_97 rfl dX5_drive_4 (gt_193 hG) ?_
      refine gf_icmp_ge 131 dX5_drive_7 rfl (fun q => absurd q (by rw [show hp_i (hb h 193 12 (itN (drvB (hp_i h) w g (nI t0)) X (jz))) 193 1 = nI m from I1.1]; exact nI_ge (by omega) (by omega))) (fun _ => ?_)
      refine gf_aload_n 0 dX5_drive_10 rfl rfl ?_
      refine gf_getR flX5_40 rfl dX5_drive_11 (gt_193 hG) (gp_193_14 hG) ?_
      refine gf_iload_n 3 dX5_drive_14 rfl rfl ?_
      refine gf_iald 12 dX5_drive_15 (gt_203 hG) (gl_203 hG) rfl (by omega) (by decide) ?_
      refine gf_iconst (-1) dX5_drive_16 rfl ?_
      refine gf_icmp_eq 35 dX5_drive_17 rfl (fun _ => ?_) (fun q => absurd (hO) q)
      refine s35_193 E hd h hG (itN (drvB (hp_i h) w g (nI t0)) X (jz)) C hm (show jz < m by omega) ha hS ?_
      exact gf_hE (congrArg (hb h 193 12) (show seek (hp_i h 170) w g (1 <<< (hp_i h 146 jz &&& 31)) (itN (drvB (hp_i h) w g (nI t0)) X (jz)) jz = drv1 (hp_i h) w g (itN (drvB (hp_i h) w g (nI t0)) X (jz)) jz from (if_pos hO).symm)) K1
    · have hO1 : ¬ (itN (drvB (hp_i h) w g (nI t0)) X (jz)) 10 jz = -1 := by rw [hO]; exact nI_nm1 (by omega)
      have eO : ((itN (drvB (hp_i h) w g (nI t0)) X (jz)) 10 jz).toNatClampNeg = c := by rw [hO, nI_clamp (by omega)]
      refine gf_iload_n 3 dX5_drive_2 rfl rfl ?_
      refine gf_aload_n 0 dX5_drive_3 rfl rfl ?_
      refine gf_getI flX5_97 rfl dX5_drive_4 (gt_193 hG) ?_
      refine gf_icmp_ge 131 dX5_drive_7 rfl (fun q => absurd q (by rw [show hp_i (hb h 193 12 (itN (drvB (hp_i h) w g (nI t0)) X (jz))) 193 1 = nI m from I1.1]; exact nI_ge (by omega) (by omega))) (fun _ => ?_)
      refine gf_aload_n 0 dX5_drive_10 rfl rfl ?_
      refine gf_getR flX5_40 rfl dX5_drive_11 (gt_193 hG) (gp_193_14 hG) ?_
      refine gf_iload_n 3 dX5_drive_14 rfl rfl ?_
      refine gf_iald 12 dX5_drive_15 (gt_203 hG) (gl_203 hG) rfl (by omega) (by decide) ?_
      refine gf_iconst (-1) dX5_drive_16 rfl ?_
      refine gf_icmp_eq 35 dX5_drive_17 rfl (fun q => absurd q (hO1)) (fun _ => ?_)
      refine gf_aload_n 0 dX5_drive_20 rfl rfl ?_
      refine gf_getR flX5_19 rfl dX5_drive_21 (gt_193 hG) (gp_193_7 hG) ?_
      refine gf_aload_n 0 dX5_drive_24 rfl rfl ?_
      refine gf_getR flX5_40 rfl dX5_drive_25 (gt_193 hG) (gp_193_14 hG) ?_
      refine gf_iload_n 3 dX5_drive_28 rfl rfl ?_
      refine gf_iald 12 dX5_drive_29 (gt_203 hG) (gl_203 hG) rfl (by omega) (by decide) ?_
      refine gf_iald 120 dX5_drive_30 (gt_196 hG) (gl_196 hG) hO (by omega) (by decide) ?_
      refine gf_iconst (1) dX5_drive_31 rfl ?_
      refine gf_icmp_eq 63 dX5_drive_32 rfl (fun zc32 => ?_) (fun zc32 => ?_)
      · exact gf_hE (congrArg (hb h 193 12) (show itN (drvB (hp_i h) w g (nI t0)) X (jz) = drv1 (hp_i h) w g (itN (drvB (hp_i h) w g (nI t0)) X (jz)) jz from ((if_neg hO1).trans (if_pos (show (itN (drvB (hp_i h) w g (nI t0)) X (jz)) 3 ((itN (drvB (hp_i h) w g (nI t0)) X (jz)) 10 jz).toNatClampNeg = 1 from by rw [eO]; exact zc32))).symm)) K1
      · refine s35_193 E hd h hG (itN (drvB (hp_i h) w g (nI t0)) X (jz)) C hm (show jz < m by omega) ha hS ?_
        exact gf_hE (congrArg (hb h 193 12) (show seek (hp_i h 170) w g (1 <<< (hp_i h 146 jz &&& 31)) (itN (drvB (hp_i h) w g (nI t0)) X (jz)) jz = drv1 (hp_i h) w g (itN (drvB (hp_i h) w g (nI t0)) X (jz)) jz from ((if_neg hO1).trans (if_neg (show ¬ (itN (drvB (hp_i h) w g (nI t0)) X (jz)) 3 ((itN (drvB (hp_i h) w g (nI t0)) X (jz)) 10 jz).toNatClampNeg = 1 from by rw [eO]; exact zc32))).symm)) K1
theorem e_X5_drive_193 (E : gE) {d : Nat} (hd : 3 ≤ d) {t0 m : Nat} (h : hp_T) (hG : gr h) (X : Nat → Nat → Int32) {w g : Nat} (C : cty (hp_i h) w g) (hm : m ≤ 12) (I : drvI m (w * g) X) (hgo : ∀ e, e < m → ∃ k, k ≤ 9 ∧ hp_i h 148 e = nI k) : ev E mX5_drive d [.ref (E.1 + 193), .int (nI t0), .ref (E.1 + 170)] (hb h 193 12 (X)) (none) (hb h 193 12 (itN (drvB (hp_i h) w g (nI t0)) X (m))) := by
  refine ev_of rfl (fun q => absurd q (by decide)) (Nat.le_of_ble_eq_true rfl) ?_
  refine gf_iconst (0) dX5_drive_0 rfl ?_
  refine gf_istore_n 3 dX5_drive_1 rfl (Nat.le_of_ble_eq_true rfl) ?_
  exact l_X5_drive_193 E hd h hG X C hm I hgo m 0 (by omega)
