/-! ===== the class: scan ===== -/
def bf (tx : Nat → Nat) : Nat → Nat
  | 0 => 0
  | i + 1 => srt (tx i)
theorem bf_3 (tx : Nat → Nat) (i : Nat) : bf tx i ≤ 3 := by
  cases i with
  | zero => exact Nat.zero_le _
  | succ i => exact srt_3 _
abbrev isSg (q : Nat) : Prop := fa_first (sgP q) 13 < 13
/-- the token that begins at i -/
def scT (tx : Nat → Nat) (L b i : Nat) : Option (Int32 × Int32) :=
  if srt (tx i) = 3 then some ((if isSg (tx i) then nI (tx i) else 25), 0)
  else if srt (tx i) = 1 then (if b = 1 then none else some ((if b = 2 then 25 else nI (wrd tx L i)), 0))
  else if srt (tx i) = 2 then (if b = 2 then none else some ((if b = 1 then 25 else 23), nmS tx L i))
  else none
def scA (Z : Nat → Nat → Int32) (i : Nat) : Option (Int32 × Int32) → Nat → Nat → Int32
  | none => Z
  | some (t, v) => adT Z (Z 0 12).toNatClampNeg t (nI i) v
def scB (tx : Nat → Nat) (L : Nat) (Z : Nat → Nat → Int32) (i : Nat) : Nat → Nat → Int32 := scA Z i (scT tx L (bf tx i) i)
def scZ (L : Nat) (Z : Nat → Nat → Int32) (n : Nat) : Nat → Nat → Int32 := itN (scB (txt Z) L) (up2 Z 0 12 0) n
theorem adT_row (Z : Nat → Nat → Int32) (c : Nat) (t s v : Int32) : adT Z c t s v 4 = Z 4 ∧ (∀ i, i ≠ 12 → adT Z c t s v 0 i = Z 0 i) ∧ adT Z c t s v 0 12 = nI (c + 1) ∧ (∀ r, r < 4 → r ≠ 0 → adT Z c t s v r = Z r) := by
  unfold adT
  refine ⟨?_, fun i hi => ?_, up2_s _ _ _ _, fun r hr hr0 => ?_⟩
  · rw [up2_row (by decide), up2_row (by decide), up2_row (by decide), up2_row (by decide)]
  · rw [up2_k _ _ hi, up2_a _ _ (by decide), up2_a _ _ (by decide), up2_a _ _ (by decide)]
  · rw [up2_row hr0, up2_row (by omega), up2_row (by omega), up2_row (by omega)]
/-- what scanning keeps -/
theorem sc_all {L : Nat} (Z : Nat → Nat → Int32) : ∀ n, n ≤ 600 → scZ L Z n 4 = Z 4 ∧ (∀ i, i ≠ 12 → scZ L Z n 0 i = Z 0 i) ∧ (∃ c, c ≤ n ∧ scZ L Z n 0 12 = nI c) ∧ (∀ r, r < 4 → r ≠ 0 → scZ L Z n r = Z r) := by
  intro n
  induction n with
  | zero =>
    rw [show scZ L Z 0 = up2 Z 0 12 0 from rfl]
    exact fun _ => ⟨up2_row (by decide), fun i hi => up2_k _ _ hi, ⟨0, Nat.le_refl _, up2_s _ _ _ _⟩, fun r hr hr0 => up2_row hr0⟩
  | succ n ih =>
    intro hn6
    obtain ⟨h1, h2, ⟨c, hc, h3⟩, h4⟩ := ih (by omega)
    have e : scZ L Z (n + 1) = scB (txt Z) L (scZ L Z n) n := rfl
    rw [e]
    generalize scZ L Z n = Y at h1 h2 h3 h4 ⊢
    unfold scB
    cases scT (txt Z) L (bf (txt Z) n) n with
    | none => exact ⟨h1, h2, ⟨c, by omega, h3⟩, h4⟩
    | some tv =>
      obtain ⟨t, v⟩ := tv
      have e2 : scA Y n (some (t, v)) = adT Y c t (nI n) v := by unfold scA; rw [h3, nI_clamp (by omega)]
      rw [e2]
      obtain ⟨a1, a2, a3, a4⟩ := adT_row Y c t (nI n) v
      exact ⟨a1.trans h1, fun i hi => (a2 i hi).trans (h2 i hi), ⟨c + 1, by omega, a3⟩, fun r hr hr0 => (a4 r hr hr0).trans (h4 r hr hr0)⟩
theorem txt_row {Y Z : Nat → Nat → Int32} (h : Y 4 = Z 4) : txt Y = txt Z := by funext i; unfold txt; rw [h]
theorem chr_e {q : Nat} (hq : q < 256) : ((nI q).toUInt32 % 65536).toInt32 = nI q := by
  rw [pk_char, pk_tn (by omega), Nat.mod_eq_of_lt (by omega)]
theorem l_scan (E : gE) {d : Nat} (hd : 5 ≤ d) {L : Nat} (h : hp_T) (hG : gr h) (Z : Nat → Nat → Int32) (I : txI Z L) : ∀ (kz jz : Nat), jz + kz = L → gf E mX9_scan d 9 [(0, .ref (E.1 + 150)), (1, .int (nI (bf (txt Z) (jz)))), (2, .int (nI (jz)))] [] (hb h 150 8 (scZ L Z (jz))) none (hb h 150 8 (scZ L Z (L))) := by
  have hI6 := I.2.1
  intro kz
  induction kz with
  | zero =>
    intro jz hj
    have hj : L = jz := by omega
    subst hj
    refine gf_iload_n 2 dX9_scan_9 rfl rfl ?_
    refine gf_aload_n 0 dX9_scan_10 rfl rfl ?_
    refine gf_getI flX9_37 rfl dX9_scan_11 (gt_150 hG) ?_
    refine gf_icmp_ge 158 dX9_scan_14 rfl (fun _ => ?_) (fun q => absurd (by rw [show hp_i (hb h 150 8 (scZ L Z (L))) 150 0 = nI L from ((sc_all (L := L) Z L (by omega)).2.1 0 (by decide)).trans I.1]; exact Int32.le_refl _) q)
    exact gf_vretE dX9_scan_158 rfl (rfl)
  | succ kz ih =>
    intro jz hj
    obtain ⟨h4, h0, ⟨c, hc, h12⟩, -⟩ := sc_all (L := L) Z jz (by omega)
    have ih1 := ih (jz + 1) (by omega)
    rw [show (scZ L Z (jz + 1)) = scA (scZ L Z (jz)) jz (scT (txt Z) L (bf (txt Z) jz) jz) from rfl, show bf (txt Z) (jz + 1) = srt (txt Z jz) from rfl] at ih1
    generalize (scZ L Z (jz)) = Y at h4 h0 h12 ih1 ⊢
    have hS : ∀ t v, scA Y jz (some (t, v)) = adT Y c t (nI jz) v := fun t v => by show adT Y (Y 0 12).toNatClampNeg t (nI jz) v = _; rw [h12, nI_clamp (by omega)]
    have IY : txI Y L := ⟨(h0 0 (by decide)).trans I.1, I.2.1, fun i hi => by rw [h4]; exact I.2.2 i hi⟩
    have etx : txt Y = txt Z := txt_row h4
    obtain ⟨etj, htj⟩ := txt_e IY (show jz < L by omega)
    rw [etx] at etj htj
    have hb3 := bf_3 (txt Z) jz
    have hs3 := srt_3 (txt Z jz)
    generalize hbf : bf (txt Z) jz = b at hb3 ih1 ⊢
    have hu : scT (txt Z) L b jz = (if srt (txt Z jz) = 3 then some ((if isSg (txt Z jz) then nI (txt Z jz) else 25), 0) else if srt (txt Z jz) = 1 then (if b = 1 then none else some ((if b = 2 then 25 else nI (wrd (txt Z) L jz)), 0)) else if srt (txt Z jz) = 2 then (if b = 2 then none else some ((if b = 1 then 25 else 23), nmS (txt Z) L jz)) else none) := rfl
    rw [hu] at ih1
    generalize hsr : srt (txt Z jz) = sr at hs3 ih1
    suffices hm : ∀ gl : Bool, (gl = decide (b = 1 ∨ b = 2)) → gf E mX9_scan d 42 [(0, .ref (E.1 + 150)), (1, .int (nI b)), (2, .int (nI jz)), (3, .int (nI sr))] [.int (bI gl)] (hb h 150 8 Y) none (hb h 150 8 (scZ L Z (L))) by
      have hm := hm _ rfl
      refine gf_iload_n 2 dX9_scan_9 rfl rfl ?_
      refine gf_aload_n 0 dX9_scan_10 rfl rfl ?_
      refine gf_getI flX9_37 rfl dX9_scan_11 (gt_150 hG) ?_
      refine gf_icmp_ge 158 dX9_scan_14 rfl (fun q => absurd q (by rw [show hp_i (hb h 150 8 Y) 150 0 = nI L from IY.1]; exact nI_ge (by omega) (by omega))) (fun _ => ?_)
      refine gf_aload_n 0 dX9_scan_17 rfl rfl ?_
      refine gf_getR flX9_25 rfl dX9_scan_18 (gt_150 hG) (gp_150_8 hG) ?_
      refine gf_iload_n 2 dX9_scan_21 rfl rfl ?_
      refine gf_iald 600 dX9_scan_22 (gt_154 hG) (gl_154 hG) rfl (by omega) (by decide) ?_
      rw [show hp_i (hb h 150 8 Y) 154 jz = nI (txt Z jz) from etj]
      refine gf_callS cmX9_sortOf lkX9_71 stX9_sortOf dX9_scan_23 (d1 := d - 1) (by omega) (e_sortOf E (by omega) _ htj) rfl rfl (Nat.le_of_ble_eq_true rfl) ?_
      rw [hsr]
      refine gf_istore_n 3 dX9_scan_26 rfl (Nat.le_of_ble_eq_true rfl) ?_
      refine gf_iload_n 1 dX9_scan_27 rfl rfl ?_
      refine gf_iconst (1) dX9_scan_28 rfl ?_
      refine gf_icmp_eq 37 dX9_scan_29 rfl (fun zc29 => ?_) (fun zc29 => ?_)
      · have hb1 : b = 1 := (nI_eq (b := 1) (by omega) (by omega)).mp zc29
        refine gf_iconst (1) dX9_scan_37 rfl ?_
        refine gf_goto 42 dX9_scan_38 rfl ?_
        rw [show bI (decide (b = 1 ∨ b = 2)) = (1 : Int32) from by rw [decide_eq_true (Or.inl hb1)]; rfl] at hm
        exact gf_lw hm ⟨rfl, rfl, rfl, rfl, trivial⟩
      · have hb1 : ¬ b = 1 := fun w => zc29 (by rw [w]; rfl)
        refine gf_iload_n 1 dX9_scan_32 rfl rfl ?_
        refine gf_iconst (2) dX9_scan_33 rfl ?_
        refine gf_icmp_ne 41 dX9_scan_34 rfl (fun zc34 => ?_) (fun zc34 => ?_)
        · have hb2 : ¬ b = 2 := fun w => zc34 (by rw [w]; rfl)
          refine gf_iconst (0) dX9_scan_41 rfl ?_
          rw [show bI (decide (b = 1 ∨ b = 2)) = (0 : Int32) from by rw [decide_eq_false (show ¬ (b = 1 ∨ b = 2) from fun w => Or.elim w hb1 hb2)]; rfl] at hm
          exact gf_lw hm ⟨rfl, rfl, rfl, rfl, trivial⟩
        · have hb2 : b = 2 := (nI_eq (b := 2) (by omega) (by omega)).mp zc34
          refine gf_iconst (1) dX9_scan_37 rfl ?_
          refine gf_goto 42 dX9_scan_38 rfl ?_
          rw [show bI (decide (b = 1 ∨ b = 2)) = (1 : Int32) from by rw [decide_eq_true (Or.inr hb2)]; rfl] at hm
          exact gf_lw hm ⟨rfl, rfl, rfl, rfl, trivial⟩
    intro gl hgl
    refine gf_istore dX9_scan_42 (Nat.le_of_ble_eq_true rfl) ?_
    refine gf_iload_n 3 dX9_scan_44 rfl rfl ?_
    refine gf_iconst (3) dX9_scan_45 rfl ?_
    refine gf_icmp_ne 84 dX9_scan_46 rfl (fun zc46 => ?_) (fun zc46 => ?_)
    · have hs3e : ¬ sr = 3 := fun w => zc46 (by rw [w]; rfl)
      refine gf_iload_n 3 dX9_scan_84 rfl rfl ?_
      refine gf_iconst (1) dX9_scan_85 rfl ?_
      refine gf_icmp_ne 118 dX9_scan_86 rfl (fun zc86 => ?_) (fun zc86 => ?_)
      · have hs1e : ¬ sr = 1 := fun w => zc86 (by rw [w]; rfl)
        refine gf_iload_n 3 dX9_scan_118 rfl rfl ?_
        refine gf_iconst (2) dX9_scan_119 rfl ?_
        refine gf_icmp_ne 150 dX9_scan_120 rfl (fun zc120 => ?_) (fun zc120 => ?_)
        · have hs2e : ¬ sr = 2 := fun w => zc120 (by rw [w]; rfl)
          refine gf_iload_n 3 dX9_scan_150 rfl rfl ?_
          refine gf_istore_n 1 dX9_scan_151 rfl (Nat.le_of_ble_eq_true rfl) ?_
          refine gf_iinc (1) dX9_scan_152 rfl rfl (Nat.le_of_ble_eq_true rfl) ?_
          refine gf_goto 9 dX9_scan_155 rfl ?_
          rw [show (if sr = 3 then _ else _ : Option (Int32 × Int32)) = none from (if_neg hs3e).trans ((if_neg hs1e).trans (if_neg hs2e))] at ih1
          exact gf_lw ih1 ⟨rfl, rfl, lvE (nI_1 jz), trivial⟩
        · have hs2e : sr = 2 := (nI_eq (b := 2) (by omega) (by omega)).mp zc120
          refine gf_iload_n 1 dX9_scan_123 rfl rfl ?_
          refine gf_iconst (2) dX9_scan_124 rfl ?_
          refine gf_icmp_eq 150 dX9_scan_125 rfl (fun zc125 => ?_) (fun zc125 => ?_)
          · have hb2 : b = 2 := (nI_eq (b := 2) (by omega) (by omega)).mp zc125
            refine gf_iload_n 3 dX9_scan_150 rfl rfl ?_
            refine gf_istore_n 1 dX9_scan_151 rfl (Nat.le_of_ble_eq_true rfl) ?_
            refine gf_iinc (1) dX9_scan_152 rfl rfl (Nat.le_of_ble_eq_true rfl) ?_
            refine gf_goto 9 dX9_scan_155 rfl ?_
            rw [show (if sr = 3 then _ else _ : Option (Int32 × Int32)) = none from (if_neg hs3e).trans ((if_neg hs1e).trans ((if_pos hs2e).trans (if_pos hb2)))] at ih1
            exact gf_lw ih1 ⟨rfl, rfl, lvE (nI_1 jz), trivial⟩
          · have hb2 : ¬ b = 2 := fun w => zc125 (by rw [w]; rfl)
            refine gf_aload_n 0 dX9_scan_128 rfl rfl ?_
            refine gf_iload dX9_scan_129 rfl ?_
            refine gf_if_eq 139 dX9_scan_131 rfl (fun zc131 => ?_) (fun zc131 => ?_)
            · have gl0 : gl = false := by cases gl; rfl; exact absurd zc131 (by decide)
              rw [gl0] at hgl
              have hq := of_decide_eq_false hgl.symm
              have hb1 : ¬ b = 1 := fun w => hq (Or.inl w)
              refine gf_bipush (23) dX9_scan_139 rfl ?_
              refine gf_iload_n 2 dX9_scan_141 rfl rfl ?_
              refine gf_aload_n 0 dX9_scan_142 rfl rfl ?_
              refine gf_iload_n 2 dX9_scan_143 rfl rfl ?_
              refine gf_callV cmX9_numberAt lkX9_89 imX9_numberAt seX9_numberAt ⟨rfl, by decide⟩ dX9_scan_144 (d1 := d - 1) (by omega) (gt_150 hG) (e_X9_numberAt E (by omega) h hG Y IY (by omega)) rfl rfl (Nat.le_of_ble_eq_true rfl) ?_
              rw [etx]
              refine gf_callV cmX9_addToken lkX9_82 imX9_addToken seX9_addToken ⟨rfl, by decide⟩ dX9_scan_147 (d1 := d - 1) (by omega) (gt_150 hG) (e_X9_addToken E (by omega) (c := c) _ (nI jz) _ h hG Y h12 (by omega)) rfl rfl (Nat.le_of_ble_eq_true rfl) ?_
              refine gf_iload_n 3 dX9_scan_150 rfl rfl ?_
              refine gf_istore_n 1 dX9_scan_151 rfl (Nat.le_of_ble_eq_true rfl) ?_
              refine gf_iinc (1) dX9_scan_152 rfl rfl (Nat.le_of_ble_eq_true rfl) ?_
              refine gf_goto 9 dX9_scan_155 rfl ?_
              rw [show (if sr = 3 then _ else _ : Option (Int32 × Int32)) = some (23, (nmS (txt Z) L jz)) from (if_neg hs3e).trans ((if_neg hs1e).trans ((if_pos hs2e).trans ((if_neg hb2).trans (congrArg (fun z => some (z, nmS (txt Z) L jz)) (if_neg hb1))))), hS] at ih1
              exact gf_lw ih1 ⟨rfl, rfl, lvE (nI_1 jz), trivial⟩
            · have gl1 : gl = true := by cases gl; exact absurd rfl zc131; rfl
              rw [gl1] at hgl
              have hq := of_decide_eq_true hgl.symm
              have hb1 : b = 1 := hq.resolve_right hb2
              refine gf_bipush (25) dX9_scan_134 rfl ?_
              refine gf_goto 141 dX9_scan_136 rfl ?_
              refine gf_iload_n 2 dX9_scan_141 rfl rfl ?_
              refine gf_aload_n 0 dX9_scan_142 rfl rfl ?_
              refine gf_iload_n 2 dX9_scan_143 rfl rfl ?_
              refine gf_callV cmX9_numberAt lkX9_89 imX9_numberAt seX9_numberAt ⟨rfl, by decide⟩ dX9_scan_144 (d1 := d - 1) (by omega) (gt_150 hG) (e_X9_numberAt E (by omega) h hG Y IY (by omega)) rfl rfl (Nat.le_of_ble_eq_true rfl) ?_
              rw [etx]
              refine gf_callV cmX9_addToken lkX9_82 imX9_addToken seX9_addToken ⟨rfl, by decide⟩ dX9_scan_147 (d1 := d - 1) (by omega) (gt_150 hG) (e_X9_addToken E (by omega) (c := c) _ (nI jz) _ h hG Y h12 (by omega)) rfl rfl (Nat.le_of_ble_eq_true rfl) ?_
              refine gf_iload_n 3 dX9_scan_150 rfl rfl ?_
              refine gf_istore_n 1 dX9_scan_151 rfl (Nat.le_of_ble_eq_true rfl) ?_
              refine gf_iinc (1) dX9_scan_152 rfl rfl (Nat.le_of_ble_eq_true rfl) ?_
              refine gf_goto 9 dX9_scan_155 rfl ?_
              rw [show (if sr = 3 then _ else _ : Option (Int32 × Int32)) = some (25, (nmS (txt Z) L jz)) from (if_neg hs3e).trans ((if_neg hs1e).trans ((if_pos hs2e).trans ((if_neg hb2).trans (congrArg (fun z => some (z, nmS (txt Z) L jz)) (if_pos hb1))))), hS] at ih1
              exact gf_lw ih1 ⟨rfl, rfl, lvE (nI_1 jz), trivial⟩
      · have hs1e : sr = 1 := (nI_eq (b := 1) (by omega) (by omega)).mp zc86
        refine gf_iload_n 1 dX9_scan_89 rfl rfl ?_
        refine gf_iconst (1) dX9_scan_90 rfl ?_
        refine gf_icmp_eq 118 dX9_scan_91 rfl (fun zc91 => ?_) (fun zc91 => ?_)
        · have hb1 : b = 1 := (nI_eq (b := 1) (by omega) (by omega)).mp zc91
          refine gf_iload_n 3 dX9_scan_118 rfl rfl ?_
          refine gf_iconst (2) dX9_scan_119 rfl ?_
          refine gf_icmp_ne 150 dX9_scan_120 rfl (fun _ => ?_) (fun q => absurd q (fun w => absurd ((nI_eq (b := 2) (by omega) (by omega)).mp w) (by omega)))
          refine gf_iload_n 3 dX9_scan_150 rfl rfl ?_
          refine gf_istore_n 1 dX9_scan_151 rfl (Nat.le_of_ble_eq_true rfl) ?_
          refine gf_iinc (1) dX9_scan_152 rfl rfl (Nat.le_of_ble_eq_true rfl) ?_
          refine gf_goto 9 dX9_scan_155 rfl ?_
          rw [show (if sr = 3 then _ else _ : Option (Int32 × Int32)) = none from (if_neg hs3e).trans ((if_pos hs1e).trans (if_pos hb1))] at ih1
          exact gf_lw ih1 ⟨rfl, rfl, lvE (nI_1 jz), trivial⟩
        · have hb1 : ¬ b = 1 := fun w => zc91 (by rw [w]; rfl)
          refine gf_aload_n 0 dX9_scan_94 rfl rfl ?_
          refine gf_iload dX9_scan_95 rfl ?_
          refine gf_if_eq 105 dX9_scan_97 rfl (fun zc97 => ?_) (fun zc97 => ?_)
          · have gl0 : gl = false := by cases gl; rfl; exact absurd zc97 (by decide)
            rw [gl0] at hgl
            have hq := of_decide_eq_false hgl.symm
            have hb2 : ¬ b = 2 := fun w => hq (Or.inr w)
            refine gf_aload_n 0 dX9_scan_105 rfl rfl ?_
            refine gf_iload_n 2 dX9_scan_106 rfl rfl ?_
            refine gf_callV cmX9_wordAt lkX9_86 imX9_wordAt seX9_wordAt ⟨rfl, by decide⟩ dX9_scan_107 (d1 := d - 1) (by omega) (gt_150 hG) (e_X9_wordAt E (by omega) h hG Y IY (by omega)) rfl rfl (Nat.le_of_ble_eq_true rfl) ?_
            rw [etx]
            refine gf_iload_n 2 dX9_scan_110 rfl rfl ?_
            refine gf_iconst (0) dX9_scan_111 rfl ?_
            refine gf_callV cmX9_addToken lkX9_82 imX9_addToken seX9_addToken ⟨rfl, by decide⟩ dX9_scan_112 (d1 := d - 1) (by omega) (gt_150 hG) (e_X9_addToken E (by omega) (c := c) _ (nI jz) _ h hG Y h12 (by omega)) rfl rfl (Nat.le_of_ble_eq_true rfl) ?_
            refine gf_goto 150 dX9_scan_115 rfl ?_
            refine gf_iload_n 3 dX9_scan_150 rfl rfl ?_
            refine gf_istore_n 1 dX9_scan_151 rfl (Nat.le_of_ble_eq_true rfl) ?_
            refine gf_iinc (1) dX9_scan_152 rfl rfl (Nat.le_of_ble_eq_true rfl) ?_
            refine gf_goto 9 dX9_scan_155 rfl ?_
            rw [show (if sr = 3 then _ else _ : Option (Int32 × Int32)) = some (nI (wrd (txt Z) L jz), 0) from (if_neg hs3e).trans ((if_pos hs1e).trans ((if_neg hb1).trans (congrArg (fun z => some (z, (0 : Int32))) (if_neg hb2)))), hS] at ih1
            exact gf_lw ih1 ⟨rfl, rfl, lvE (nI_1 jz), trivial⟩
          · have gl1 : gl = true := by cases gl; exact absurd rfl zc97; rfl
            rw [gl1] at hgl
            have hq := of_decide_eq_true hgl.symm
            have hb2 : b = 2 := hq.resolve_left hb1
            refine gf_bipush (25) dX9_scan_100 rfl ?_
            refine gf_goto 110 dX9_scan_102 rfl ?_
            refine gf_iload_n 2 dX9_scan_110 rfl rfl ?_
            refine gf_iconst (0) dX9_scan_111 rfl ?_
            refine gf_callV cmX9_addToken lkX9_82 imX9_addToken seX9_addToken ⟨rfl, by decide⟩ dX9_scan_112 (d1 := d - 1) (by omega) (gt_150 hG) (e_X9_addToken E (by omega) (c := c) _ (nI jz) _ h hG Y h12 (by omega)) rfl rfl (Nat.le_of_ble_eq_true rfl) ?_
            refine gf_goto 150 dX9_scan_115 rfl ?_
            refine gf_iload_n 3 dX9_scan_150 rfl rfl ?_
            refine gf_istore_n 1 dX9_scan_151 rfl (Nat.le_of_ble_eq_true rfl) ?_
            refine gf_iinc (1) dX9_scan_152 rfl rfl (Nat.le_of_ble_eq_true rfl) ?_
            refine gf_goto 9 dX9_scan_155 rfl ?_
            rw [show (if sr = 3 then _ else _ : Option (Int32 × Int32)) = some (25, 0) from (if_neg hs3e).trans ((if_pos hs1e).trans ((if_neg hb1).trans (congrArg (fun z => some (z, (0 : Int32))) (if_pos hb2)))), hS] at ih1
            exact gf_lw ih1 ⟨rfl, rfl, lvE (nI_1 jz), trivial⟩
    · have hs3e : sr = 3 := (nI_eq (b := 3) (by omega) (by omega)).mp zc46
      refine gf_aload_n 0 dX9_scan_49 rfl rfl ?_
      refine gf_ldcS (k := 0) (by decide) rfl rfl dX9_scan_50 ?_
      refine gf_aload_n 0 dX9_scan_52 rfl rfl ?_
      refine gf_getR flX9_25 rfl dX9_scan_53 (gt_150 hG) (gp_150_8 hG) ?_
      refine gf_iload_n 2 dX9_scan_56 rfl rfl ?_
      refine gf_iald 600 dX9_scan_57 (gt_154 hG) (gl_154 hG) rfl (by omega) (by decide) ?_
      rw [show hp_i (hb h 150 8 Y) 154 jz = nI (txt Z jz) from etj]
      refine gf_i2c dX9_scan_58 ?_
      rw [chr_e htj]
      refine gf_callVS cmJ0_indexOf_0f7a4 lkX9_77 imJ0_indexOf_0f7a4 seJ0_indexOf_0f7a4 rfl (show (0 : Nat) < 2 by decide) dX9_scan_59 (d1 := d - 1) (by omega) (e_ix E (by omega) _ htj) rfl rfl (Nat.le_of_ble_eq_true rfl) ?_
      refine gf_if_lt 74 dX9_scan_62 rfl (fun zc62 => ?_) (fun zc62 => ?_)
      · have hsg : ¬ isSg (txt Z jz) := fun w => by rw [show sgI (txt Z jz) = nI (fa_first (sgP (txt Z jz)) 13) from if_pos w] at zc62; exact nI_pos (by omega) zc62
        refine gf_bipush (25) dX9_scan_74 rfl ?_
        refine gf_iload_n 2 dX9_scan_76 rfl rfl ?_
        refine gf_iconst (0) dX9_scan_77 rfl ?_
        refine gf_callV cmX9_addToken lkX9_82 imX9_addToken seX9_addToken ⟨rfl, by decide⟩ dX9_scan_78 (d1 := d - 1) (by omega) (gt_150 hG) (e_X9_addToken E (by omega) (c := c) _ (nI jz) _ h hG Y h12 (by omega)) rfl rfl (Nat.le_of_ble_eq_true rfl) ?_
        refine gf_goto 150 dX9_scan_81 rfl ?_
        refine gf_iload_n 3 dX9_scan_150 rfl rfl ?_
        refine gf_istore_n 1 dX9_scan_151 rfl (Nat.le_of_ble_eq_true rfl) ?_
        refine gf_iinc (1) dX9_scan_152 rfl rfl (Nat.le_of_ble_eq_true rfl) ?_
        refine gf_goto 9 dX9_scan_155 rfl ?_
        rw [show (if sr = 3 then _ else _ : Option (Int32 × Int32)) = some (25, 0) from (if_pos hs3e).trans (congrArg (fun z => some (z, (0 : Int32))) (if_neg hsg)), hS] at ih1
        exact gf_lw ih1 ⟨rfl, rfl, lvE (nI_1 jz), trivial⟩
      · have hsg : isSg (txt Z jz) := by rcases Nat.lt_or_ge (fa_first (sgP (txt Z jz)) 13) 13 with w | w; exact w; exact absurd (by rw [show sgI (txt Z jz) = -1 from if_neg (by omega)]; decide) zc62
        refine gf_aload_n 0 dX9_scan_65 rfl rfl ?_
        refine gf_getR flX9_25 rfl dX9_scan_66 (gt_150 hG) (gp_150_8 hG) ?_
        refine gf_iload_n 2 dX9_scan_69 rfl rfl ?_
        refine gf_iald 600 dX9_scan_70 (gt_154 hG) (gl_154 hG) rfl (by omega) (by decide) ?_
        rw [show hp_i (hb h 150 8 Y) 154 jz = nI (txt Z jz) from etj]
        refine gf_goto 76 dX9_scan_71 rfl ?_
        refine gf_iload_n 2 dX9_scan_76 rfl rfl ?_
        refine gf_iconst (0) dX9_scan_77 rfl ?_
        refine gf_callV cmX9_addToken lkX9_82 imX9_addToken seX9_addToken ⟨rfl, by decide⟩ dX9_scan_78 (d1 := d - 1) (by omega) (gt_150 hG) (e_X9_addToken E (by omega) (c := c) _ (nI jz) _ h hG Y h12 (by omega)) rfl rfl (Nat.le_of_ble_eq_true rfl) ?_
        refine gf_goto 150 dX9_scan_81 rfl ?_
        refine gf_iload_n 3 dX9_scan_150 rfl rfl ?_
        refine gf_istore_n 1 dX9_scan_151 rfl (Nat.le_of_ble_eq_true rfl) ?_
        refine gf_iinc (1) dX9_scan_152 rfl rfl (Nat.le_of_ble_eq_true rfl) ?_
        refine gf_goto 9 dX9_scan_155 rfl ?_
        rw [show (if sr = 3 then _ else _ : Option (Int32 × Int32)) = some (nI (txt Z jz), 0) from (if_pos hs3e).trans (congrArg (fun z => some (z, (0 : Int32))) (if_pos hsg)), hS] at ih1
        exact gf_lw ih1 ⟨rfl, rfl, lvE (nI_1 jz), trivial⟩
theorem e_X9_scan (E : gE) {d : Nat} (hd : 5 ≤ d) {L : Nat} (h : hp_T) (hG : gr h) (Z : Nat → Nat → Int32) (I : txI Z L) : ev E mX9_scan d [.ref (E.1 + 150)] (hb h 150 8 Z) (none) (hb h 150 8 (scZ L Z (L))) := by
  refine ev_of rfl (fun q => absurd q (by decide)) (Nat.le_of_ble_eq_true rfl) ?_
  refine gf_aload_n 0 dX9_scan_0 rfl rfl ?_
  refine gf_iconst (0) dX9_scan_1 rfl ?_
  refine gf_putI flX9_68 rfl rfl dX9_scan_2 (gt_150 hG) ⟨rfl, rfl⟩ ?_
  rw [rd_0]
  refine gf_iconst (0) dX9_scan_5 rfl ?_
  refine gf_istore_n 1 dX9_scan_6 rfl (Nat.le_of_ble_eq_true rfl) ?_
  refine gf_iconst (0) dX9_scan_7 rfl ?_
  refine gf_istore_n 2 dX9_scan_8 rfl (Nat.le_of_ble_eq_true rfl) ?_
  exact gf_lw (l_scan E hd h hG Z I L 0 (by omega)) ⟨rfl, rfl, rfl, trivial⟩
