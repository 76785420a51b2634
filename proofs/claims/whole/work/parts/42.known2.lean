/-! ===== the class: gathered, with what the acts say; force, premium, helps, learn ===== -/
def horS (h : hp_T) : Int32 := if hp_i h 158 1 = -1 then hp_i h 158 0 else hp_i h 158 1
def actK (h : hp_T) (w g n s : Nat) : Prop := actI h n ∧ s ≤ n ∧ horS h = nI s ∧ (∀ a, 1 ≤ a → a ≤ n → hp_i h 163 a = 1 → ∀ b, hp_r h 162 a = some b → tOK h b) ∧ (∀ a, 1 ≤ a → a ≤ n → hp_i h 163 a = 2 → ∃ c, c < w * g ∧ hp_i h 160 a = nI c)
def kS0 (h : hp_T) : kS := (fun o => hp_i h (165 + o), hp_r h 166)
def kn (h : hp_T) (s : Nat) : kS := gthS (hp_i h) (hp_r h 162) s (kS0 h)
theorem hk_0id (h : hp_T) : hk h (kS0 h) = h := hk_id h
theorem itN_none (T : Nat → Option Nat) : ∀ n o, o < n → itN (fun f i => va_up f i none) T n o = none
  | 0, o, h => absurd h (Nat.not_lt_zero o)
  | n + 1, o, h => by
    rw [itN_s]
    unfold va_up
    split
    · rfl
    · exact itN_none T n o (by omega)
theorem notS_1 {F : Nat → Nat → Int32} {R : Nat → Option Nat} {S : kS} {a : Nat} (k : F 163 a = 1) : notS F R S a = (S.1, va_up S.2 (F 159 a).toNatClampNeg (R a)) := if_pos k
theorem notS_2 {F : Nat → Nat → Int32} {R : Nat → Option Nat} {S : kS} {a c p : Nat} (k : F 163 a = 2) (hc : F 160 a = nI c) (hc2 : c < 120) (hp : S.1 0 0 = nI p) (hp2 : p < 2147483648) : notS F R S a = (up2 (up2 (up2 (up2 S.1 3 c (S.1 3 c ||| (1 <<< (F 159 a &&& 31)))) 4 c (S.1 4 c + 1)) 2 p (nI a)) 0 0 (nI p + 1), S.2) := by
  unfold notS
  rw [if_neg (by rw [k]; decide), if_pos k, hc, nI_clamp (by omega), hp, nI_clamp (by omega)]
theorem notS_3 {F : Nat → Nat → Int32} {R : Nat → Option Nat} {S : kS} {a : Nat} (k : F 163 a = 3) : notS F R S a = S := by
  unfold notS
  rw [if_neg (by rw [k]; decide), if_neg (by rw [k]; decide)]
/-- what gathering keeps -/
theorem gth_all {h : hp_T} {n s : Nat} (A : actI h n) (hs : s ≤ n) (S : kS) : ∀ j, j ≤ s → (∀ o, o < 9 → ∀ b, (itN (gthB (hp_i h) (hp_r h 162) s) (gth0 S) j).2 o = some b → ∃ a, 1 ≤ a ∧ a ≤ j ∧ hp_i h 163 a = 1 ∧ hp_r h 162 a = some b) ∧ (∃ p, p ≤ j ∧ (itN (gthB (hp_i h) (hp_r h 162) s) (gth0 S) j).1 0 0 = nI p ∧ ∀ i, i < p → ∃ a, 1 ≤ a ∧ a ≤ j ∧ (itN (gthB (hp_i h) (hp_r h 162) s) (gth0 S) j).1 2 i = nI a ∧ hp_i h 163 a = 2) ∧ (∀ c, c < 120 → ¬ (itN (gthB (hp_i h) (hp_r h 162) s) (gth0 S) j).1 4 c = 0 → ∃ a, 1 ≤ a ∧ a ≤ j ∧ hp_i h 163 a = 2 ∧ hp_i h 160 a = nI c) := by
  intro j
  induction j with
  | zero =>
    intro _
    refine ⟨fun o ho b hb => ?_, ⟨0, Nat.le_refl _, rfl, fun i hi => absurd hi (Nat.not_lt_zero i)⟩, fun c hc hn => absurd ?_ hn⟩
    · exact absurd ((itN_none S.2 9 o ho).symm.trans hb) (by intro q; cases q)
    · show fa_fill (fun _ => 0) (S.1 4) 120 c = 0
      exact fa_fill_in hc
  | succ j ih =>
    intro hj
    obtain ⟨i1, i2, i3⟩ := ih (by omega)
    rw [itN_s]
    generalize itN (gthB (hp_i h) (hp_r h 162) s) (gth0 S) j = Z at i1 i2 i3 ⊢
    have hA1 := A.1
    obtain ⟨kk, k1x, k1, k2⟩ := A.2.2 (j + 1) (by omega) (by omega)
    have old : (∀ o, o < 9 → ∀ b, Z.2 o = some b → ∃ a, 1 ≤ a ∧ a ≤ j + 1 ∧ hp_i h 163 a = 1 ∧ hp_r h 162 a = some b) ∧ (∃ p, p ≤ j + 1 ∧ Z.1 0 0 = nI p ∧ ∀ i, i < p → ∃ a, 1 ≤ a ∧ a ≤ j + 1 ∧ Z.1 2 i = nI a ∧ hp_i h 163 a = 2) ∧ (∀ c, c < 120 → ¬ Z.1 4 c = 0 → ∃ a, 1 ≤ a ∧ a ≤ j + 1 ∧ hp_i h 163 a = 2 ∧ hp_i h 160 a = nI c) := by
      refine ⟨fun o ho b hb => ?_, ?_, fun c hc hn => ?_⟩
      · obtain ⟨a, a1, a2, a3⟩ := i1 o ho b hb
        exact ⟨a, a1, by omega, a3⟩
      · obtain ⟨p, p1, p2, p3⟩ := i2
        refine ⟨p, by omega, p2, fun i hi => ?_⟩
        obtain ⟨a, a1, a2, a3⟩ := p3 i hi
        exact ⟨a, a1, by omega, a3⟩
      · obtain ⟨a, a1, a2, a3⟩ := i3 c hc hn
        exact ⟨a, a1, by omega, a3⟩
    unfold gthB
    split
    · rcases kk with k | k | k
      · rw [notS_1 k]
        refine ⟨fun o ho b hb => ?_, old.2.1, old.2.2⟩
        have hb' : va_up Z.2 (hp_i h 159 (j + 1)).toNatClampNeg (hp_r h 162 (j + 1)) o = some b := hb
        unfold va_up at hb'
        split at hb'
        · exact ⟨j + 1, by omega, Nat.le_refl _, k, hb'⟩
        · exact old.1 o ho b hb'
      · obtain ⟨⟨c0, hc0, ec0⟩, -⟩ := k2 k
        obtain ⟨p, p1, p2, p3⟩ := i2
        rw [notS_2 k ec0 hc0 p2 (by omega)]
        refine ⟨old.1, ⟨p + 1, by omega, ?_, fun i hi => ?_⟩, fun c hc hn => ?_⟩
        · dsimp only
          rw [up2_s, nI_1]
        · dsimp only
          rw [up2_a _ _ (by decide)]
          by_cases e : i = p
          · subst e
            exact ⟨j + 1, by omega, Nat.le_refl _, up2_s _ _ _ _, k⟩
          · obtain ⟨a, a1, a2, a3, a4⟩ := p3 i (by omega)
            exact ⟨a, a1, by omega, by rw [up2_k _ _ e, up2_a _ _ (by decide), up2_a _ _ (by decide)]; exact a3, a4⟩
        · dsimp only at hn
          rw [up2_a _ _ (by decide), up2_a _ _ (by decide)] at hn
          by_cases e : c = c0
          · subst e
            exact ⟨j + 1, by omega, Nat.le_refl _, k, ec0⟩
          · rw [up2_k _ _ e, up2_a _ _ (by decide)] at hn
            exact old.2.2 c hc hn
      · rw [notS_3 k]
        exact old
    · exact old
theorem kn_T {h : hp_T} {w g n s : Nat} (K : actK h w g n s) : ∀ o, o < 9 → ∀ b, (kn h s).2 o = some b → tOK h b := fun o ho b hb => by
  obtain ⟨a, a1, a2, a3, a4⟩ := (gth_all K.1 K.2.1 (kS0 h) s (Nat.le_refl _)).1 o ho b hb
  exact K.2.2.2.1 a a1 (Nat.le_trans a2 K.2.1) a3 b a4
theorem kn_I {h : hp_T} {w g n s : Nat} (K : actK h w g n s) : ∃ p, p ≤ s ∧ knI h p (kn h s) := by
  obtain ⟨p, p1, p2, p3⟩ := (gth_all K.1 K.2.1 (kS0 h) s (Nat.le_refl _)).2.1
  have hn := K.1.1
  have hs := K.2.1
  refine ⟨p, p1, p2, by omega, fun i hi => ?_⟩
  obtain ⟨a, a1, a2, a3, a4⟩ := p3 i hi
  obtain ⟨-, q1, -, q2⟩ := K.1.2.2 a a1 (by omega)
  obtain ⟨x, hx, ex⟩ := q1 (by rw [a4]; decide)
  obtain ⟨⟨c, hc, ec⟩, -⟩ := q2 a4
  exact ⟨a, c, x, ⟨a1, by omega⟩, a3, ⟨hc, ec⟩, hx, ex⟩
theorem kn_M {h : hp_T} {w g n s : Nat} (K : actK h w g n s) (hwg : w * g ≤ 120) : ∀ c, c < 120 → ¬ (kn h s).1 4 c = 0 → c < w * g := fun c hc hn => by
  obtain ⟨a, a1, a2, a3, a4⟩ := (gth_all K.1 K.2.1 (kS0 h) s (Nat.le_refl _)).2.2 c hc hn
  have hA1 := K.1.1
  have hs := K.2.1
  obtain ⟨c', q1, q2⟩ := K.2.2.2.2 a a1 (by omega) a3
  obtain ⟨-, -, -, q3⟩ := K.1.2.2 a a1 (by omega)
  obtain ⟨⟨c2, hc2, ec2⟩, -⟩ := q3 a3
  rw [a4] at q2
  rw [(nI_eq (by omega) (by omega)).mp q2]
  exact q1
theorem e_gather (E : gE) {d : Nat} (hd : 3 ≤ d) {w g n s : Nat} (h : hp_T) (hG : gr h) (K : actK h w g n s) : ev E mX7_gather d [.ref (E.1 + 165), .ref (E.1 + 158)] h none (hk h (kn h s)) := by
  have e := e_X7_gather E hd h hG (kS0 h) K.1 K.2.1 K.2.2.1
  rw [hk_0id] at e
  exact e
abbrev isO (t : Int32) : Prop := 0 ≤ t ∧ t ≤ 8
theorem isO_n {t : Int32} (h : isO t) : ∃ o, o < 9 ∧ t = nI o := by
  have h1 := h.1
  have h2 := h.2
  rw [fa_le, ti_0] at h1
  rw [fa_le, ti_8] at h2
  exact ⟨t.toNatClampNeg, ix_lt h1 (by omega), ix_nI h1⟩
def forV (h : hp_T) (s o : Nat) : Int32 := match (kn h s).2 o with
  | none => -1
  | some b => hp_i h b 0
theorem e_X11_force (E : gE) {d : Nat} (hd : 4 ≤ d) (t : Int32) {w g n s : Nat} (h : hp_T) (hG : gr h) (K : actK h w g n s) : ev E mX11_force d [.ref (E.1 + 0), .int t] h (some (.int (if isO t then forV h s t.toNatClampNeg else -1))) (if isO t then (hk h (kn h s)) else h) := by
  refine ev_of rfl (fun q => absurd q (by decide)) (Nat.le_of_ble_eq_true rfl) ?_
  by_cases ho : isO t
  · rw [if_pos ho, if_pos ho]
    obtain ⟨o, ho9, rfl⟩ := isO_n ho
    rw [nI_clamp (by omega)]
    have hTo := kn_T K o ho9
    cases e : (kn h s).2 o with
    | none =>
      have eF : forV h s o = -1 := by unfold forV; rw [e]
      rw [eF]
      refine gf_iload_n 1 dX11_force_0 rfl rfl ?_
      refine gf_callS cmX11_isOffice lkX11_143 stX11_isOffice dX11_force_1 (d1 := d - 1) (by omega) (e_X11_isOffice E (by omega) (nI o) h) rfl rfl (Nat.le_of_ble_eq_true rfl) ?_
      refine gf_if_ne 9 dX11_force_4 rfl (fun _ => ?_) (fun q => absurd q (fun q => zb_0.mp q ho))
      refine gf_aload_n 0 dX11_force_9 rfl rfl ?_
      refine gf_getR flX11_40 rfl dX11_force_10 (gt_0 hG) (gp_0_4 hG) ?_
      refine gf_aload_n 0 dX11_force_13 rfl rfl ?_
      refine gf_getR flX11_33 rfl dX11_force_14 (gt_0 hG) (gp_0_3 hG) ?_
      refine gf_callV cmX7_gather lkX11_197 imX7_gather seX7_gather ⟨rfl, by decide⟩ dX11_force_17 (d1 := d - 1) (by omega) (gt_165 hG) (e_gather E (by omega) h hG K) rfl rfl (Nat.le_of_ble_eq_true rfl) ?_
      have hG := gr_k (kn h s) hG
      refine gf_aload_n 0 dX11_force_20 rfl rfl ?_
      refine gf_getR flX11_40 rfl dX11_force_21 (gt_0 hG) (gp_0_4 hG) ?_
      refine gf_getR flX11_201 rfl dX11_force_24 (gt_165 hG) (gp_165_1 hG) ?_
      refine gf_iload_n 1 dX11_force_27 rfl rfl ?_
      refine gf_rald 9 dX11_force_28 (gt_166 hG) (by decide) (by decide) (gl_166 hG) rfl ho9 (by decide) e ?_
      refine gf_astore_nN 2 dX11_force_29 rfl (Nat.le_of_ble_eq_true rfl) ?_
      refine gf_aload_nN 2 dX11_force_30 rfl rfl ?_
      refine gf_ifnonnull_no dX11_force_31 ?_
      refine gf_iconst (-1) dX11_force_34 rfl ?_
      refine gf_goto 42 dX11_force_35 rfl ?_
      exact gf_iretE dX11_force_42 rfl (rfl) (rfl)
    | some b =>
      obtain ⟨L, hTb, -, -, -, hb3, -⟩ := hTo b e
      have eF : forV h s o = hp_i h b 0 := by unfold forV; rw [e]
      rw [eF]
      refine gf_iload_n 1 dX11_force_0 rfl rfl ?_
      refine gf_callS cmX11_isOffice lkX11_143 stX11_isOffice dX11_force_1 (d1 := d - 1) (by omega) (e_X11_isOffice E (by omega) (nI o) h) rfl rfl (Nat.le_of_ble_eq_true rfl) ?_
      refine gf_if_ne 9 dX11_force_4 rfl (fun _ => ?_) (fun q => absurd q (fun q => zb_0.mp q ho))
      refine gf_aload_n 0 dX11_force_9 rfl rfl ?_
      refine gf_getR flX11_40 rfl dX11_force_10 (gt_0 hG) (gp_0_4 hG) ?_
      refine gf_aload_n 0 dX11_force_13 rfl rfl ?_
      refine gf_getR flX11_33 rfl dX11_force_14 (gt_0 hG) (gp_0_3 hG) ?_
      refine gf_callV cmX7_gather lkX11_197 imX7_gather seX7_gather ⟨rfl, by decide⟩ dX11_force_17 (d1 := d - 1) (by omega) (gt_165 hG) (e_gather E (by omega) h hG K) rfl rfl (Nat.le_of_ble_eq_true rfl) ?_
      have hG := gr_k (kn h s) hG
      refine gf_aload_n 0 dX11_force_20 rfl rfl ?_
      refine gf_getR flX11_40 rfl dX11_force_21 (gt_0 hG) (gp_0_4 hG) ?_
      refine gf_getR flX11_201 rfl dX11_force_24 (gt_165 hG) (gp_165_1 hG) ?_
      refine gf_iload_n 1 dX11_force_27 rfl rfl ?_
      refine gf_rald 9 dX11_force_28 (gt_166 hG) (by decide) (by decide) (gl_166 hG) rfl ho9 (by decide) e ?_
      refine gf_astore_n 2 dX11_force_29 rfl (Nat.le_of_ble_eq_true rfl) ?_
      refine gf_aload_n 2 dX11_force_30 rfl rfl ?_
      refine gf_ifnonnull_yes 38 dX11_force_31 rfl ?_
      refine gf_aload_n 2 dX11_force_38 rfl rfl ?_
      refine gf_getI flX11_205 rfl dX11_force_39 hTb ?_
      rw [hk_hi h _ hb3]
      exact gf_iretE dX11_force_42 rfl (rfl) (rfl)
  · rw [if_neg ho, if_neg ho]
    refine gf_iload_n 1 dX11_force_0 rfl rfl ?_
    refine gf_callS cmX11_isOffice lkX11_143 stX11_isOffice dX11_force_1 (d1 := d - 1) (by omega) (e_X11_isOffice E (by omega) t h) rfl rfl (Nat.le_of_ble_eq_true rfl) ?_
    refine gf_if_ne 9 dX11_force_4 rfl (fun q => absurd (zb_f ho) q) (fun _ => ?_)
    refine gf_iconst (-1) dX11_force_7 rfl ?_
    exact gf_iretE dX11_force_8 rfl (rfl) (rfl)
/-- the act is a policy that is known -/
abbrev isP (h : hp_T) (s : Int32) (a : Int32) : Prop := ((1 ≤ a ∧ a ≤ hp_i h 158 0) ∧ hp_i h 163 a.toNatClampNeg = 2) ∧ ((1 ≤ a ∧ a ≤ (if hp_i h 158 0 < s then hp_i h 158 0 else s)) ∧ (hp_i h 164 a.toNatClampNeg = 0 ∨ s < hp_i h 164 a.toNatClampNeg))
def preK (h : hp_T) (w g s a : Nat) : kS := takS (goK h w g (kn h s) (hp_i h 160 a).toNatClampNeg) (hp_i h 161 a) ((kn h s).1 4 (hp_i h 160 a).toNatClampNeg - 1) 0
def preS (h : hp_T) (w g s a : Nat) : Int32 × (Nat → Int32) := prmS h (preK h w g s a) ((kn h s).2 (hp_i h 159 a).toNatClampNeg)
theorem e_X11_premium (E : gE) {d : Nat} (hd : 4 ≤ d) (t : Int32) {w g n s : Nat} (h : hp_T) (hG : gr h) (K : actK h w g n s) (C : cty (hp_i h) w g) : ev E mX11_premium d [.ref (E.1 + 0), .int t] h (some (.int (if isP h (horS h) t then (preS h w g s t.toNatClampNeg).1 else -1))) (if isP h (horS h) t then hk h (kR (preK h w g s t.toNatClampNeg) (preS h w g s t.toNatClampNeg).2) else h) := by
  refine ev_of rfl (fun q => absurd q (by decide)) (Nat.le_of_ble_eq_true rfl) ?_
  have hn := cty_n C
  have hA := K.1.1
  by_cases hP : isP h (horS h) t
  · rw [if_pos hP, if_pos hP]
    have h1 := hP.1.1.1
    have h2 := hP.1.1.2
    rw [K.1.2.1] at h2
    rw [fa_le, ti_1] at h1
    rw [fa_le, nI_toInt (by omega)] at h2
    have ha : t = nI t.toNatClampNeg := ix_nI (by omega)
    have ha2 := ix_lt (c := t) (n := n + 1) (by omega) (by omega)
    generalize t.toNatClampNeg = a at ha ha2 hP ⊢
    subst ha
    rw [nI_toInt (by omega)] at h1
    have hk2 : hp_i h 163 a = 2 := by have q := hP.1.2; rw [nI_clamp (by omega)] at q; exact q
    obtain ⟨c, hc, ec⟩ := K.2.2.2.2 a (by omega) (by omega) hk2
    obtain ⟨-, q1, -, -⟩ := K.1.2.2 a (by omega) (by omega)
    obtain ⟨x, hx9, ex⟩ := q1 (by rw [hk2]; decide)
    have eK : preK h w g s a = takS (goK h w g (kn h s) c) (hp_i h 161 a) ((kn h s).1 4 c - 1) 0 := by unfold preK; rw [ec, nI_clamp (by omega)]
    have eS : preS h w g s a = prmS h (preK h w g s a) ((kn h s).2 x) := by unfold preS; rw [ex, nI_clamp (by omega)]
    rw [eS, eK]
    refine gf_aload_n 0 dX11_premium_0 rfl rfl ?_
    refine gf_getR flX11_33 rfl dX11_premium_1 (gt_0 (by first | exact hG | exact gr_k _ hG)) (gp_0_3 (by first | exact hG | exact gr_k _ hG)) ?_
    refine gf_iload_n 1 dX11_premium_4 rfl rfl ?_
    refine gf_callV cmX0_isPolicy lkX11_208 imX0_isPolicy seX0_isPolicy ⟨rfl, by decide⟩ dX11_premium_5 (d1 := d - 1) (by omega) (gt_158 (by first | exact hG | exact gr_k _ hG)) (e_X0_isPolicy E (by omega) (nI a) h hG K.1.2.1 hA) rfl rfl (Nat.le_of_ble_eq_true rfl) ?_
    refine gf_if_eq 29 dX11_premium_8 rfl (fun q => absurd q (fun q => zb_0.mp q hP.1)) (fun _ => ?_)
    refine gf_aload_n 0 dX11_premium_11 rfl rfl ?_
    refine gf_getR flX11_33 rfl dX11_premium_12 (gt_0 (by first | exact hG | exact gr_k _ hG)) (gp_0_3 (by first | exact hG | exact gr_k _ hG)) ?_
    refine gf_iload_n 1 dX11_premium_15 rfl rfl ?_
    refine gf_aload_n 0 dX11_premium_16 rfl rfl ?_
    refine gf_getR flX11_33 rfl dX11_premium_17 (gt_0 (by first | exact hG | exact gr_k _ hG)) (gp_0_3 (by first | exact hG | exact gr_k _ hG)) ?_
    refine gf_callV cmX0_horizon lkX11_211 imX0_horizon seX0_horizon ⟨rfl, by decide⟩ dX11_premium_20 (d1 := d - 1) (by omega) (gt_158 (by first | exact hG | exact gr_k _ hG)) (e_X0_horizon E (by omega) h hG) rfl rfl (Nat.le_of_ble_eq_true rfl) ?_
    refine gf_callV cmX0_knownAt lkX11_215 imX0_knownAt seX0_knownAt ⟨rfl, by decide⟩ dX11_premium_23 (d1 := d - 1) (by omega) (gt_158 (by first | exact hG | exact gr_k _ hG)) (e_X0_knownAt E (by omega) (nI a) (horS h) h hG K.1.2.1 hA) rfl rfl (Nat.le_of_ble_eq_true rfl) ?_
    refine gf_if_ne 31 dX11_premium_26 rfl (fun _ => ?_) (fun q => absurd q (fun q => zb_0.mp q hP.2))
    refine gf_aload_n 0 dX11_premium_31 rfl rfl ?_
    refine gf_getR flX11_40 rfl dX11_premium_32 (gt_0 (by first | exact hG | exact gr_k _ hG)) (gp_0_4 (by first | exact hG | exact gr_k _ hG)) ?_
    refine gf_aload_n 0 dX11_premium_35 rfl rfl ?_
    refine gf_getR flX11_33 rfl dX11_premium_36 (gt_0 (by first | exact hG | exact gr_k _ hG)) (gp_0_3 (by first | exact hG | exact gr_k _ hG)) ?_
    refine gf_callV cmX7_gather lkX11_197 imX7_gather seX7_gather ⟨rfl, by decide⟩ dX11_premium_39 (d1 := d - 1) (by omega) (gt_165 (by first | exact hG | exact gr_k _ hG)) (e_gather E (by omega) h hG K) rfl rfl (Nat.le_of_ble_eq_true rfl) ?_
    refine gf_aload_n 0 dX11_premium_42 rfl rfl ?_
    refine gf_getR flX11_33 rfl dX11_premium_43 (gt_0 (by first | exact hG | exact gr_k _ hG)) (gp_0_3 (by first | exact hG | exact gr_k _ hG)) ?_
    refine gf_getR flX11_219 rfl dX11_premium_46 (gt_158 (by first | exact hG | exact gr_k _ hG)) (gp_158_3 (by first | exact hG | exact gr_k _ hG)) ?_
    refine gf_iload_n 1 dX11_premium_49 rfl rfl ?_
    refine gf_iald 201 dX11_premium_50 (gt_160 (by first | exact hG | exact gr_k _ hG)) (gl_160 (by first | exact hG | exact gr_k _ hG)) rfl (by omega) (by decide) ?_
    rw [show hp_i (hk h (kn h s)) 160 a = nI c from ec]
    refine gf_istore_n 2 dX11_premium_51 rfl (Nat.le_of_ble_eq_true rfl) ?_
    refine gf_aload_n 0 dX11_premium_52 rfl rfl ?_
    refine gf_getR flX11_49 rfl dX11_premium_53 (gt_0 (by first | exact hG | exact gr_k _ hG)) (gp_0_5 (by first | exact hG | exact gr_k _ hG)) ?_
    refine gf_iload_n 2 dX11_premium_56 rfl rfl ?_
    refine gf_callV cmX6_goTo lkX11_222 imX6_goTo seX6_goTo ⟨rfl, by decide⟩ dX11_premium_57 (d1 := d - 1) (by omega) (gt_171 (by first | exact hG | exact gr_k _ hG)) (e_X6_goTo E (by omega) h hG C (kn h s) hc) rfl rfl (Nat.le_of_ble_eq_true rfl) ?_
    refine gf_aload_n 0 dX11_premium_60 rfl rfl ?_
    refine gf_getR flX11_49 rfl dX11_premium_61 (gt_0 (by first | exact hG | exact gr_k _ hG)) (gp_0_5 (by first | exact hG | exact gr_k _ hG)) ?_
    refine gf_aload_n 0 dX11_premium_64 rfl rfl ?_
    refine gf_getR flX11_33 rfl dX11_premium_65 (gt_0 (by first | exact hG | exact gr_k _ hG)) (gp_0_3 (by first | exact hG | exact gr_k _ hG)) ?_
    refine gf_getR flX11_225 rfl dX11_premium_68 (gt_158 (by first | exact hG | exact gr_k _ hG)) (gp_158_4 (by first | exact hG | exact gr_k _ hG)) ?_
    refine gf_iload_n 1 dX11_premium_71 rfl rfl ?_
    refine gf_iald 201 dX11_premium_72 (gt_161 (by first | exact hG | exact gr_k _ hG)) (gl_161 (by first | exact hG | exact gr_k _ hG)) rfl (by omega) (by decide) ?_
    refine gf_aload_n 0 dX11_premium_73 rfl rfl ?_
    refine gf_getR flX11_40 rfl dX11_premium_74 (gt_0 (by first | exact hG | exact gr_k _ hG)) (gp_0_4 (by first | exact hG | exact gr_k _ hG)) ?_
    refine gf_getR flX11_228 rfl dX11_premium_77 (gt_165 (by first | exact hG | exact gr_k _ hG)) (gp_165_4 (by first | exact hG | exact gr_k _ hG)) ?_
    refine gf_iload_n 2 dX11_premium_80 rfl rfl ?_
    refine gf_iald 120 dX11_premium_81 (gt_169 (by first | exact hG | exact gr_k _ hG)) (gl_169 (by first | exact hG | exact gr_k _ hG)) rfl (by omega) (by decide) ?_
    refine gf_iconst (1) dX11_premium_82 rfl ?_
    refine gf_isub dX11_premium_83 ?_
    refine gf_iconst (0) dX11_premium_84 rfl ?_
    refine gf_callV cmX6_takePolicy lkX11_231 imX6_takePolicy seX6_takePolicy ⟨rfl, by decide⟩ dX11_premium_85 (d1 := d - 1) (by omega) (gt_171 (by first | exact hG | exact gr_k _ hG)) (e_X6_takePolicy E (by omega) (hp_i h 161 a) ((kn h s).1 4 c - 1) 0 h hG (goK h w g (kn h s) c)) rfl rfl (Nat.le_of_ble_eq_true rfl) ?_
    refine gf_aload_n 0 dX11_premium_88 rfl rfl ?_
    refine gf_getR flX11_49 rfl dX11_premium_89 (gt_0 (by first | exact hG | exact gr_k _ hG)) (gp_0_5 (by first | exact hG | exact gr_k _ hG)) ?_
    refine gf_aload_n 0 dX11_premium_92 rfl rfl ?_
    refine gf_getR flX11_40 rfl dX11_premium_93 (gt_0 (by first | exact hG | exact gr_k _ hG)) (gp_0_4 (by first | exact hG | exact gr_k _ hG)) ?_
    refine gf_getR flX11_201 rfl dX11_premium_96 (gt_165 (by first | exact hG | exact gr_k _ hG)) (gp_165_1 (by first | exact hG | exact gr_k _ hG)) ?_
    refine gf_aload_n 0 dX11_premium_99 rfl rfl ?_
    refine gf_getR flX11_33 rfl dX11_premium_100 (gt_0 (by first | exact hG | exact gr_k _ hG)) (gp_0_3 (by first | exact hG | exact gr_k _ hG)) ?_
    refine gf_getR flX11_234 rfl dX11_premium_103 (gt_158 (by first | exact hG | exact gr_k _ hG)) (gp_158_2 (by first | exact hG | exact gr_k _ hG)) ?_
    refine gf_iload_n 1 dX11_premium_106 rfl rfl ?_
    refine gf_iald 201 dX11_premium_107 (gt_159 (by first | exact hG | exact gr_k _ hG)) (gl_159 (by first | exact hG | exact gr_k _ hG)) rfl (by omega) (by decide) ?_
    refine gf_rald 9 dX11_premium_108 (gt_166 (by first | exact hG | exact gr_k _ hG)) (by decide) (by decide) (gl_166 (by first | exact hG | exact gr_k _ hG)) ex hx9 (by decide) rfl ?_
    refine gf_callV cmX6_premiumBy lkX11_237 imX6_premiumBy seX6_premiumBy ⟨rfl, by decide⟩ dX11_premium_109 (d1 := d - 1) (by omega) (gt_171 (by first | exact hG | exact gr_k _ hG)) (e_X6_premiumBy E (by omega) h hG (takS (goK h w g (kn h s) c) (hp_i h 161 a) ((kn h s).1 4 c - 1) 0) ((kn h s).2 x) (fun b hb => kn_T K x hx9 b hb)) rfl rfl (Nat.le_of_ble_eq_true rfl) ?_
    exact gf_iretE dX11_premium_112 rfl (rfl) (rfl)
  · rw [if_neg hP, if_neg hP]
    refine gf_aload_n 0 dX11_premium_0 rfl rfl ?_
    refine gf_getR flX11_33 rfl dX11_premium_1 (gt_0 hG) (gp_0_3 hG) ?_
    refine gf_iload_n 1 dX11_premium_4 rfl rfl ?_
    refine gf_callV cmX0_isPolicy lkX11_208 imX0_isPolicy seX0_isPolicy ⟨rfl, by decide⟩ dX11_premium_5 (d1 := d - 1) (by omega) (gt_158 hG) (e_X0_isPolicy E (by omega) t h hG K.1.2.1 hA) rfl rfl (Nat.le_of_ble_eq_true rfl) ?_
    refine gf_if_eq 29 dX11_premium_8 rfl (fun zc8 => ?_) (fun zc8 => ?_)
    · refine gf_iconst (-1) dX11_premium_29 rfl ?_
      exact gf_iretE dX11_premium_30 rfl (rfl) (rfl)
    · refine gf_aload_n 0 dX11_premium_11 rfl rfl ?_
      refine gf_getR flX11_33 rfl dX11_premium_12 (gt_0 hG) (gp_0_3 hG) ?_
      refine gf_iload_n 1 dX11_premium_15 rfl rfl ?_
      refine gf_aload_n 0 dX11_premium_16 rfl rfl ?_
      refine gf_getR flX11_33 rfl dX11_premium_17 (gt_0 hG) (gp_0_3 hG) ?_
      refine gf_callV cmX0_horizon lkX11_211 imX0_horizon seX0_horizon ⟨rfl, by decide⟩ dX11_premium_20 (d1 := d - 1) (by omega) (gt_158 hG) (e_X0_horizon E (by omega) h hG) rfl rfl (Nat.le_of_ble_eq_true rfl) ?_
      refine gf_callV cmX0_knownAt lkX11_215 imX0_knownAt seX0_knownAt ⟨rfl, by decide⟩ dX11_premium_23 (d1 := d - 1) (by omega) (gt_158 hG) (e_X0_knownAt E (by omega) t (horS h) h hG K.1.2.1 hA) rfl rfl (Nat.le_of_ble_eq_true rfl) ?_
      refine gf_if_ne 31 dX11_premium_26 rfl (fun zc26 => ?_) (fun zc26 => ?_)
      · exact absurd ⟨zb_1.mp zc8, zb_1.mp zc26⟩ hP
      · refine gf_iconst (-1) dX11_premium_29 rfl ?_
        exact gf_iretE dX11_premium_30 rfl (rfl) (rfl)
abbrev isH (h : hp_T) (c : Int32) : Prop := (0 ≤ c ∧ c < hp_i h 1 2) ∧ ¬ hp_i h 2 c.toNatClampNeg = 0
theorem isH_n {h : hp_T} {w g : Nat} {t : Int32} (C : cty (hp_i h) w g) (H : isH h t) : ∃ c, c < w * g ∧ t = nI c := by
  have hn := cty_n C
  have h1 := H.1.1
  have h2 := H.1.2
  rw [fa_le, ti_0] at h1
  rw [C.2.2.2.1, fa_lt, nI_toInt (by omega)] at h2
  exact ⟨t.toNatClampNeg, ix_lt h1 (by omega), ix_nI h1⟩
theorem e_X11_helps (E : gE) {d : Nat} (hd : 5 ≤ d) (t : Int32) {w g n s : Nat} (h : hp_T) (hG : gr h) (K : actK h w g n s) (C : cty (hp_i h) w g) : ev E mX11_helps d [.ref (E.1 + 0), .int t] h (some (.int (if isH h t then (hlS h w g (kn h s) t.toNatClampNeg 9).1 else -1))) (if isH h t then hk h (kR (hlS0 h w g (kn h s) t.toNatClampNeg) (hlS h w g (kn h s) t.toNatClampNeg 9).2) else h) := by
  refine ev_of rfl (fun q => absurd q (by decide)) (Nat.le_of_ble_eq_true rfl) ?_
  have hn := cty_n C
  by_cases hP : isH h t
  · rw [if_pos hP, if_pos hP]
    obtain ⟨c, hc, ec⟩ := isH_n C hP
    subst ec
    rw [nI_clamp (by omega)]
    refine gf_aload_n 0 dX11_helps_0 rfl rfl ?_
    refine gf_getR flX11_10 rfl dX11_helps_1 (gt_0 (by first | exact hG | exact gr_k _ hG)) (gp_0_0 (by first | exact hG | exact gr_k _ hG)) ?_
    refine gf_iload_n 1 dX11_helps_4 rfl rfl ?_
    refine gf_callV cmX1_hasHouse lkX11_178 imX1_hasHouse seX1_hasHouse ⟨rfl, by decide⟩ dX11_helps_5 (d1 := d - 1) (by omega) (gt_1 (by first | exact hG | exact gr_k _ hG)) (e_X1_hasHouse E (by omega) (nI c) h hG C) rfl rfl (Nat.le_of_ble_eq_true rfl) ?_
    refine gf_if_ne 13 dX11_helps_8 rfl (fun _ => ?_) (fun q => absurd q (fun q => zb_0.mp q hP))
    refine gf_aload_n 0 dX11_helps_13 rfl rfl ?_
    refine gf_getR flX11_40 rfl dX11_helps_14 (gt_0 (by first | exact hG | exact gr_k _ hG)) (gp_0_4 (by first | exact hG | exact gr_k _ hG)) ?_
    refine gf_aload_n 0 dX11_helps_17 rfl rfl ?_
    refine gf_getR flX11_33 rfl dX11_helps_18 (gt_0 (by first | exact hG | exact gr_k _ hG)) (gp_0_3 (by first | exact hG | exact gr_k _ hG)) ?_
    refine gf_callV cmX7_gather lkX11_197 imX7_gather seX7_gather ⟨rfl, by decide⟩ dX11_helps_21 (d1 := d - 1) (by omega) (gt_165 (by first | exact hG | exact gr_k _ hG)) (e_gather E (by omega) h hG K) rfl rfl (Nat.le_of_ble_eq_true rfl) ?_
    refine gf_aload_n 0 dX11_helps_24 rfl rfl ?_
    refine gf_getR flX11_49 rfl dX11_helps_25 (gt_0 (by first | exact hG | exact gr_k _ hG)) (gp_0_5 (by first | exact hG | exact gr_k _ hG)) ?_
    refine gf_iload_n 1 dX11_helps_28 rfl rfl ?_
    refine gf_callV cmX6_helpersAt lkX11_241 imX6_helpersAt seX6_helpersAt ⟨rfl, by decide⟩ dX11_helps_29 (d1 := d - 1) (by omega) (gt_171 (by first | exact hG | exact gr_k _ hG)) (e_X6_helpersAt E (by omega) h hG C (kn h s) hc (kn_T K)) rfl rfl (Nat.le_of_ble_eq_true rfl) ?_
    exact gf_iretE dX11_helps_32 rfl (rfl) (rfl)
  · rw [if_neg hP, if_neg hP]
    refine gf_aload_n 0 dX11_helps_0 rfl rfl ?_
    refine gf_getR flX11_10 rfl dX11_helps_1 (gt_0 hG) (gp_0_0 hG) ?_
    refine gf_iload_n 1 dX11_helps_4 rfl rfl ?_
    refine gf_callV cmX1_hasHouse lkX11_178 imX1_hasHouse seX1_hasHouse ⟨rfl, by decide⟩ dX11_helps_5 (d1 := d - 1) (by omega) (gt_1 hG) (e_X1_hasHouse E (by omega) t h hG C) rfl rfl (Nat.le_of_ble_eq_true rfl) ?_
    refine gf_if_ne 13 dX11_helps_8 rfl (fun q => absurd (zb_f hP) q) (fun _ => ?_)
    refine gf_iconst (-1) dX11_helps_11 rfl ?_
    exact gf_iretE dX11_helps_12 rfl (rfl) (rfl)
/-- all known, the helpers too -/
def lrn (h : hp_T) (w g s : Nat) : kS := itN (fhB h w g) (kn h s) (w * g)
theorem e_X11_learn (E : gE) {d : Nat} (hd : 6 ≤ d) {w g n s : Nat} (h : hp_T) (hG : gr h) (K : actK h w g n s) (C : cty (hp_i h) w g) : ev E mX11_learn d [.ref (E.1 + 0)] h (none) (hk h (lrn h w g s)) := by
  refine ev_of rfl (fun q => absurd q (by decide)) (Nat.le_of_ble_eq_true rfl) ?_
  refine gf_aload_n 0 dX11_learn_0 rfl rfl ?_
  refine gf_getR flX11_40 rfl dX11_learn_1 (gt_0 (by first | exact hG | exact gr_k _ hG)) (gp_0_4 (by first | exact hG | exact gr_k _ hG)) ?_
  refine gf_aload_n 0 dX11_learn_4 rfl rfl ?_
  refine gf_getR flX11_33 rfl dX11_learn_5 (gt_0 (by first | exact hG | exact gr_k _ hG)) (gp_0_3 (by first | exact hG | exact gr_k _ hG)) ?_
  refine gf_callV cmX7_gather lkX11_197 imX7_gather seX7_gather ⟨rfl, by decide⟩ dX11_learn_8 (d1 := d - 1) (by omega) (gt_165 (by first | exact hG | exact gr_k _ hG)) (e_gather E (by omega) h hG K) rfl rfl (Nat.le_of_ble_eq_true rfl) ?_
  refine gf_aload_n 0 dX11_learn_11 rfl rfl ?_
  refine gf_getR flX11_49 rfl dX11_learn_12 (gt_0 (by first | exact hG | exact gr_k _ hG)) (gp_0_5 (by first | exact hG | exact gr_k _ hG)) ?_
  refine gf_callV cmX6_findHelpers lkX11_334 imX6_findHelpers seX6_findHelpers ⟨rfl, by decide⟩ dX11_learn_15 (d1 := d - 1) (by omega) (gt_171 (by first | exact hG | exact gr_k _ hG)) (e_X6_findHelpers E (by omega) h hG C (kn h s) (kn_T K)) rfl rfl (Nat.le_of_ble_eq_true rfl) ?_
  exact gf_vretE dX11_learn_18 rfl (rfl)
