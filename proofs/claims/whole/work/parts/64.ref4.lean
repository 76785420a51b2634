/-! ===== the reference: holds, lastOf, force, premium, helps ===== -/
abbrev mcty (M : mM) (w g : Nat) : Prop := (1 ≤ w ∧ w ≤ 12 ∧ 1 ≤ g ∧ g ≤ 10) ∧ M 0 42 = nI w ∧ M 0 43 = nI g
/-- the terms of the act a, as the reference keeps them: k statements -/
def mtI (M : mM) (a k : Nat) : Prop := k ≤ 24 ∧ M 25 a = nI k ∧ ∀ q, q < k → ¬ M 26 (24 * a + q) = 5 → ∃ x m, M 27 (24 * a + q) = nI x ∧ M 28 (24 * a + q) = nI (x + m) ∧ x + m ≤ 640 ∧ okS (fun j => M 29 (640 * a + j)) x m
/-- acts, city, terms in order -/
def refI (M : mM) (n s w g : Nat) : Prop := macI M n s ∧ mcty M w g ∧ (∀ a, 1 ≤ a → a ≤ n → M 47 a = 1 → ∃ k, mtI M a k) ∧ (∀ a, 1 ≤ a → a ≤ n → ¬ M 47 a = 3 → ∃ o, o < 9 ∧ M 48 a = nI o) ∧ (∀ a, 1 ≤ a → a ≤ n → M 47 a = 2 → (∃ c, c < w * g ∧ M 49 a = nI c))
/-- the statement number q of the act a -/
def tel (V : Int32 → Int64) (M : mM) (a q : Nat) (W : tW) : tW := tlS V (fun j => M 29 (640 * a + j)) (M 27 (24 * a + q)).toNatClampNeg W.2 ((M 28 (24 * a + q)).toNatClampNeg - (M 27 (24 * a + q)).toNatClampNeg)
def hoF (V : Int32 → Int64) (M : mM) (a : Nat) (kind : Int32) : Nat → Nat → tW → Bool × tW
  | 0, _, W => (false, W)
  | kz + 1, q, W => if M 26 (24 * a + q) = kind then (if (tel V M a q W).2 0 = 1 then (true, tel V M a q W) else hoF V M a kind kz (q + 1) (tel V M a q W)) else hoF V M a kind kz (q + 1) W
def hoS (V : Int32 → Int64) (M : mM) (a : Nat) (kind : Int32) (W : tW) : Bool × tW := hoF V M a kind (M 25 a).toNatClampNeg 0 W
def laB (M : mM) (a : Nat) (kind : Int32) (f : Int32) (q : Nat) : Int32 := if M 26 (24 * a + q) = kind then nI (24 * a + q) else f
def laO (M : mM) (a : Nat) (kind : Int32) : Int32 := itN (laB M a kind) (-1) (M 25 a).toNatClampNeg
theorem la_at (M : mM) (a : Nat) (kind : Int32) : ∀ k, itN (laB M a kind) (-1) k = -1 ∨ ∃ q, q < k ∧ itN (laB M a kind) (-1) k = nI (24 * a + q) ∧ M 26 (24 * a + q) = kind
  | 0 => Or.inl rfl
  | k + 1 => by
    rw [itN_s]
    unfold laB
    split
    · rename_i e
      exact Or.inr ⟨k, Nat.lt_succ_self k, rfl, e⟩
    · rcases la_at M a kind k with q | ⟨q, q1, q2, q3⟩
      · exact Or.inl q
      · exact Or.inr ⟨q, by omega, q2, q3⟩
theorem mtO_at (M : mM) (s : Nat) (o : Int32) : ∀ n, mtO M s o n = 0 ∨ (1 ≤ mtO M s o n ∧ mtO M s o n ≤ n ∧ M 47 (mtO M s o n) = 1)
  | 0 => Or.inl rfl
  | n + 1 => by
    show mtB M s o (mtO M s o n) n = 0 ∨ _
    have e : mtO M s o (n + 1) = mtB M s o (mtO M s o n) n := rfl
    rw [e]
    have ih := mtO_at M s o n
    generalize mtO M s o n = f at ih ⊢
    unfold mtB
    split
    · rename_i q
      exact Or.inr ⟨by omega, Nat.le_refl _, q.1⟩
    · rcases ih with q | ⟨q1, q2, q3⟩
      · exact Or.inl q
      · exact Or.inr ⟨q1, by omega, q3⟩
def askM (M : mM) (c v o l : Int32) : mM := up2 (up2 (up2 (up2 M 0 71 c) 0 72 v) 0 73 o) 0 74 l
theorem sP_sl (h : hp_T) (M : mM) (N : mN) (W : tW) (k : Nat) (v : Int32) (hk : k ≠ 70) : hp_setI (sP h M N W) 247 k v = sP h (up2 M 0 k v) N W := by
  unfold sP
  rw [mI_0]
  refine congrArg (fun z => hm h z _) ?_
  funext x i
  unfold up2
  by_cases h1 : x = 0 ∧ i = k
  · rw [if_pos h1, if_neg (fun q => hk (h1.2.symm.trans q.2)), if_pos h1]
  · rw [if_neg h1]
    by_cases h2 : x = 0 ∧ i = 70
    · rw [if_pos h2, if_pos h2]
    · rw [if_neg h2, if_neg h2, if_neg h1]
theorem sP_id (h : hp_T) {M : mM} (N : mN) {p : Nat} (e : M 0 70 = nI p) : hm h M N = sP h M N (p, N 52) := by
  unfold sP
  rw [uprL_id, show up2 M 0 70 (nI p) = M from by
    funext x i
    unfold up2
    split
    · rename_i q
      rw [q.1, q.2, e]
    · rfl]
theorem e_X12_asksOf (E : gE) {d : Nat} (hd : 0 ≤ d) (c v o l : Int32) (h : hp_T) (hG : gr h) (M : mM) (N : mN) (W : tW) : ev E mX12_asksOf d [.ref (E.1 + 247), .int c, .int v, .int o, .int l] (sP h M N W) (none) (sP h (askM M c v o l) N W) := by
  refine ev_of rfl (fun q => absurd q (by decide)) (Nat.le_of_ble_eq_true rfl) ?_
  refine gf_aload_n 0 dX12_asksOf_0 rfl rfl ?_
  refine gf_iload_n 1 dX12_asksOf_1 rfl rfl ?_
  refine gf_putI flX12_523 rfl rfl dX12_asksOf_2 (gt_247 hG) ⟨rfl, rfl⟩ ?_
  rw [sP_sl _ _ _ _ _ _ (by decide)]
  refine gf_aload_n 0 dX12_asksOf_5 rfl rfl ?_
  refine gf_iload_n 2 dX12_asksOf_6 rfl rfl ?_
  refine gf_putI flX12_526 rfl rfl dX12_asksOf_7 (gt_247 hG) ⟨rfl, rfl⟩ ?_
  rw [sP_sl _ _ _ _ _ _ (by decide)]
  refine gf_aload_n 0 dX12_asksOf_10 rfl rfl ?_
  refine gf_iload_n 3 dX12_asksOf_11 rfl rfl ?_
  refine gf_putI flX12_529 rfl rfl dX12_asksOf_12 (gt_247 hG) ⟨rfl, rfl⟩ ?_
  rw [sP_sl _ _ _ _ _ _ (by decide)]
  refine gf_aload_n 0 dX12_asksOf_15 rfl rfl ?_
  refine gf_iload dX12_asksOf_16 rfl ?_
  refine gf_putI flX12_532 rfl rfl dX12_asksOf_18 (gt_247 hG) ⟨rfl, rfl⟩ ?_
  rw [sP_sl _ _ _ _ _ _ (by decide)]
  exact gf_vretE dX12_asksOf_21 rfl (rfl)
theorem l_X12_holds (E : gE) {d : Nat} (hd : 5 ≤ d) {n s w g cc a k : Nat} (kind : Int32) (h : hp_T) (hG : gr h) (M : mM) (N : mN) (A : macI M n s) (C : mcty M w g) (hcc : M 0 71 = nI cc) (hcw : cc < w * g) (ha : a ≤ 200) (T : mtI M a k) (hk5 : ¬ kind = 5) : ∀ (kz jz : Nat) (W : tW), jz + kz = k → gf E mX12_holds d 2 [(0, .ref (E.1 + 247)), (1, .int (nI a)), (2, .int kind), (3, .int (nI jz))] [] (sP h M N W) (some (.int (bI (hoF (mtV M n s w g cc) M a kind (kz) (jz) W).1))) (sP h M N (hoF (mtV M n s w g cc) M a kind (kz) (jz) W).2) := by
  have hk24 := T.1
  intro kz
  induction kz with
  | zero =>
    intro jz W hj
    have hj : k = jz := by omega
    subst hj
    refine gf_iload_n 3 dX12_holds_2 rfl rfl ?_
    refine gf_aload_n 0 dX12_holds_3 rfl rfl ?_
    refine gf_getR flX12_87 rfl dX12_holds_4 (gt_247 hG) (gp_247_32 hG) ?_
    refine gf_iload_n 1 dX12_holds_7 rfl rfl ?_
    refine gf_iald 201 dX12_holds_8 (gt_272 hG) (gl_272 hG) rfl (by omega) (by decide) ?_
    rw [show hp_i (sP h M N W) 272 a = nI k from T.2.1]
    refine gf_icmp_ge 51 dX12_holds_9 rfl (fun _ => ?_) (fun q => absurd (Int32.le_refl _) q)
    refine gf_iconst (0) dX12_holds_51 rfl ?_
    exact gf_bret dX12_holds_52 rfl (rfl) (rfl)
  | succ kz ih =>
    intro jz W hj
    refine gf_iload_n 3 dX12_holds_2 rfl rfl ?_
    refine gf_aload_n 0 dX12_holds_3 rfl rfl ?_
    refine gf_getR flX12_87 rfl dX12_holds_4 (gt_247 hG) (gp_247_32 hG) ?_
    refine gf_iload_n 1 dX12_holds_7 rfl rfl ?_
    refine gf_iald 201 dX12_holds_8 (gt_272 hG) (gl_272 hG) rfl (by omega) (by decide) ?_
    rw [show hp_i (sP h M N W) 272 a = nI k from T.2.1]
    refine gf_icmp_ge 51 dX12_holds_9 rfl (fun q => absurd q (nI_ge (by omega) (by omega))) (fun _ => ?_)
    refine gf_aload_n 0 dX12_holds_12 rfl rfl ?_
    refine gf_getR flX12_90 rfl dX12_holds_13 (gt_247 hG) (gp_247_33 hG) ?_
    refine gf_bipush (24) dX12_holds_16 rfl ?_
    refine gf_iload_n 1 dX12_holds_18 rfl rfl ?_
    refine gf_imul dX12_holds_19 ?_
    refine gf_iload_n 3 dX12_holds_20 rfl rfl ?_
    refine gf_iadd dX12_holds_21 ?_
    refine gf_iald 4824 dX12_holds_22 (gt_273 hG) (gl_273 hG) (show (24 : Int32) * nI a + nI jz = nI (24 * a + jz) from by rw [show (24 : Int32) * nI a = nI (24 * a) from pk_mul 24 a, nI_add]) (by omega) (by decide) ?_
    refine gf_iload_n 2 dX12_holds_23 rfl rfl ?_
    refine gf_icmp_ne 45 dX12_holds_24 rfl (fun zc24 => ?_) (fun zc24 => ?_)
    · refine gf_iinc (1) dX12_holds_45 rfl rfl (Nat.le_of_ble_eq_true rfl) ?_
      refine gf_goto 2 dX12_holds_48 rfl ?_
      rw [show (hoF (mtV M n s w g cc) M a kind (kz + 1) (jz) W) = (hoF (mtV M n s w g cc) M a kind (kz) (jz + 1) W) from (if_neg zc24)]
      exact gf_lw (ih (jz + 1) _ (by omega)) ⟨rfl, rfl, rfl, lvE (nI_1 jz), trivial⟩
    · have hk5q : ¬ M 26 (24 * a + jz) = 5 := fun q => hk5 (by rw [← zc24]; exact q)
      obtain ⟨x, m, hx, hy, hxm, hok⟩ := T.2.2 jz (by omega) hk5q
      have eT : (tel (mtV M n s w g cc) M a jz W) = tlS (mtV M n s w g cc) (fun j => M 29 (640 * a + j)) x W.2 m := by unfold tel; rw [hx, hy, nI_clamp (by omega), nI_clamp (by omega), Nat.add_sub_cancel_left]
      refine gf_aload_n 0 dX12_holds_27 rfl rfl ?_
      refine gf_iload_n 1 dX12_holds_28 rfl rfl ?_
      refine gf_bipush (24) dX12_holds_29 rfl ?_
      refine gf_iload_n 1 dX12_holds_31 rfl rfl ?_
      refine gf_imul dX12_holds_32 ?_
      refine gf_iload_n 3 dX12_holds_33 rfl rfl ?_
      refine gf_iadd dX12_holds_34 ?_
      rw [(show (24 : Int32) * nI a + nI jz = nI (24 * a + jz) from by rw [show (24 : Int32) * nI a = nI (24 * a) from pk_mul 24 a, nI_add])]
      refine gf_callV cmX12_tells lkX12_545 imX12_tells seX12_tells ⟨rfl, by decide⟩ dX12_holds_35 (d1 := d - 1) (by omega) (gt_247 hG) (e_X12_tells E (by omega) (a := a) (r := 24 * a + jz) (x := x) (m := m) h hG M N A C hcc hcw ha hxm hok W hx hy (by omega)) rfl rfl (Nat.le_of_ble_eq_true rfl) ?_
      rw [← eT]
      refine gf_lconst (1) dX12_holds_38 rfl ?_
      refine gf_lcmp dX12_holds_39 ?_
      refine gf_if_ne 45 dX12_holds_40 rfl (fun zc40 => ?_) (fun zc40 => ?_)
      · refine gf_iinc (1) dX12_holds_45 rfl rfl (Nat.le_of_ble_eq_true rfl) ?_
        refine gf_goto 2 dX12_holds_48 rfl ?_
        rw [show (hoF (mtV M n s w g cc) M a kind (kz + 1) (jz) W) = (hoF (mtV M n s w g cc) M a kind (kz) (jz + 1) (tel (mtV M n s w g cc) M a jz W)) from ((if_pos zc24).trans (if_neg (fun q => zc40 ((lg_cmp_eq _ _).mpr q))))]
        exact gf_lw (ih (jz + 1) _ (by omega)) ⟨rfl, rfl, rfl, lvE (nI_1 jz), trivial⟩
      · refine gf_iconst (1) dX12_holds_43 rfl ?_
        exact gf_bret dX12_holds_44 rfl (by rw [show (hoF (mtV M n s w g cc) M a kind (kz + 1) (jz) W) = (true, (tel (mtV M n s w g cc) M a jz W)) from (if_pos zc24).trans (if_pos ((lg_cmp_eq _ _).mp zc40))]; rfl) (by rw [show (hoF (mtV M n s w g cc) M a kind (kz + 1) (jz) W) = (true, (tel (mtV M n s w g cc) M a jz W)) from (if_pos zc24).trans (if_pos ((lg_cmp_eq _ _).mp zc40))])
theorem e_X12_holds (E : gE) {d : Nat} (hd : 5 ≤ d) {n s w g cc a k : Nat} (kind : Int32) (h : hp_T) (hG : gr h) (M : mM) (N : mN) (A : macI M n s) (C : mcty M w g) (hcc : M 0 71 = nI cc) (hcw : cc < w * g) (ha : a ≤ 200) (T : mtI M a k) (hk5 : ¬ kind = 5) (W : tW) : ev E mX12_holds d [.ref (E.1 + 247), .int (nI a), .int kind] (sP h M N W) (some (.int (bI (hoS (mtV M n s w g cc) M a kind W).1))) (sP h M N (hoS (mtV M n s w g cc) M a kind W).2) := by
  refine ev_of rfl (fun q => absurd q (by decide)) (Nat.le_of_ble_eq_true rfl) ?_
  refine gf_iconst (0) dX12_holds_0 rfl ?_
  refine gf_istore_n 3 dX12_holds_1 rfl (Nat.le_of_ble_eq_true rfl) ?_
  have hk24 := T.1
  unfold hoS
  rw [T.2.1, nI_clamp (by omega)]
  exact gf_lw (l_X12_holds E hd kind h hG M N A C hcc hcw ha T hk5 k 0 W (by omega)) ⟨rfl, rfl, rfl, rfl, trivial⟩
theorem l_X12_lastOf (E : gE) {d : Nat} {a k : Nat} (kind : Int32) (h : hp_T) (hG : gr h) (M : mM) (N : mN) (ha : a ≤ 200) (hk : M 25 a = nI k) (hk24 : k ≤ 24) (W : tW) {v : Option Value} {hz : hp_T} (K : gf E mX12_lastOf d 46 [(0, .ref (E.1 + 247)), (1, .int (nI a)), (2, .int kind), (3, .int (itN (laB M a kind) (-1) (k))), (4, .int (nI (k)))] [] (sP h M N W) v hz) : ∀ (kz jz : Nat), jz + kz = k → gf E mX12_lastOf d 5 [(0, .ref (E.1 + 247)), (1, .int (nI a)), (2, .int kind), (3, .int (itN (laB M a kind) (-1) (jz))), (4, .int (nI (jz)))] [] (sP h M N W) v hz := by
  intro kz
  induction kz with
  | zero =>
    intro jz hj
    have hj : k = jz := by omega
    subst hj
    refine gf_iload dX12_lastOf_5 rfl ?_
    refine gf_aload_n 0 dX12_lastOf_7 rfl rfl ?_
    refine gf_getR flX12_87 rfl dX12_lastOf_8 (gt_247 hG) (gp_247_32 hG) ?_
    refine gf_iload_n 1 dX12_lastOf_11 rfl rfl ?_
    refine gf_iald 201 dX12_lastOf_12 (gt_272 hG) (gl_272 hG) rfl (by omega) (by decide) ?_
    rw [show hp_i (sP h M N W) 272 a = nI k from hk]
    refine gf_icmp_ge 46 dX12_lastOf_13 rfl (fun _ => ?_) (fun q => absurd (Int32.le_refl _) q)
    exact gf_lw K ⟨rfl, rfl, rfl, rfl, rfl, trivial⟩
  | succ kz ih =>
    intro jz hj
    refine gf_iload dX12_lastOf_5 rfl ?_
    refine gf_aload_n 0 dX12_lastOf_7 rfl rfl ?_
    refine gf_getR flX12_87 rfl dX12_lastOf_8 (gt_247 hG) (gp_247_32 hG) ?_
    refine gf_iload_n 1 dX12_lastOf_11 rfl rfl ?_
    refine gf_iald 201 dX12_lastOf_12 (gt_272 hG) (gl_272 hG) rfl (by omega) (by decide) ?_
    rw [show hp_i (sP h M N W) 272 a = nI k from hk]
    refine gf_icmp_ge 46 dX12_lastOf_13 rfl (fun q => absurd q (nI_ge (by omega) (by omega))) (fun _ => ?_)
    refine gf_aload_n 0 dX12_lastOf_16 rfl rfl ?_
    refine gf_getR flX12_90 rfl dX12_lastOf_17 (gt_247 hG) (gp_247_33 hG) ?_
    refine gf_bipush (24) dX12_lastOf_20 rfl ?_
    refine gf_iload_n 1 dX12_lastOf_22 rfl rfl ?_
    refine gf_imul dX12_lastOf_23 ?_
    refine gf_iload dX12_lastOf_24 rfl ?_
    refine gf_iadd dX12_lastOf_26 ?_
    refine gf_iald 4824 dX12_lastOf_27 (gt_273 hG) (gl_273 hG) (show (24 : Int32) * nI a + nI jz = nI (24 * a + jz) from by rw [show (24 : Int32) * nI a = nI (24 * a) from pk_mul 24 a, nI_add]) (by omega) (by decide) ?_
    refine gf_iload_n 2 dX12_lastOf_28 rfl rfl ?_
    refine gf_icmp_ne 40 dX12_lastOf_29 rfl (fun zc29 => ?_) (fun zc29 => ?_)
    · refine gf_iinc (1) dX12_lastOf_40 rfl rfl (Nat.le_of_ble_eq_true rfl) ?_
      refine gf_goto 5 dX12_lastOf_43 rfl ?_
      exact gf_lw (ih (jz + 1) (by omega)) ⟨rfl, rfl, rfl, lvE ((if_neg zc29 : laB M a kind (itN (laB M a kind) (-1) (jz)) jz = _).symm), lvE (nI_1 jz), trivial⟩
    · refine gf_bipush (24) dX12_lastOf_32 rfl ?_
      refine gf_iload_n 1 dX12_lastOf_34 rfl rfl ?_
      refine gf_imul dX12_lastOf_35 ?_
      refine gf_iload dX12_lastOf_36 rfl ?_
      refine gf_iadd dX12_lastOf_38 ?_
      rw [(show (24 : Int32) * nI a + nI jz = nI (24 * a + jz) from by rw [show (24 : Int32) * nI a = nI (24 * a) from pk_mul 24 a, nI_add])]
      refine gf_istore_n 3 dX12_lastOf_39 rfl (Nat.le_of_ble_eq_true rfl) ?_
      refine gf_iinc (1) dX12_lastOf_40 rfl rfl (Nat.le_of_ble_eq_true rfl) ?_
      refine gf_goto 5 dX12_lastOf_43 rfl ?_
      exact gf_lw (ih (jz + 1) (by omega)) ⟨rfl, rfl, rfl, lvE ((if_pos zc29 : laB M a kind (itN (laB M a kind) (-1) (jz)) jz = _).symm), lvE (nI_1 jz), trivial⟩
theorem e_X12_lastOf (E : gE) {d : Nat} (hd : 0 ≤ d) {a k : Nat} (kind : Int32) (h : hp_T) (hG : gr h) (M : mM) (N : mN) (ha : a ≤ 200) (hk : M 25 a = nI k) (hk24 : k ≤ 24) (W : tW) : ev E mX12_lastOf d [.ref (E.1 + 247), .int (nI a), .int kind] (sP h M N W) (some (.int (laO M a kind))) (sP h M N W) := by
  refine ev_of rfl (fun q => absurd q (by decide)) (Nat.le_of_ble_eq_true rfl) ?_
  refine gf_iconst (-1) dX12_lastOf_0 rfl ?_
  refine gf_istore_n 3 dX12_lastOf_1 rfl (Nat.le_of_ble_eq_true rfl) ?_
  refine gf_iconst (0) dX12_lastOf_2 rfl ?_
  refine gf_istore dX12_lastOf_3 (Nat.le_of_ble_eq_true rfl) ?_
  unfold laO
  rw [hk, nI_clamp (by omega)]
  refine gf_lw (l_X12_lastOf E kind h hG M N ha hk hk24 W ?_ k 0 (by omega)) ⟨rfl, rfl, rfl, rfl, rfl, trivial⟩
  refine gf_iload_n 3 dX12_lastOf_46 rfl rfl ?_
  exact gf_iretE dX12_lastOf_47 rfl (rfl) (rfl)
def mfoV (M : mM) (n s : Nat) (o : Int32) : Int32 := if mtO M s o n = 0 then -1 else M 25 (mtO M s o n)
theorem e_X12_force (E : gE) {d : Nat} (hd : 4 ≤ d) (o : Int32) {n s w g : Nat} (h : hp_T) (hG : gr h) (M : mM) (N : mN) (I : refI M n s w g) (W : tW) : ev E mX12_force d [.ref (E.1 + 247), .int o] (sP h M N W) (some (.int (if isO o then mfoV M n s o else -1))) (sP h M N W) := by
  refine ev_of rfl (fun q => absurd q (by decide)) (Nat.le_of_ble_eq_true rfl) ?_
  have hn := I.1.2.1
  have hle := mtO_le M s o n
  by_cases ho : isO o
  · rw [if_pos ho]
    refine gf_iload_n 1 dX12_force_0 rfl rfl ?_
    refine gf_callS cmX12_isOffice lkX12_451 stX12_isOffice dX12_force_1 (d1 := d - 1) (by omega) (e_X12_isOffice E (by omega) o _) rfl rfl (Nat.le_of_ble_eq_true rfl) ?_
    refine gf_if_ne 9 dX12_force_4 rfl (fun _ => ?_) (fun q => absurd q (fun q => zb_0.mp q ho))
    refine gf_aload_n 0 dX12_force_9 rfl rfl ?_
    refine gf_iload_n 1 dX12_force_10 rfl rfl ?_
    refine gf_callV cmX12_termsOf lkX12_495 imX12_termsOf seX12_termsOf ⟨rfl, by decide⟩ dX12_force_11 (d1 := d - 1) (by omega) (gt_247 hG) (e_X12_termsOf E (by omega) o h hG (up2 M 0 70 (nI W.1)) (uprL N 52 W.2) I.1) rfl rfl (Nat.le_of_ble_eq_true rfl) ?_
    rw [show mtO (up2 M 0 70 (nI W.1)) s o n = mtO M s o n from rfl]
    change gf _ _ _ _ _ _ (sP h M N W) _ _
    refine gf_istore_n 2 dX12_force_14 rfl (Nat.le_of_ble_eq_true rfl) ?_
    refine gf_iload_n 2 dX12_force_15 rfl rfl ?_
    refine gf_if_ne 23 dX12_force_16 rfl (fun zc16 => ?_) (fun zc16 => ?_)
    · refine gf_aload_n 0 dX12_force_23 rfl rfl ?_
      refine gf_getR flX12_87 rfl dX12_force_24 (gt_247 hG) (gp_247_32 hG) ?_
      refine gf_iload_n 2 dX12_force_27 rfl rfl ?_
      refine gf_iald 201 dX12_force_28 (gt_272 hG) (gl_272 hG) rfl (by omega) (by decide) ?_
      exact gf_iretE dX12_force_29 rfl ((if_neg (fun q => zc16 (by rw [q]; rfl)) : mfoV M n s o = _).symm) (rfl)
    · refine gf_iconst (-1) dX12_force_19 rfl ?_
      refine gf_goto 29 dX12_force_20 rfl ?_
      exact gf_iretE dX12_force_29 rfl ((if_pos (by rcases Nat.eq_zero_or_pos (mtO M s o n) with q | q; exact q; exact absurd zc16 (nI_ne0 q (by omega))) : mfoV M n s o = _).symm) (rfl)
  · rw [if_neg ho]
    refine gf_iload_n 1 dX12_force_0 rfl rfl ?_
    refine gf_callS cmX12_isOffice lkX12_451 stX12_isOffice dX12_force_1 (d1 := d - 1) (by omega) (e_X12_isOffice E (by omega) o _) rfl rfl (Nat.le_of_ble_eq_true rfl) ?_
    refine gf_if_ne 9 dX12_force_4 rfl (fun q => absurd (zb_f ho) q) (fun _ => ?_)
    refine gf_iconst (-1) dX12_force_7 rfl ?_
    exact gf_iretE dX12_force_8 rfl (rfl) (rfl)
/-- state of a question: the asked slots, the pile -/
abbrev qS : Type := mM × tW
def hatM (M : mM) (n s : Nat) (c : Nat) : mM := askM M (nI c) 0 (nI (fa_cnt (mpB M s (nI c)) n)) 0
def hatS (n s w g : Nat) (o : Int32) (c : Nat) (z : qS) : Bool × qS :=
  if anyb (mhB z.1 s o (nI c)) n = true then (true, z)
  else if mtO z.1 s o n = 0 then (false, z)
  else ((hoS (mtV (hatM z.1 n s c) n s w g c) (hatM z.1 n s c) (mtO z.1 s o n) 2 z.2).1, hatM z.1 n s c, (hoS (mtV (hatM z.1 n s c) n s w g c) (hatM z.1 n s c) (mtO z.1 s o n) 2 z.2).2)
theorem e_X12_helpsAt (E : gE) {d : Nat} (hd : 6 ≤ d) {c : Nat} (o : Int32) {n s w g : Nat} (h : hp_T) (hG : gr h) (M : mM) (N : mN) (I : refI M n s w g) (W : tW) (hc : c < w * g) : ev E mX12_helpsAt d [.ref (E.1 + 247), .int o, .int (nI c)] (sP h M N W) (some (.int (bI (hatS n s w g o c (M, W)).1))) (sP h (hatS n s w g o c (M, W)).2.1 N (hatS n s w g o c (M, W)).2.2) := by
  have hn := I.1.2.1
  have hle := mtO_le M s o n
  refine ev_of rfl (fun q => absurd q (by decide)) (Nat.le_of_ble_eq_true rfl) ?_
  refine gf_aload_n 0 dX12_helpsAt_0 rfl rfl ?_
  refine gf_iload_n 1 dX12_helpsAt_1 rfl rfl ?_
  refine gf_iload_n 2 dX12_helpsAt_2 rfl rfl ?_
  refine gf_callV cmX12_hasPolicy lkX12_535 imX12_hasPolicy seX12_hasPolicy ⟨rfl, by decide⟩ dX12_helpsAt_3 (d1 := d - 1) (by omega) (gt_247 hG) (e_X12_hasPolicy E (by omega) o (nI c) h hG (up2 M 0 70 (nI W.1)) (uprL N 52 W.2) I.1) rfl rfl (Nat.le_of_ble_eq_true rfl) ?_
  rw [show anyb (mhB (up2 M 0 70 (nI W.1)) s o (nI c)) n = anyb (mhB M s o (nI c)) n from rfl]
  change gf _ _ _ _ _ _ (sP h M N W) _ _
  refine gf_if_eq 11 dX12_helpsAt_6 rfl (fun zc6 => ?_) (fun zc6 => ?_)
  · have hb6 : ¬ anyb (mhB M s o (nI c)) n = true := fun q => by rw [bI_f zc6] at q; cases q
    refine gf_aload_n 0 dX12_helpsAt_11 rfl rfl ?_
    refine gf_iload_n 1 dX12_helpsAt_12 rfl rfl ?_
    refine gf_callV cmX12_termsOf lkX12_495 imX12_termsOf seX12_termsOf ⟨rfl, by decide⟩ dX12_helpsAt_13 (d1 := d - 1) (by omega) (gt_247 hG) (e_X12_termsOf E (by omega) o h hG (up2 M 0 70 (nI W.1)) (uprL N 52 W.2) I.1) rfl rfl (Nat.le_of_ble_eq_true rfl) ?_
    rw [show mtO (up2 M 0 70 (nI W.1)) s o n = mtO M s o n from rfl]
    change gf _ _ _ _ _ _ (sP h M N W) _ _
    refine gf_istore_n 3 dX12_helpsAt_16 rfl (Nat.le_of_ble_eq_true rfl) ?_
    refine gf_iload_n 3 dX12_helpsAt_17 rfl rfl ?_
    refine gf_if_ne 23 dX12_helpsAt_18 rfl (fun zc18 => ?_) (fun zc18 => ?_)
    · have ht0 : ¬ mtO M s o n = 0 := fun q => zc18 (by rw [q]; rfl)
      have hat := (mtO_at M s o n).resolve_left ht0
      obtain ⟨k, hT⟩ := I.2.2.1 _ hat.1 hat.2.1 hat.2.2
      refine gf_aload_n 0 dX12_helpsAt_23 rfl rfl ?_
      refine gf_iload_n 2 dX12_helpsAt_24 rfl rfl ?_
      refine gf_iconst (0) dX12_helpsAt_25 rfl ?_
      refine gf_aload_n 0 dX12_helpsAt_26 rfl rfl ?_
      refine gf_iload_n 2 dX12_helpsAt_27 rfl rfl ?_
      refine gf_callV cmX12_policiesOn lkX12_552 imX12_policiesOn seX12_policiesOn ⟨rfl, by decide⟩ dX12_helpsAt_28 (d1 := d - 1) (by omega) (gt_247 hG) (e_X12_policiesOn E (by omega) (nI c) h hG (up2 M 0 70 (nI W.1)) (uprL N 52 W.2) I.1) rfl rfl (Nat.le_of_ble_eq_true rfl) ?_
      rw [show fa_cnt (mpB (up2 M 0 70 (nI W.1)) s (nI c)) n = fa_cnt (mpB M s (nI c)) n from rfl]
      change gf _ _ _ _ _ _ (sP h M N W) _ _
      refine gf_iconst (0) dX12_helpsAt_31 rfl ?_
      refine gf_callV cmX12_asksOf lkX12_555 imX12_asksOf seX12_asksOf ⟨rfl, by decide⟩ dX12_helpsAt_32 (d1 := d - 1) (by omega) (gt_247 hG) (e_X12_asksOf E (by omega) (nI c) 0 (nI (fa_cnt (mpB M s (nI c)) n)) 0 h hG M N W) rfl rfl (Nat.le_of_ble_eq_true rfl) ?_
      refine gf_aload_n 0 dX12_helpsAt_35 rfl rfl ?_
      refine gf_iload_n 3 dX12_helpsAt_36 rfl rfl ?_
      refine gf_iconst (2) dX12_helpsAt_37 rfl ?_
      refine gf_callV cmX12_holds lkX12_559 imX12_holds seX12_holds ⟨rfl, by decide⟩ dX12_helpsAt_38 (d1 := d - 1) (by omega) (gt_247 hG) (e_X12_holds E (by omega) 2 h hG (hatM M n s c) N (n := n) (s := s) (w := w) (g := g) (cc := c) (a := mtO M s o n) (k := k) I.1 I.2.1 rfl hc (by omega) hT (by decide) W) rfl rfl (Nat.le_of_ble_eq_true rfl) ?_
      exact gf_bret dX12_helpsAt_41 rfl (by rw [show (hatS n s w g o c (M, W)) = _ from (if_neg hb6).trans (if_neg ht0)]; first | done | rfl) (by rw [show (hatS n s w g o c (M, W)) = _ from (if_neg hb6).trans (if_neg ht0)]; first | done | rfl)
    · have ht0 : mtO M s o n = 0 := by rcases Nat.eq_zero_or_pos (mtO M s o n) with q | q; exact q; exact absurd zc18 (nI_ne0 q (by omega))
      refine gf_iconst (0) dX12_helpsAt_21 rfl ?_
      exact gf_bret dX12_helpsAt_22 rfl (by rw [show (hatS n s w g o c (M, W)) = _ from (if_neg hb6).trans (if_pos ht0)]; first | done | rfl) (by rw [show (hatS n s w g o c (M, W)) = _ from (if_neg hb6).trans (if_pos ht0)]; first | done | rfl)
  · have hb6 : anyb (mhB M s o (nI c)) n = true := bI_t zc6
    refine gf_iconst (1) dX12_helpsAt_9 rfl ?_
    exact gf_bret dX12_helpsAt_10 rfl (by rw [show (hatS n s w g o c (M, W)) = _ from if_pos hb6]; first | done | rfl) (by rw [show (hatS n s w g o c (M, W)) = _ from if_pos hb6]; first | done | rfl)
theorem refI_hat {M : mM} {n s w g c : Nat} (I : refI M n s w g) : refI (hatM M n s c) n s w g := I
theorem hat_I {n s w g c : Nat} {o : Int32} {z : qS} (I : refI z.1 n s w g) : refI (hatS n s w g o c z).2.1 n s w g := by
  unfold hatS
  split
  · exact I
  · split
    · exact I
    · exact refI_hat I
def hepB (n s w g c : Nat) (z : Int32 × qS) (o : Nat) : Int32 × qS := (if (hatS n s w g (nI o) c z.2).1 = true then z.1 ||| (1 <<< (nI o &&& 31)) else z.1, (hatS n s w g (nI o) c z.2).2)
def hepS (n s w g c : Nat) (z : qS) (o : Nat) : Int32 × qS := itN (hepB n s w g c) (0, z) o
theorem hep_I {n s w g c : Nat} {z : qS} (I : refI z.1 n s w g) : ∀ o, refI (hepS n s w g c z o).2.1 n s w g
  | 0 => I
  | o + 1 => hat_I (hep_I I o)
theorem l_X12_helps (E : gE) {d : Nat} (hd : 7 ≤ d) {c : Nat} {n s w g : Nat} (h : hp_T) (hG : gr h) (M : mM) (N : mN) (I : refI M n s w g) (W : tW) (hc : c < w * g) {v : Option Value} {hz : hp_T} (K : gf E mX12_helps d 41 [(0, .ref (E.1 + 247)), (1, .int (nI c)), (2, .int (hepS n s w g c (M, W) (9)).1), (3, .int (nI 9))] [] (sP h (hepS n s w g c (M, W) (9)).2.1 N (hepS n s w g c (M, W) (9)).2.2) v hz) : ∀ (kz jz : Nat), jz + kz = 9 → gf E mX12_helps d 14 [(0, .ref (E.1 + 247)), (1, .int (nI c)), (2, .int (hepS n s w g c (M, W) (jz)).1), (3, .int (nI jz))] [] (sP h (hepS n s w g c (M, W) (jz)).2.1 N (hepS n s w g c (M, W) (jz)).2.2) v hz := by
  intro kz
  induction kz with
  | zero =>
    intro jz hj
    have hj : jz = 9 := by omega
    subst hj
    refine gf_iload_n 3 dX12_helps_14 rfl rfl ?_
    refine gf_bipush (9) dX12_helps_15 rfl ?_
    refine gf_icmp_ge 41 dX12_helps_17 rfl (fun _ => ?_) (fun q => absurd (Int32.le_refl _) q)
    exact gf_lw K ⟨rfl, rfl, rfl, rfl, trivial⟩
  | succ kz ih =>
    intro jz hj
    have ih1 := ih (jz + 1) (by omega)
    have Iz := hep_I (c := c) (z := (M, W)) I jz
    rw [show (hepS n s w g c (M, W) (jz + 1)) = hepB n s w g c (hepS n s w g c (M, W) (jz)) jz from rfl] at ih1
    generalize (hepS n s w g c (M, W) (jz)) = z at ih1 Iz ⊢
    refine gf_iload_n 3 dX12_helps_14 rfl rfl ?_
    refine gf_bipush (9) dX12_helps_15 rfl ?_
    refine gf_icmp_ge 41 dX12_helps_17 rfl (fun q => absurd q (nI_ge (b := 9) (by omega) (by omega))) (fun _ => ?_)
    refine gf_aload_n 0 dX12_helps_20 rfl rfl ?_
    refine gf_iload_n 3 dX12_helps_21 rfl rfl ?_
    refine gf_iload_n 1 dX12_helps_22 rfl rfl ?_
    refine gf_callV cmX12_helpsAt lkX12_562 imX12_helpsAt seX12_helpsAt ⟨rfl, by decide⟩ dX12_helps_23 (d1 := d - 1) (by omega) (gt_247 hG) (e_X12_helpsAt E (by omega) (nI jz) h hG z.2.1 N Iz z.2.2 hc) rfl rfl (Nat.le_of_ble_eq_true rfl) ?_
    change gf _ _ _ _ _ _ (sP h (hatS n s w g (nI jz) c z.2).2.1 N (hatS n s w g (nI jz) c z.2).2.2) _ _
    refine gf_if_eq 35 dX12_helps_26 rfl (fun zc26 => ?_) (fun zc26 => ?_)
    · refine gf_iinc (1) dX12_helps_35 rfl rfl (Nat.le_of_ble_eq_true rfl) ?_
      refine gf_goto 14 dX12_helps_38 rfl ?_
      rw [show hepB n s w g c z jz = (z.1, (hatS n s w g (nI jz) c z.2).2) from by unfold hepB; rw [if_neg (by rw [bI_f zc26]; decide)]] at ih1
      exact gf_lw ih1 ⟨rfl, rfl, rfl, lvE (nI_1 jz), trivial⟩
    · refine gf_iload_n 2 dX12_helps_29 rfl rfl ?_
      refine gf_iconst (1) dX12_helps_30 rfl ?_
      refine gf_iload_n 3 dX12_helps_31 rfl rfl ?_
      refine gf_ishl dX12_helps_32 ?_
      refine gf_ior dX12_helps_33 ?_
      refine gf_istore_n 2 dX12_helps_34 rfl (Nat.le_of_ble_eq_true rfl) ?_
      refine gf_iinc (1) dX12_helps_35 rfl rfl (Nat.le_of_ble_eq_true rfl) ?_
      refine gf_goto 14 dX12_helps_38 rfl ?_
      rw [show hepB n s w g c z jz = ((z.1 ||| (1 <<< (nI jz &&& 31))), (hatS n s w g (nI jz) c z.2).2) from by unfold hepB; rw [if_pos (bI_t zc26)]] at ih1
      exact gf_lw ih1 ⟨rfl, rfl, rfl, lvE (nI_1 jz), trivial⟩
theorem e_X12_helps (E : gE) {d : Nat} (hd : 7 ≤ d) {c : Nat} {n s w g : Nat} (h : hp_T) (hG : gr h) (M : mM) (N : mN) (I : refI M n s w g) (W : tW) (hc : c < w * g) (hh : ¬ M 34 c = 0) : ev E mX12_helps d [.ref (E.1 + 247), .int (nI c)] (sP h M N W) (some (.int (hepS n s w g c (M, W) 9).1)) (sP h (hepS n s w g c (M, W) 9).2.1 N (hepS n s w g c (M, W) 9).2.2) := by
  have hn : w * g ≤ 120 := Nat.le_trans (Nat.mul_le_mul I.2.1.1.2.1 I.2.1.1.2.2.2) (by decide)
  refine ev_of rfl (fun q => absurd q (by decide)) (Nat.le_of_ble_eq_true rfl) ?_
  refine gf_aload_n 0 dX12_helps_0 rfl rfl ?_
  refine gf_iload_n 1 dX12_helps_1 rfl rfl ?_
  refine gf_callV cmX12_hasHouse lkX12_482 imX12_hasHouse seX12_hasHouse ⟨rfl, by decide⟩ dX12_helps_2 (d1 := d - 1) (by omega) (gt_247 hG) (e_X12_hasHouse E (by omega) (nI c) (sP h M N W) hG (w := w) (g := g) I.2.1) rfl rfl (Nat.le_of_ble_eq_true rfl) ?_
  refine gf_if_ne 10 dX12_helps_5 rfl (fun _ => ?_) (fun q => absurd q (fun q => zb_0.mp q ⟨⟨nI_pos' (by omega), nI_lt hc (by omega)⟩, by rw [nI_clamp (by omega)]; exact hh⟩))
  refine gf_iconst (0) dX12_helps_10 rfl ?_
  refine gf_istore_n 2 dX12_helps_11 rfl (Nat.le_of_ble_eq_true rfl) ?_
  refine gf_iconst (0) dX12_helps_12 rfl ?_
  refine gf_istore_n 3 dX12_helps_13 rfl (Nat.le_of_ble_eq_true rfl) ?_
  refine gf_lw (l_X12_helps E hd h hG M N I W hc ?_ 9 0 (by omega)) ⟨rfl, rfl, rfl, rfl, trivial⟩
  refine gf_iload_n 2 dX12_helps_41 rfl rfl ?_
  exact gf_iretE dX12_helps_42 rfl (rfl) (rfl)
