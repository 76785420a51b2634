/-! ===== the class: the planner ===== -/
theorem hb_setO (h : hp_T) {b n a : Nat} (X : Nat → Nat → Int32) (ha : ¬ (b ≤ a ∧ a < b + n)) (k : Nat) (v : Int32) : hp_setI (hb h b n X) a k v = hb (hp_setI h a k v) b n X := by
  unfold hp_setI hb
  refine congrArg (fun z => (h.1, h.2.1, h.2.2.1, h.2.2.2.1, z, h.2.2.2.2.2.1, h.2.2.2.2.2.2)) ?_
  funext x i
  by_cases hx : b ≤ x ∧ x < b + n
  · have e : ¬ x = a := fun q => ha (q ▸ hx)
    simp only [up2, hx, and_self, if_true, e, false_and, if_false]
  · simp only [up2, hx, if_false]
/-- the heap with the engines, the planner and the trial fire -/
def hpl (h : hp_T) (A Q X : Nat → Nat → Int32) : hp_T := hb (hb (hb h 145 5 A) 243 4 Q) 193 12 X
theorem hpl_id (h : hp_T) : hpl h (fun o => hp_i h (145 + o)) (fun o => hp_i h (243 + o)) (fun o => hp_i h (193 + o)) = h := by
  unfold hpl
  rw [hb_id, hb_id, hb_id]
theorem ple_0 (h : hp_T) (A Q X : Nat → Nat → Int32) (k : Nat) (v : Int32) : hp_setI (hpl h A Q X) 145 k v = hpl h (up2 A 0 k v) Q X := by
  unfold hpl
  rw [hb_setO _ X (by decide), hb_setO _ Q (by decide), show hp_setI (hb h 145 5 A) 145 k v = hb h 145 5 (up2 A 0 k v) from hb_set h (b := 145) (n := 5) (o := 0) A (by decide) k v]
theorem ple_1 (h : hp_T) (A Q X : Nat → Nat → Int32) (k : Nat) (v : Int32) : hp_setI (hpl h A Q X) 146 k v = hpl h (up2 A 1 k v) Q X := by
  unfold hpl
  rw [hb_setO _ X (by decide), hb_setO _ Q (by decide), show hp_setI (hb h 145 5 A) 146 k v = hb h 145 5 (up2 A 1 k v) from hb_set h (b := 145) (n := 5) (o := 1) A (by decide) k v]
theorem ple_2 (h : hp_T) (A Q X : Nat → Nat → Int32) (k : Nat) (v : Int32) : hp_setI (hpl h A Q X) 147 k v = hpl h (up2 A 2 k v) Q X := by
  unfold hpl
  rw [hb_setO _ X (by decide), hb_setO _ Q (by decide), show hp_setI (hb h 145 5 A) 147 k v = hb h 145 5 (up2 A 2 k v) from hb_set h (b := 145) (n := 5) (o := 2) A (by decide) k v]
theorem ple_3 (h : hp_T) (A Q X : Nat → Nat → Int32) (k : Nat) (v : Int32) : hp_setI (hpl h A Q X) 148 k v = hpl h (up2 A 3 k v) Q X := by
  unfold hpl
  rw [hb_setO _ X (by decide), hb_setO _ Q (by decide), show hp_setI (hb h 145 5 A) 148 k v = hb h 145 5 (up2 A 3 k v) from hb_set h (b := 145) (n := 5) (o := 3) A (by decide) k v]
theorem ple_4 (h : hp_T) (A Q X : Nat → Nat → Int32) (k : Nat) (v : Int32) : hp_setI (hpl h A Q X) 149 k v = hpl h (up2 A 4 k v) Q X := by
  unfold hpl
  rw [hb_setO _ X (by decide), hb_setO _ Q (by decide), show hp_setI (hb h 145 5 A) 149 k v = hb h 145 5 (up2 A 4 k v) from hb_set h (b := 145) (n := 5) (o := 4) A (by decide) k v]
theorem plp_0 (h : hp_T) (A Q X : Nat → Nat → Int32) (k : Nat) (v : Int32) : hp_setI (hpl h A Q X) 243 k v = hpl h A (up2 Q 0 k v) X := by
  unfold hpl
  rw [hb_setO _ X (by decide), show hp_setI (hb (hb h 145 5 A) 243 4 Q) 243 k v = hb (hb h 145 5 A) 243 4 (up2 Q 0 k v) from hb_set _ (b := 243) (n := 4) (o := 0) Q (by decide) k v]
theorem plp_1 (h : hp_T) (A Q X : Nat → Nat → Int32) (k : Nat) (v : Int32) : hp_setI (hpl h A Q X) 244 k v = hpl h A (up2 Q 1 k v) X := by
  unfold hpl
  rw [hb_setO _ X (by decide), show hp_setI (hb (hb h 145 5 A) 243 4 Q) 244 k v = hb (hb h 145 5 A) 243 4 (up2 Q 1 k v) from hb_set _ (b := 243) (n := 4) (o := 1) Q (by decide) k v]
theorem plp_2 (h : hp_T) (A Q X : Nat → Nat → Int32) (k : Nat) (v : Int32) : hp_setI (hpl h A Q X) 245 k v = hpl h A (up2 Q 2 k v) X := by
  unfold hpl
  rw [hb_setO _ X (by decide), show hp_setI (hb (hb h 145 5 A) 243 4 Q) 245 k v = hb (hb h 145 5 A) 243 4 (up2 Q 2 k v) from hb_set _ (b := 243) (n := 4) (o := 2) Q (by decide) k v]
theorem plp_3 (h : hp_T) (A Q X : Nat → Nat → Int32) (k : Nat) (v : Int32) : hp_setI (hpl h A Q X) 246 k v = hpl h A (up2 Q 3 k v) X := by
  unfold hpl
  rw [hb_setO _ X (by decide), show hp_setI (hb (hb h 145 5 A) 243 4 Q) 246 k v = hb (hb h 145 5 A) 243 4 (up2 Q 3 k v) from hb_set _ (b := 243) (n := 4) (o := 3) Q (by decide) k v]
theorem e_X8_order (E : gE) {d : Nat} (hd : 0 ≤ d) (a b c : Int32) (h : hp_T) (hG : gr h) (A Q X : Nat → Nat → Int32) : ev E mX8_order d [.ref (E.1 + 243), .int a, .int b, .int c] (hpl h A Q X) (none) (hpl h A (up2 (up2 (up2 Q 0 7 a) 0 8 b) 0 9 c) X) := by
  refine ev_of rfl (fun q => absurd q (by decide)) (Nat.le_of_ble_eq_true rfl) ?_
  refine gf_aload_n 0 dX8_order_0 rfl rfl ?_
  refine gf_iload_n 1 dX8_order_1 rfl rfl ?_
  refine gf_putI flX8_36 rfl rfl dX8_order_2 (gt_243 hG) ⟨rfl, rfl⟩ ?_
  rw [plp_0]
  refine gf_aload_n 0 dX8_order_5 rfl rfl ?_
  refine gf_iload_n 2 dX8_order_6 rfl rfl ?_
  refine gf_putI flX8_39 rfl rfl dX8_order_7 (gt_243 hG) ⟨rfl, rfl⟩ ?_
  rw [plp_0]
  refine gf_aload_n 0 dX8_order_10 rfl rfl ?_
  refine gf_iload_n 3 dX8_order_11 rfl rfl ?_
  refine gf_putI flX8_42 rfl rfl dX8_order_12 (gt_243 hG) ⟨rfl, rfl⟩ ?_
  rw [plp_0]
  exact gf_vretE dX8_order_15 rfl (rfl)
/-- the chosen cells are in order: chosen i ≤ p - k + i -/
def chOK (p k : Nat) (ch : Nat → Int32) : Prop := ∀ i, i < k → ∃ q, q ≤ p - k + i ∧ ch i = nI q
def adB (m : Nat) (Q : Nat → Nat → Int32) (A : Nat → Nat → Int32) (i : Nat) : Nat → Nat → Int32 := up2 (up2 (up2 (up2 (up2 A 1 (m + i) (Q 0 7)) 2 (m + i) (Q 1 (Q 3 i).toNatClampNeg)) 3 (m + i) (Q 0 8)) 4 (m + i) (Q 0 9)) 0 0 (nI (m + i + 1))
theorem ad_0 (m : Nat) (Q : Nat → Nat → Int32) (A : Nat → Nat → Int32) (h : A 0 0 = nI m) : ∀ n, itN (adB m Q) A n 0 0 = nI (m + n)
  | 0 => h
  | n + 1 => by rw [itN_s]; exact up2_s _ _ _ _
def keB (Q : Nat → Nat → Int32) (i : Nat) : Nat → Nat → Int32 := up2 Q 2 i (Q 1 (Q 3 i).toNatClampNeg)
theorem keB_t {Q : Nat → Nat → Int32} {i q : Nat} (e : Q 3 i = nI q) (hq : q < 100) : keB Q i = up2 Q 2 i (Q 1 q) := by unfold keB; rw [e, nI_clamp (by omega)]
def keS (k : Nat) (Q : Nat → Nat → Int32) : Nat → Nat → Int32 := itN keB (up2 Q 0 1 (nI k)) k
theorem ke_row (Q : Nat → Nat → Int32) {r : Nat} (h2 : r ≠ 2) : ∀ n, itN keB Q n r = Q r
  | 0 => rfl
  | n + 1 => (up2_row h2).trans (ke_row Q h2 n)
def cnB (i : Nat) (f : Nat → Int32) (j : Nat) : Nat → Int32 := va_up f (i + 1 + j) (f (i + j) + 1)
def cnS (p k : Nat) (ch : Nat → Int32) : Nat → Bool × (Nat → Int32)
  | 0 => (false, ch)
  | i + 1 => if ch i < nI (p - k + i) then (true, itN (cnB i) (va_up ch i (ch i + 1)) (k - (i + 1))) else cnS p k ch i
theorem cnB_ok {p k i : Nat} (hk : k ≤ p) : ∀ (j : Nat) (f : Nat → Int32), j ≤ k - (i + 1) → chOK p k f → chOK p k (itN (cnB i) f j)
  | 0, _, _, hf => hf
  | j + 1, f, hj, hf => by
    have ih := cnB_ok (i := i) hk j f (by omega) hf
    rw [itN_s]
    generalize itN (cnB i) f j = f2 at ih ⊢
    intro x hx
    unfold cnB va_up
    split
    · rename_i e
      obtain ⟨q, q1, q2⟩ := ih (i + j) (by omega)
      exact ⟨q + 1, by omega, by rw [q2, nI_1]⟩
    · exact ih x hx
theorem cn_ok {p k : Nat} {ch : Nat → Int32} (hk : k ≤ p) (hp : p ≤ 8) (h : chOK p k ch) : ∀ r, r ≤ k → chOK p k (cnS p k ch r).2
  | 0, _ => h
  | i + 1, hr => by
    unfold cnS
    split
    · rename_i e
      obtain ⟨q, q1, q2⟩ := h i (by omega)
      refine cnB_ok hk _ _ (Nat.le_refl _) (fun x hx => ?_)
      unfold va_up
      split
      · rename_i e2
        subst e2
        rw [q2] at e
        have := (nI_ltI (by omega) (by omega)).mp e
        exact ⟨q + 1, by omega, by rw [q2, nI_1]⟩
      · exact h x hx
    · exact cn_ok hk hp h i (by omega)
theorem l_X8_addChosen (E : gE) {d : Nat} (hd : 1 ≤ d) {k m p : Nat} (h : hp_T) (hG : gr h) (A Q X : Nat → Nat → Int32) (hm : A 0 0 = nI m) (hmk : m + k ≤ 12) (hk3 : k ≤ 3) (hkp : k ≤ p) (hp8 : p ≤ 8) (hch : chOK p k (Q 3)) {v : Option Value} {hz : hp_T} (K : gf E mX8_addChosen d 43 [(0, .ref (E.1 + 243)), (1, .int (nI k)), (2, .int (nI (k)))] [] (hpl h (itN (adB m Q) A (k)) Q X) v hz) : ∀ (kz jz : Nat), jz + kz = k → gf E mX8_addChosen d 2 [(0, .ref (E.1 + 243)), (1, .int (nI k)), (2, .int (nI (jz)))] [] (hpl h (itN (adB m Q) A (jz)) Q X) v hz := by
  intro kz
  induction kz with
  | zero =>
    intro jz hj
    have hj : k = jz := by omega
    subst hj
    refine gf_iload_n 2 dX8_addChosen_2 rfl rfl ?_
    refine gf_iload_n 1 dX8_addChosen_3 rfl rfl ?_
    refine gf_icmp_ge 43 dX8_addChosen_4 rfl (fun _ => ?_) (fun q => absurd (Int32.le_refl _) q)
    exact gf_lw K ⟨rfl, rfl, rfl, trivial⟩
  | succ kz ih =>
    intro jz hj
    obtain ⟨q, q1, q2⟩ := hch jz (by omega)
    refine gf_iload_n 2 dX8_addChosen_2 rfl rfl ?_
    refine gf_iload_n 1 dX8_addChosen_3 rfl rfl ?_
    refine gf_icmp_ge 43 dX8_addChosen_4 rfl (fun q => absurd q (nI_ge (by omega) (by omega))) (fun _ => ?_)
    refine gf_aload_n 0 dX8_addChosen_7 rfl rfl ?_
    refine gf_getR flX8_21 rfl dX8_addChosen_8 (gt_243 hG) (gp_243_4 hG) ?_
    refine gf_aload_n 0 dX8_addChosen_11 rfl rfl ?_
    refine gf_getI flX8_36 rfl dX8_addChosen_12 (gt_243 hG) ?_
    refine gf_aload_n 0 dX8_addChosen_15 rfl rfl ?_
    refine gf_getR flX8_9 rfl dX8_addChosen_16 (gt_243 hG) (gp_243_2 hG) ?_
    refine gf_aload_n 0 dX8_addChosen_19 rfl rfl ?_
    refine gf_getR flX8_18 rfl dX8_addChosen_20 (gt_243 hG) (gp_243_6 hG) ?_
    refine gf_iload_n 2 dX8_addChosen_23 rfl rfl ?_
    refine gf_iald 3 dX8_addChosen_24 (gt_246 hG) (gl_246 hG) rfl (by omega) (by decide) ?_
    refine gf_iald 8 dX8_addChosen_25 (gt_244 hG) (gl_244 hG) q2 (by omega) (by decide) ?_
    refine gf_aload_n 0 dX8_addChosen_26 rfl rfl ?_
    refine gf_getI flX8_39 rfl dX8_addChosen_27 (gt_243 hG) ?_
    refine gf_aload_n 0 dX8_addChosen_30 rfl rfl ?_
    refine gf_getI flX8_42 rfl dX8_addChosen_31 (gt_243 hG) ?_
    refine gf_callV cmX3_add lkX8_70 imX3_add seX3_add ⟨rfl, by decide⟩ dX8_addChosen_34 (d1 := d - 1) (by omega) (gt_145 hG) (e_X3_add E (by omega) (Q 0 7) (Q 1 q) (Q 0 8) (Q 0 9) (hpl h (itN (adB m Q) A (jz)) Q X) hG (n := m + jz) (ad_0 m Q A hm jz) (by omega)) rfl rfl (Nat.le_of_ble_eq_true rfl) ?_
    rw [ple_1, ple_2, ple_3, ple_4, ple_0]
    refine gf_iinc (1) dX8_addChosen_37 rfl rfl (Nat.le_of_ble_eq_true rfl) ?_
    refine gf_goto 2 dX8_addChosen_40 rfl ?_
    exact gf_hE (show _ = hpl h (itN (adB m Q) A (jz + 1)) Q X from by rw [itN_s]; unfold adB; rw [q2, nI_clamp (by omega)]) (gf_lw (ih (jz + 1) (by omega)) ⟨rfl, rfl, lvE (nI_1 jz), trivial⟩)
theorem e_X8_addChosen (E : gE) {d : Nat} (hd : 1 ≤ d) {k m p : Nat} (h : hp_T) (hG : gr h) (A Q X : Nat → Nat → Int32) (hm : A 0 0 = nI m) (hmk : m + k ≤ 12) (hk3 : k ≤ 3) (hkp : k ≤ p) (hp8 : p ≤ 8) (hch : chOK p k (Q 3)) : ev E mX8_addChosen d [.ref (E.1 + 243), .int (nI k)] (hpl h A Q X) (none) (hpl h (itN (adB m Q) A (k)) Q X) := by
  refine ev_of rfl (fun q => absurd q (by decide)) (Nat.le_of_ble_eq_true rfl) ?_
  refine gf_iconst (0) dX8_addChosen_0 rfl ?_
  refine gf_istore_n 2 dX8_addChosen_1 rfl (Nat.le_of_ble_eq_true rfl) ?_
  refine gf_lw (l_X8_addChosen E hd h hG A Q X hm hmk hk3 hkp hp8 hch ?_ k 0 (by omega)) ⟨rfl, rfl, rfl, trivial⟩
  exact gf_vretE dX8_addChosen_43 rfl (rfl)
theorem l_X8_keep (E : gE) {d : Nat} {k p : Nat} (h : hp_T) (hG : gr h) (A Q X : Nat → Nat → Int32) (hk3 : k ≤ 3) (hkp : k ≤ p) (hp8 : p ≤ 8) (hch : chOK p k (Q 3)) {v : Option Value} {hz : hp_T} (K : gf E mX8_keep d 35 [(0, .ref (E.1 + 243)), (1, .int (nI k)), (2, .int (nI (k)))] [] (hpl h A (itN keB Q (k)) X) v hz) : ∀ (kz jz : Nat), jz + kz = k → gf E mX8_keep d 7 [(0, .ref (E.1 + 243)), (1, .int (nI k)), (2, .int (nI (jz)))] [] (hpl h A (itN keB Q (jz)) X) v hz := by
  intro kz
  induction kz with
  | zero =>
    intro jz hj
    have hj : k = jz := by omega
    subst hj
    refine gf_iload_n 2 dX8_keep_7 rfl rfl ?_
    refine gf_iload_n 1 dX8_keep_8 rfl rfl ?_
    refine gf_icmp_ge 35 dX8_keep_9 rfl (fun _ => ?_) (fun q => absurd (Int32.le_refl _) q)
    exact gf_lw K ⟨rfl, rfl, rfl, trivial⟩
  | succ kz ih =>
    intro jz hj
    obtain ⟨q, q1, q2⟩ := hch jz (by omega)
    have e3 : (itN keB Q (jz)) 3 jz = nI q := by rw [ke_row Q (by decide)]; exact q2
    refine gf_iload_n 2 dX8_keep_7 rfl rfl ?_
    refine gf_iload_n 1 dX8_keep_8 rfl rfl ?_
    refine gf_icmp_ge 35 dX8_keep_9 rfl (fun q => absurd q (nI_ge (by omega) (by omega))) (fun _ => ?_)
    refine gf_aload_n 0 dX8_keep_12 rfl rfl ?_
    refine gf_getR flX8_15 rfl dX8_keep_13 (gt_243 hG) (gp_243_3 hG) ?_
    refine gf_iload_n 2 dX8_keep_16 rfl rfl ?_
    refine gf_aload_n 0 dX8_keep_17 rfl rfl ?_
    refine gf_getR flX8_9 rfl dX8_keep_18 (gt_243 hG) (gp_243_2 hG) ?_
    refine gf_aload_n 0 dX8_keep_21 rfl rfl ?_
    refine gf_getR flX8_18 rfl dX8_keep_22 (gt_243 hG) (gp_243_6 hG) ?_
    refine gf_iload_n 2 dX8_keep_25 rfl rfl ?_
    refine gf_iald 3 dX8_keep_26 (gt_246 hG) (gl_246 hG) rfl (by omega) (by decide) ?_
    refine gf_iald 8 dX8_keep_27 (gt_244 hG) (gl_244 hG) e3 (by omega) (by decide) ?_
    refine gf_iast 3 dX8_keep_28 (gt_245 hG) (gl_245 hG) rfl (by omega) (by decide) ?_
    rw [plp_2]
    refine gf_iinc (1) dX8_keep_29 rfl rfl (Nat.le_of_ble_eq_true rfl) ?_
    refine gf_goto 7 dX8_keep_32 rfl ?_
    exact gf_hE (show _ = hpl h A (itN keB Q (jz + 1)) X from by rw [itN_s, keB_t e3 (by omega)]; rfl) (gf_lw (ih (jz + 1) (by omega)) ⟨rfl, rfl, lvE (nI_1 jz), trivial⟩)
theorem e_X8_keep (E : gE) {d : Nat} (hd : 0 ≤ d) {k p : Nat} (h : hp_T) (hG : gr h) (A Q X : Nat → Nat → Int32) (hk3 : k ≤ 3) (hkp : k ≤ p) (hp8 : p ≤ 8) (hch : chOK p k (Q 3)) : ev E mX8_keep d [.ref (E.1 + 243), .int (nI k)] (hpl h A Q X) (none) (hpl h A (keS k Q) X) := by
  refine ev_of rfl (fun q => absurd q (by decide)) (Nat.le_of_ble_eq_true rfl) ?_
  refine gf_aload_n 0 dX8_keep_0 rfl rfl ?_
  refine gf_iload_n 1 dX8_keep_1 rfl rfl ?_
  refine gf_putI flX8_33 rfl rfl dX8_keep_2 (gt_243 hG) ⟨rfl, rfl⟩ ?_
  rw [plp_0]
  refine gf_iconst (0) dX8_keep_5 rfl ?_
  refine gf_istore_n 2 dX8_keep_6 rfl (Nat.le_of_ble_eq_true rfl) ?_
  refine gf_lw (l_X8_keep E h hG A (up2 Q 0 1 (nI k)) X hk3 hkp hp8 hch ?_ k 0 (by omega)) ⟨rfl, rfl, rfl, trivial⟩
  exact gf_vretE dX8_keep_35 rfl (rfl)
theorem plq_3 (h : hp_T) (A Q X : Nat → Nat → Int32) (ch : Nat → Int32) (k : Nat) (v : Int32) : hp_setI (hpl h A (upr Q 3 ch) X) 246 k v = hpl h A (upr Q 3 (va_up ch k v)) X := by
  rw [plp_3, upr_up]
theorem sub_m1 (n : Nat) : nI n - 1 = nI n + (-1) := by
  rw [fa_eq]
  simp [Int32.toInt_sub, Int32.toInt_add]
  rfl
theorem l_X8_cn1 (E : gE) {d : Nat} {k i : Nat} (h : hp_T) (hG : gr h) (A Q X : Nat → Nat → Int32) (ch : Nat → Int32) (hi : i < k) (hk3 : k ≤ 3) {v : Option Value} {hz : hp_T} (K : gf E mX8_chooseNext d 66 [(0, .ref (E.1 + 243)), (1, .int (nI k)), (2, .int (nI i)), (3, .int (nI (i + 1 + ((k - (i + 1))))))] [] (hpl h A (upr Q 3 ((itN (cnB i) ch ((k - (i + 1)))))) X) v hz) : ∀ (kz jz : Nat), jz + kz = (k - (i + 1)) → gf E mX8_chooseNext d 39 [(0, .ref (E.1 + 243)), (1, .int (nI k)), (2, .int (nI i)), (3, .int (nI (i + 1 + (jz))))] [] (hpl h A (upr Q 3 ((itN (cnB i) ch (jz)))) X) v hz := by
  intro kz
  induction kz with
  | zero =>
    intro jz hj
    have hj : (k - (i + 1)) = jz := by omega
    subst hj
    refine gf_iload_n 3 dX8_chooseNext_39 rfl rfl ?_
    refine gf_iload_n 1 dX8_chooseNext_40 rfl rfl ?_
    refine gf_icmp_ge 66 dX8_chooseNext_41 rfl (fun _ => ?_) (fun q => absurd (nI_le (by omega) (by omega)) q)
    exact gf_lw K ⟨rfl, rfl, rfl, rfl, trivial⟩
  | succ kz ih =>
    intro jz hj
    refine gf_iload_n 3 dX8_chooseNext_39 rfl rfl ?_
    refine gf_iload_n 1 dX8_chooseNext_40 rfl rfl ?_
    refine gf_icmp_ge 66 dX8_chooseNext_41 rfl (fun q => absurd q (nI_ge (by omega) (by omega))) (fun _ => ?_)
    refine gf_aload_n 0 dX8_chooseNext_44 rfl rfl ?_
    refine gf_getR flX8_18 rfl dX8_chooseNext_45 (gt_243 hG) (gp_243_6 hG) ?_
    refine gf_iload_n 3 dX8_chooseNext_48 rfl rfl ?_
    refine gf_aload_n 0 dX8_chooseNext_49 rfl rfl ?_
    refine gf_getR flX8_18 rfl dX8_chooseNext_50 (gt_243 hG) (gp_243_6 hG) ?_
    refine gf_iload_n 3 dX8_chooseNext_53 rfl rfl ?_
    refine gf_iconst (1) dX8_chooseNext_54 rfl ?_
    refine gf_isub dX8_chooseNext_55 ?_
    refine gf_iald 3 dX8_chooseNext_56 (gt_246 hG) (gl_246 hG) (show nI (i + 1 + jz) - 1 = nI (i + jz) from (pk_sub (b := 1) (by omega)).trans (by rw [show i + 1 + jz - 1 = i + jz from by omega])) (by omega) (by decide) ?_
    refine gf_iconst (1) dX8_chooseNext_57 rfl ?_
    refine gf_iadd dX8_chooseNext_58 ?_
    refine gf_iast 3 dX8_chooseNext_59 (gt_246 hG) (gl_246 hG) rfl (by omega) (by decide) ?_
    rw [plq_3]
    refine gf_iinc (1) dX8_chooseNext_60 rfl rfl (Nat.le_of_ble_eq_true rfl) ?_
    refine gf_goto 39 dX8_chooseNext_63 rfl ?_
    exact gf_hE (rfl) (gf_lw (ih (jz + 1) (by omega)) ⟨rfl, rfl, rfl, lvE (nI_1 (i + 1 + jz)), trivial⟩)
theorem l_X8_cn2 (E : gE) {d : Nat} {k p : Nat} (h : hp_T) (hG : gr h) (A Q X : Nat → Nat → Int32) (ch : Nat → Int32) (hk3 : k ≤ 3) (hkp : k ≤ p) (hp8 : p ≤ 8) (hp0 : Q 0 0 = nI p) : ∀ r, r ≤ k → gf E mX8_chooseNext d 4 [(0, .ref (E.1 + 243)), (1, .int (nI k)), (2, .int (nI r + (-1)))] [] (hpl h A (upr Q 3 (ch)) X) (some (.int (zb ((cnS p k ch (r)).1 = true)))) (hpl h A (upr Q 3 ((cnS p k ch (r)).2)) X) := by
  intro r
  induction r with
  | zero =>
    intro hr
    refine gf_iload_n 2 dX8_chooseNext_4 rfl rfl ?_
    refine gf_if_lt 74 dX8_chooseNext_5 rfl (fun _ => ?_) (fun q => absurd (by decide) q)
    refine gf_iconst (0) dX8_chooseNext_74 rfl ?_
    exact gf_zretE dX8_chooseNext_75 rfl (rfl) ((zb_f (fun q => Bool.noConfusion (show false = true from q))).symm) (rfl)
  | succ i ih =>
    intro hr
    rw [pk_m1]
    refine gf_iload_n 2 dX8_chooseNext_4 rfl rfl ?_
    refine gf_if_lt 74 dX8_chooseNext_5 rfl (fun q => absurd q (nI_pos (by omega))) (fun _ => ?_)
    refine gf_aload_n 0 dX8_chooseNext_8 rfl rfl ?_
    refine gf_getR flX8_18 rfl dX8_chooseNext_9 (gt_243 hG) (gp_243_6 hG) ?_
    refine gf_iload_n 2 dX8_chooseNext_12 rfl rfl ?_
    refine gf_iald 3 dX8_chooseNext_13 (gt_246 hG) (gl_246 hG) rfl (by omega) (by decide) ?_
    refine gf_aload_n 0 dX8_chooseNext_14 rfl rfl ?_
    refine gf_getI flX8_29 rfl dX8_chooseNext_15 (gt_243 hG) ?_
    rw [show hp_i (hpl h A (upr Q 3 ch) X) 243 0 = nI p from hp0]
    refine gf_iload_n 1 dX8_chooseNext_18 rfl rfl ?_
    refine gf_isub dX8_chooseNext_19 ?_
    refine gf_iload_n 2 dX8_chooseNext_20 rfl rfl ?_
    refine gf_iadd dX8_chooseNext_21 ?_
    rw [(show nI p - nI k + nI i = nI (p - k + i) from by rw [pk_sub hkp, nI_add])]
    refine gf_icmp_ge 68 dX8_chooseNext_22 rfl (fun zc22 => ?_) (fun zc22 => ?_)
    · have eF : (cnS p k ch (i + 1)) = (cnS p k ch (i)) := if_neg (fun q => by have w1 : nI (p - k + i) ≤ ch i := zc22; rw [fa_le] at w1; rw [fa_lt] at q; omega)
      refine gf_iinc (-1) dX8_chooseNext_68 rfl rfl (Nat.le_of_ble_eq_true rfl) ?_
      refine gf_goto 4 dX8_chooseNext_71 rfl ?_
      rw [eF]
      exact gf_lw (ih (by omega)) ⟨rfl, rfl, rfl, trivial⟩
    · have eT : (cnS p k ch (i + 1)) = (true, itN (cnB i) (va_up ch i (ch i + 1)) (k - (i + 1))) := if_pos (by have w1 : ¬ nI (p - k + i) ≤ ch i := zc22; rw [fa_le] at w1; rw [fa_lt]; omega)
      refine gf_aload_n 0 dX8_chooseNext_25 rfl rfl ?_
      refine gf_getR flX8_18 rfl dX8_chooseNext_26 (gt_243 hG) (gp_243_6 hG) ?_
      refine gf_iload_n 2 dX8_chooseNext_29 rfl rfl ?_
      refine gf_dup2 dX8_chooseNext_30 rfl rfl ?_
      refine gf_iald 3 dX8_chooseNext_31 (gt_246 hG) (gl_246 hG) rfl (by omega) (by decide) ?_
      refine gf_iconst (1) dX8_chooseNext_32 rfl ?_
      refine gf_iadd dX8_chooseNext_33 ?_
      refine gf_iast 3 dX8_chooseNext_34 (gt_246 hG) (gl_246 hG) rfl (by omega) (by decide) ?_
      rw [plq_3]
      refine gf_iload_n 2 dX8_chooseNext_35 rfl rfl ?_
      refine gf_iconst (1) dX8_chooseNext_36 rfl ?_
      refine gf_iadd dX8_chooseNext_37 ?_
      refine gf_istore_n 3 dX8_chooseNext_38 rfl (Nat.le_of_ble_eq_true rfl) ?_
      rw [show nI i + 1 = nI (i + 1 + 0) from nI_1 i]
      refine gf_lw (l_X8_cn1 E h hG A Q X (va_up ch i (ch i + 1)) (by omega) hk3 ?_ (k - (i + 1)) 0 (by omega)) ⟨rfl, rfl, rfl, rfl, trivial⟩
      rw [eT]
      refine gf_iconst (1) dX8_chooseNext_66 rfl ?_
      exact gf_zretE dX8_chooseNext_67 rfl (rfl) ((zb_t rfl).symm) (rfl)
theorem e_X8_chooseNext (E : gE) {d : Nat} (hd : 0 ≤ d) {k p : Nat} (h : hp_T) (hG : gr h) (A Q X : Nat → Nat → Int32) (hk3 : k ≤ 3) (hkp : k ≤ p) (hp8 : p ≤ 8) (hp0 : Q 0 0 = nI p) : ev E mX8_chooseNext d [.ref (E.1 + 243), .int (nI k)] (hpl h A Q X) (some (.int (zb ((cnS p k (Q 3) k).1 = true)))) (hpl h A (upr Q 3 (cnS p k (Q 3) k).2) X) := by
  refine ev_of rfl (fun q => absurd q (by decide)) (Nat.le_of_ble_eq_true rfl) ?_
  refine gf_iload_n 1 dX8_chooseNext_0 rfl rfl ?_
  refine gf_iconst (1) dX8_chooseNext_1 rfl ?_
  refine gf_isub dX8_chooseNext_2 ?_
  refine gf_istore_n 2 dX8_chooseNext_3 rfl (Nat.le_of_ble_eq_true rfl) ?_
  refine gf_hE (show hpl h A Q X = hpl h A (upr Q 3 (Q 3)) X from by rw [upr_id]) ?_
  exact gf_lw (l_X8_cn2 E h hG A Q X (Q 3) hk3 hkp hp8 hp0 k (Nat.le_refl _)) ⟨rfl, rfl, lvE (sub_m1 k), trivial⟩
