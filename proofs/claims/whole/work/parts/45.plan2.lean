/-! ===== the class: seek, plan, place ===== -/
theorem ad_old (m : Nat) (Q A : Nat → Nat → Int32) {r e : Nat} (he : e < m) (hr : r ≠ 0) : ∀ n, itN (adB m Q) A n r e = A r e
  | 0 => rfl
  | n + 1 => by
    rw [itN_s]
    unfold adB
    rw [up2_a _ _ hr, up2_k _ _ (by omega), up2_k _ _ (by omega), up2_k _ _ (by omega), up2_k _ _ (by omega)]
    exact ad_old m Q A he hr n
theorem ad_new (m : Nat) (Q A : Nat → Nat → Int32) {i : Nat} : ∀ n, i < n → itN (adB m Q) A n 3 (m + i) = Q 0 8 ∧ itN (adB m Q) A n 2 (m + i) = Q 1 (Q 3 i).toNatClampNeg
  | 0, h => absurd h (Nat.not_lt_zero i)
  | n + 1, h => by
    rw [itN_s]
    by_cases e : i = n
    · subst e
      unfold adB
      exact ⟨by rw [up2_a _ _ (by decide), up2_a _ _ (by decide), up2_s], by rw [up2_a _ _ (by decide), up2_a _ _ (by decide), up2_a _ _ (by decide), up2_s]⟩
    · obtain ⟨h1, h2⟩ := ad_new m Q A (i := i) n (by omega)
      unfold adB
      exact ⟨by rw [up2_a _ _ (by decide), up2_a _ _ (by decide), up2_k _ _ (by omega), up2_a _ _ (by decide), up2_a _ _ (by decide)]; exact h1, by rw [up2_a _ _ (by decide), up2_a _ _ (by decide), up2_a _ _ (by decide), up2_k _ _ (by omega), up2_a _ _ (by decide)]; exact h2⟩
abbrev skT : Type := ((Nat → Nat → Int32) × (Nat → Nat → Int32) × (Nat → Nat → Int32)) × Int32 × Int32
def skA (m k : Nat) (z : skT) : Nat → Nat → Int32 := itN (adB m z.1.2.1) z.1.1 k
def skX (h : hp_T) (w g m k c T : Nat) (z : skT) : Nat → Nat → Int32 := brnX (hp_i (hb (hb h 145 5 (skA m k z)) 243 4 z.1.2.1)) w g (m + k) c T z.1.2.2
abbrev skC (h : hp_T) (w g m k c T : Nat) (z : skT) : Prop := z.2.1 = -1 ∨ skX h w g m k c T z 0 2 < z.2.1
def skQ (h : hp_T) (w g m k c T : Nat) (z : skT) : Nat → Nat → Int32 := if skC h w g m k c T z then keS k z.1.2.1 else z.1.2.1
def skL (h : hp_T) (w g m k c T : Nat) (z : skT) : Int32 := if skC h w g m k c T z then skX h w g m k c T z 0 2 else z.2.1
def skB (h : hp_T) (w g m p k c T : Nat) (z : skT) (_ : Nat) : skT := if z.2.2 = 0 then z else
  ((up2 (skA m k z) 0 0 (nI m), upr (skQ h w g m k c T z) 3 (cnS p k (skQ h w g m k c T z 3) k).2, skX h w g m k c T z), skL h w g m k c T z, zb ((cnS p k (skQ h w g m k c T z 3) k).1 = true))
theorem sk_stop {h : hp_T} {w g m p k c T : Nat} {z : skT} {j : Nat} (e : (itN (skB h w g m p k c T) z j).2.2 = 0) : ∀ n, itN (skB h w g m p k c T) z (j + n) = itN (skB h w g m p k c T) z j
  | 0 => rfl
  | n + 1 => by
    show skB h w g m p k c T (itN (skB h w g m p k c T) z (j + n)) (j + n) = _
    rw [sk_stop e n]
    exact if_pos e
/-- what a search keeps -/
def skI (w g m p k : Nat) (z : skT) : Prop := z.1.1 0 0 = nI m ∧ (∀ e, e < m → (∃ q, q ≤ 9 ∧ z.1.1 3 e = nI q) ∧ ∃ a, a < w * g ∧ z.1.1 2 e = nI a) ∧ z.1.2.1 0 0 = nI p ∧ (∃ q, q ≤ 9 ∧ z.1.2.1 0 8 = nI q) ∧ (∀ i, i < p → ∃ a, a < w * g ∧ z.1.2.1 1 i = nI a) ∧ chOK p k (z.1.2.1 3)
theorem keS_row (k : Nat) (Q : Nat → Nat → Int32) {r : Nat} (h0 : r ≠ 0) (h2 : r ≠ 2) : keS k Q r = Q r := by
  unfold keS
  exact (ke_row _ h2 _).trans (up2_row h0)
theorem keS_0 (k : Nat) (Q : Nat → Nat → Int32) {i : Nat} (h1 : i ≠ 1) : keS k Q 0 i = Q 0 i := by
  unfold keS
  rw [ke_row _ (by decide), up2_k _ _ h1]
theorem skQ_row (h : hp_T) (w g m k c T : Nat) (z : skT) {r : Nat} (h0 : r ≠ 0) (h2 : r ≠ 2) : skQ h w g m k c T z r = z.1.2.1 r := by
  unfold skQ
  split
  · exact keS_row k _ h0 h2
  · rfl
theorem skQ_0 (h : hp_T) (w g m k c T : Nat) (z : skT) {i : Nat} (h1 : i ≠ 1) : skQ h w g m k c T z 0 i = z.1.2.1 0 i := by
  unfold skQ
  split
  · exact keS_0 k _ h1
  · rfl
theorem skB_I {h : hp_T} {w g m p k c T : Nat} {z : skT} (hkp : k ≤ p) (hp8 : p ≤ 8) (I : skI w g m p k z) (n : Nat) : skI w g m p k (skB h w g m p k c T z n) := by
  unfold skB
  split
  · exact I
  · obtain ⟨i1, i2, i3, i4, i5, i6⟩ := I
    refine ⟨by dsimp only; exact up2_s _ _ _ _, fun e he => ?_, ?_, ?_, ?_, ?_⟩
    · dsimp only
      rw [up2_a _ _ (by decide), up2_a _ _ (by decide)]
      unfold skA
      rw [ad_old m _ _ he (by decide), ad_old m _ _ he (by decide)]
      exact i2 e he
    · show skQ h w g m k c T z 0 0 = _
      rw [skQ_0 _ _ _ _ _ _ _ _ (by decide)]
      exact i3
    · show ∃ q, q ≤ 9 ∧ skQ h w g m k c T z 0 8 = _
      rw [skQ_0 _ _ _ _ _ _ _ _ (by decide)]
      exact i4
    · show ∀ i, i < p → ∃ a, a < w * g ∧ skQ h w g m k c T z 1 i = _
      rw [skQ_row _ _ _ _ _ _ _ _ (by decide) (by decide)]
      exact i5
    · show chOK p k (cnS p k (skQ h w g m k c T z 3) k).2
      rw [skQ_row _ _ _ _ _ _ _ _ (by decide) (by decide)]
      exact cn_ok hkp hp8 i6 k (Nat.le_refl _)
theorem sk_I {h : hp_T} {w g m p k c T : Nat} {z : skT} (hkp : k ≤ p) (hp8 : p ≤ 8) (I : skI w g m p k z) : ∀ n, skI w g m p k (itN (skB h w g m p k c T) z n)
  | 0 => I
  | n + 1 => skB_I hkp hp8 (sk_I hkp hp8 I n) n
theorem sk_brn {h : hp_T} {w g m p k : Nat} {z : skT} (hkp : k ≤ p) (hp8 : p ≤ 8) (hmk : m + k ≤ 12) (I : skI w g m p k z) (hw : (∀ c, c < 120 → ∃ k, k < 4 ∧ hp_i h 3 c = nI k) ∧ (∀ c, c < 120 → ∃ k, k < 6 ∧ hp_i h 4 c = nI k) ∧ (∀ c, c < 120 → hp_i h 2 c = 0 ∨ hp_i h 2 c = 1)) : brnI (hp_i (hb (hb h 145 5 (skA m k z)) 243 4 z.1.2.1)) w g (m + k) := by
  obtain ⟨i1, i2, i3, i4, i5, i6⟩ := I
  refine ⟨hmk, ?_, fun e he => ?_, fun e he => ?_, hw.1, hw.2.1, hw.2.2⟩
  · exact ad_0 m _ _ i1 k
  · show ∃ q, q ≤ 9 ∧ skA m k z 3 e = nI q
    unfold skA
    rcases Nat.lt_or_ge e m with q | q
    · rw [ad_old m _ _ q (by decide)]
      exact (i2 e q).1
    · obtain ⟨x, rfl⟩ : ∃ x, e = m + x := ⟨e - m, by omega⟩
      rw [(ad_new m _ _ k (by omega)).1]
      exact i4
  · show ∃ a, a < w * g ∧ skA m k z 2 e = nI a
    unfold skA
    rcases Nat.lt_or_ge e m with q | q
    · rw [ad_old m _ _ q (by decide)]
      exact (i2 e q).2
    · obtain ⟨x, rfl⟩ : ∃ x, e = m + x := ⟨e - m, by omega⟩
      rw [(ad_new m _ _ k (by omega)).2]
      obtain ⟨y, y1, y2⟩ := i6 x (by omega)
      rw [y2, nI_clamp (by omega)]
      exact i5 y (by omega)
theorem cty_p {h : hp_T} {w g : Nat} (A Q : Nat → Nat → Int32) (C : cty (hp_i h) w g) : cty (hp_i (hb (hb h 145 5 A) 243 4 Q)) w g := cty_hb Q (by decide) (cty_hb A (by decide) C)
theorem l_X8_seek (E : gE) {d : Nat} (hd : 5 ≤ d) {w g m p k c T : Nat} (h : hp_T) (hG : gr h) (C : cty (hp_i h) w g) (hkp : k ≤ p) (hp8 : p ≤ 8) (hk3 : k ≤ 3) (hmk : m + k ≤ 12) (hw : (∀ c, c < 120 → ∃ k, k < 4 ∧ hp_i h 3 c = nI k) ∧ (∀ c, c < 120 → ∃ k, k < 6 ∧ hp_i h 4 c = nI k) ∧ (∀ c, c < 120 → hp_i h 2 c = 0 ∨ hp_i h 2 c = 1)) (hT : T ≤ 120) (hc : c < 120) (z0 : skT) (I0 : skI w g m p k z0) {N : Nat} (hN : N = 56) : ∀ (kz jz : Nat), jz + kz = N → gf E mX8_seek d 42 [(0, .ref (E.1 + 243)), (1, .int (nI k)), (2, .int (nI c)), (3, .int (nI T)), (4, .ref (E.1 + 170)), (5, .int (nI m)), (6, .int (itN (skB h w g m p k c T) z0 (jz)).2.1), (7, .int (itN (skB h w g m p k c T) z0 (jz)).2.2), (8, .int (nI (jz)))] [] (hpl h (itN (skB h w g m p k c T) z0 (jz)).1.1 (itN (skB h w g m p k c T) z0 (jz)).1.2.1 (itN (skB h w g m p k c T) z0 (jz)).1.2.2) (some (.int (itN (skB h w g m p k c T) z0 (N)).2.1)) (hpl h (itN (skB h w g m p k c T) z0 (N)).1.1 (itN (skB h w g m p k c T) z0 (N)).1.2.1 (itN (skB h w g m p k c T) z0 (N)).1.2.2) := by
  intro kz
  induction kz with
  | zero =>
    intro jz hj
    have hj : N = jz := by omega
    rw [hj]
    refine gf_iload dX8_seek_42 rfl ?_
    refine gf_bipush (56) dX8_seek_44 rfl ?_
    refine gf_icmp_ge 124 dX8_seek_46 rfl (fun _ => ?_) (fun q => absurd (nI_le (a := 56) (by omega) (by omega)) q)
    refine gf_iload dX8_seek_124 rfl ?_
    exact gf_iretE dX8_seek_126 rfl (rfl) (rfl)
  | succ kz ih =>
    intro jz hj
    have ih1 := ih (jz + 1) (by omega)
    rw [itN_s] at ih1
    have I := sk_I (h := h) (c := c) (T := T) hkp hp8 I0 jz
    generalize hzz : (itN (skB h w g m p k c T) z0 (jz)) = z at ih1 I ⊢
    refine gf_iload dX8_seek_42 rfl ?_
    refine gf_bipush (56) dX8_seek_44 rfl ?_
    refine gf_icmp_ge 124 dX8_seek_46 rfl (fun q => absurd q (nI_ge (b := 56) (by omega) (by omega))) (fun _ => ?_)
    refine gf_iload dX8_seek_49 rfl ?_
    refine gf_if_eq 124 dX8_seek_51 rfl (fun zc51 => ?_) (fun zc51 => ?_)
    · refine gf_iload dX8_seek_124 rfl ?_
      exact gf_iretE dX8_seek_126 rfl (by rw [show N = jz + (N - jz) from by omega, sk_stop (by rw [hzz]; exact zc51), hzz]) (by rw [show N = jz + (N - jz) from by omega, sk_stop (by rw [hzz]; exact zc51), hzz])
    · refine gf_aload_n 0 dX8_seek_54 rfl rfl ?_
      refine gf_iload_n 1 dX8_seek_55 rfl rfl ?_
      refine gf_callV cmX8_addChosen lkX8_50 imX8_addChosen seX8_addChosen ⟨rfl, by decide⟩ dX8_seek_56 (d1 := d - 1) (by omega) (gt_243 hG) (e_X8_addChosen E (by omega) h hG z.1.1 z.1.2.1 z.1.2.2 I.1 hmk hk3 hkp hp8 I.2.2.2.2.2) rfl rfl (Nat.le_of_ble_eq_true rfl) ?_
      change gf _ _ _ _ _ _ (hb (hb (hb h 145 5 (skA m k z)) 243 4 z.1.2.1) 193 12 z.1.2.2) _ _
      refine gf_aload_n 0 dX8_seek_59 rfl rfl ?_
      refine gf_getR flX8_25 rfl dX8_seek_60 (gt_243 hG) (gp_243_5 hG) ?_
      refine gf_iload_n 2 dX8_seek_63 rfl rfl ?_
      refine gf_iload_n 3 dX8_seek_64 rfl rfl ?_
      refine gf_aload dX8_seek_65 rfl ?_
      refine gf_callV cmX5_burn lkX8_54 imX5_burn seX5_burn ⟨rfl, by decide⟩ dX8_seek_67 (d1 := d - 1) (by omega) (gt_193 hG) (e_burn_193 E (by omega) (m := m + k) (T := T) (c := c) (hb (hb h 145 5 (skA m k z)) 243 4 z.1.2.1) hG z.1.2.2 (cty_p _ _ C) (sk_brn hkp hp8 hmk I hw) hT hc) rfl rfl (Nat.le_of_ble_eq_true rfl) ?_
      change gf _ _ _ _ _ _ (hpl h (skA m k z) z.1.2.1 (skX h w g m k c T z)) _ _
      refine gf_aload_n 0 dX8_seek_70 rfl rfl ?_
      refine gf_getR flX8_21 rfl dX8_seek_71 (gt_243 hG) (gp_243_4 hG) ?_
      refine gf_iload dX8_seek_74 rfl ?_
      refine gf_putI flX8_45 rfl rfl dX8_seek_76 (gt_145 hG) ⟨rfl, rfl⟩ ?_
      rw [ple_0]
      refine gf_iload dX8_seek_79 rfl ?_
      refine gf_iconst (-1) dX8_seek_81 rfl ?_
      refine gf_icmp_eq 97 dX8_seek_82 rfl (fun zc82 => ?_) (fun zc82 => ?_)
      · have eQ : skQ h w g m k c T z = keS k z.1.2.1 := if_pos (Or.inl zc82)
        have eL : skL h w g m k c T z = (skX h w g m k c T z) 0 2 := if_pos (Or.inl zc82)
        refine gf_aload_n 0 dX8_seek_97 rfl rfl ?_
        refine gf_getR flX8_25 rfl dX8_seek_98 (gt_243 hG) (gp_243_5 hG) ?_
        refine gf_getI flX8_60 rfl dX8_seek_101 (gt_193 hG) ?_
        rw [show hp_i (hpl h (up2 (skA m k z) 0 0 (nI m)) z.1.2.1 (skX h w g m k c T z)) 193 2 = (skX h w g m k c T z) 0 2 from rfl]
        refine gf_istore dX8_seek_104 (Nat.le_of_ble_eq_true rfl) ?_
        refine gf_aload_n 0 dX8_seek_106 rfl rfl ?_
        refine gf_iload_n 1 dX8_seek_107 rfl rfl ?_
        refine gf_callV cmX8_keep lkX8_63 imX8_keep seX8_keep ⟨rfl, by decide⟩ dX8_seek_108 (d1 := d - 1) (by omega) (gt_243 hG) (e_X8_keep E (by omega) (p := p) h hG (up2 (skA m k z) 0 0 (nI m)) z.1.2.1 (skX h w g m k c T z) hk3 hkp hp8 I.2.2.2.2.2) rfl rfl (Nat.le_of_ble_eq_true rfl) ?_
        refine gf_aload_n 0 dX8_seek_111 rfl rfl ?_
        refine gf_iload_n 1 dX8_seek_112 rfl rfl ?_
        refine gf_callV cmX8_chooseNext lkX8_66 imX8_chooseNext seX8_chooseNext ⟨rfl, by decide⟩ dX8_seek_113 (d1 := d - 1) (by omega) (gt_243 hG) (e_X8_chooseNext E (by omega) (p := p) h hG (up2 (skA m k z) 0 0 (nI m)) (keS k z.1.2.1) (skX h w g m k c T z) hk3 hkp hp8 (by rw [keS_0 k _ (by decide)]; exact I.2.2.1)) rfl rfl (Nat.le_of_ble_eq_true rfl) ?_
        refine gf_istore dX8_seek_116 (Nat.le_of_ble_eq_true rfl) ?_
        refine gf_iinc (1) dX8_seek_118 rfl rfl (Nat.le_of_ble_eq_true rfl) ?_
        refine gf_goto 42 dX8_seek_121 rfl ?_
        rw [show skB h w g m p k c T z jz = (((up2 (skA m k z) 0 0 (nI m)), upr (skQ h w g m k c T z) 3 (cnS p k (skQ h w g m k c T z 3) k).2, (skX h w g m k c T z)), skL h w g m k c T z, zb ((cnS p k (skQ h w g m k c T z 3) k).1 = true)) from if_neg zc51] at ih1
        dsimp only at ih1
        rw [eQ, eL] at ih1
        exact gf_lw ih1 ⟨rfl, rfl, rfl, rfl, rfl, rfl, rfl, rfl, lvE (nI_1 jz), trivial⟩
      · refine gf_aload_n 0 dX8_seek_85 rfl rfl ?_
        refine gf_getR flX8_25 rfl dX8_seek_86 (gt_243 hG) (gp_243_5 hG) ?_
        refine gf_getI flX8_60 rfl dX8_seek_89 (gt_193 hG) ?_
        rw [show hp_i (hpl h (up2 (skA m k z) 0 0 (nI m)) z.1.2.1 (skX h w g m k c T z)) 193 2 = (skX h w g m k c T z) 0 2 from rfl]
        refine gf_iload dX8_seek_92 rfl ?_
        refine gf_icmp_ge 111 dX8_seek_94 rfl (fun zc94 => ?_) (fun zc94 => ?_)
        · have eQ : skQ h w g m k c T z = z.1.2.1 := if_neg (fun q => q.elim (fun w => zc82 w) (fun w => by have w1 := zc94; rw [fa_le] at w1; rw [fa_lt] at w; omega))
          have eL : skL h w g m k c T z = z.2.1 := if_neg (fun q => q.elim (fun w => zc82 w) (fun w => by have w1 := zc94; rw [fa_le] at w1; rw [fa_lt] at w; omega))
          refine gf_aload_n 0 dX8_seek_111 rfl rfl ?_
          refine gf_iload_n 1 dX8_seek_112 rfl rfl ?_
          refine gf_callV cmX8_chooseNext lkX8_66 imX8_chooseNext seX8_chooseNext ⟨rfl, by decide⟩ dX8_seek_113 (d1 := d - 1) (by omega) (gt_243 hG) (e_X8_chooseNext E (by omega) (p := p) h hG (up2 (skA m k z) 0 0 (nI m)) z.1.2.1 (skX h w g m k c T z) hk3 hkp hp8 I.2.2.1) rfl rfl (Nat.le_of_ble_eq_true rfl) ?_
          refine gf_istore dX8_seek_116 (Nat.le_of_ble_eq_true rfl) ?_
          refine gf_iinc (1) dX8_seek_118 rfl rfl (Nat.le_of_ble_eq_true rfl) ?_
          refine gf_goto 42 dX8_seek_121 rfl ?_
          rw [show skB h w g m p k c T z jz = (((up2 (skA m k z) 0 0 (nI m)), upr (skQ h w g m k c T z) 3 (cnS p k (skQ h w g m k c T z 3) k).2, (skX h w g m k c T z)), skL h w g m k c T z, zb ((cnS p k (skQ h w g m k c T z 3) k).1 = true)) from if_neg zc51] at ih1
          dsimp only at ih1
          rw [eQ, eL] at ih1
          exact gf_lw ih1 ⟨rfl, rfl, rfl, rfl, rfl, rfl, rfl, rfl, lvE (nI_1 jz), trivial⟩
        · have eQ : skQ h w g m k c T z = keS k z.1.2.1 := if_pos (Or.inr (by have w1 := zc94; rw [fa_le] at w1; rw [fa_lt]; omega))
          have eL : skL h w g m k c T z = (skX h w g m k c T z) 0 2 := if_pos (Or.inr (by have w1 := zc94; rw [fa_le] at w1; rw [fa_lt]; omega))
          refine gf_aload_n 0 dX8_seek_97 rfl rfl ?_
          refine gf_getR flX8_25 rfl dX8_seek_98 (gt_243 hG) (gp_243_5 hG) ?_
          refine gf_getI flX8_60 rfl dX8_seek_101 (gt_193 hG) ?_
          rw [show hp_i (hpl h (up2 (skA m k z) 0 0 (nI m)) z.1.2.1 (skX h w g m k c T z)) 193 2 = (skX h w g m k c T z) 0 2 from rfl]
          refine gf_istore dX8_seek_104 (Nat.le_of_ble_eq_true rfl) ?_
          refine gf_aload_n 0 dX8_seek_106 rfl rfl ?_
          refine gf_iload_n 1 dX8_seek_107 rfl rfl ?_
          refine gf_callV cmX8_keep lkX8_63 imX8_keep seX8_keep ⟨rfl, by decide⟩ dX8_seek_108 (d1 := d - 1) (by omega) (gt_243 hG) (e_X8_keep E (by omega) (p := p) h hG (up2 (skA m k z) 0 0 (nI m)) z.1.2.1 (skX h w g m k c T z) hk3 hkp hp8 I.2.2.2.2.2) rfl rfl (Nat.le_of_ble_eq_true rfl) ?_
          refine gf_aload_n 0 dX8_seek_111 rfl rfl ?_
          refine gf_iload_n 1 dX8_seek_112 rfl rfl ?_
          refine gf_callV cmX8_chooseNext lkX8_66 imX8_chooseNext seX8_chooseNext ⟨rfl, by decide⟩ dX8_seek_113 (d1 := d - 1) (by omega) (gt_243 hG) (e_X8_chooseNext E (by omega) (p := p) h hG (up2 (skA m k z) 0 0 (nI m)) (keS k z.1.2.1) (skX h w g m k c T z) hk3 hkp hp8 (by rw [keS_0 k _ (by decide)]; exact I.2.2.1)) rfl rfl (Nat.le_of_ble_eq_true rfl) ?_
          refine gf_istore dX8_seek_116 (Nat.le_of_ble_eq_true rfl) ?_
          refine gf_iinc (1) dX8_seek_118 rfl rfl (Nat.le_of_ble_eq_true rfl) ?_
          refine gf_goto 42 dX8_seek_121 rfl ?_
          rw [show skB h w g m p k c T z jz = (((up2 (skA m k z) 0 0 (nI m)), upr (skQ h w g m k c T z) 3 (cnS p k (skQ h w g m k c T z 3) k).2, (skX h w g m k c T z)), skL h w g m k c T z, zb ((cnS p k (skQ h w g m k c T z 3) k).1 = true)) from if_neg zc51] at ih1
          dsimp only at ih1
          rw [eQ, eL] at ih1
          exact gf_lw ih1 ⟨rfl, rfl, rfl, rfl, rfl, rfl, rfl, rfl, lvE (nI_1 jz), trivial⟩
theorem l_X8_sk0 (E : gE) {d : Nat} {k c T : Nat} (h : hp_T) (hG : gr h) (A Q X : Nat → Nat → Int32) (hk3 : k ≤ 3) {v : Option Value} {hz : hp_T} (K : gf E mX8_seek d 24 [(0, .ref (E.1 + 243)), (1, .int (nI k)), (2, .int (nI c)), (3, .int (nI T)), (4, .ref (E.1 + 170)), (5, .int (nI (k)))] [] (hpl h A (upr Q 3 (itN (fun f i => va_up f i (nI i)) (Q 3) (k))) X) v hz) : ∀ (kz jz : Nat), jz + kz = k → gf E mX8_seek d 3 [(0, .ref (E.1 + 243)), (1, .int (nI k)), (2, .int (nI c)), (3, .int (nI T)), (4, .ref (E.1 + 170)), (5, .int (nI (jz)))] [] (hpl h A (upr Q 3 (itN (fun f i => va_up f i (nI i)) (Q 3) (jz))) X) v hz := by
  intro kz
  induction kz with
  | zero =>
    intro jz hj
    have hj : k = jz := by omega
    subst hj
    refine gf_iload dX8_seek_3 rfl ?_
    refine gf_iload_n 1 dX8_seek_5 rfl rfl ?_
    refine gf_icmp_ge 24 dX8_seek_6 rfl (fun _ => ?_) (fun q => absurd (Int32.le_refl _) q)
    exact gf_lw K ⟨rfl, rfl, rfl, rfl, rfl, rfl, trivial⟩
  | succ kz ih =>
    intro jz hj
    refine gf_iload dX8_seek_3 rfl ?_
    refine gf_iload_n 1 dX8_seek_5 rfl rfl ?_
    refine gf_icmp_ge 24 dX8_seek_6 rfl (fun q => absurd q (nI_ge (by omega) (by omega))) (fun _ => ?_)
    refine gf_aload_n 0 dX8_seek_9 rfl rfl ?_
    refine gf_getR flX8_18 rfl dX8_seek_10 (gt_243 hG) (gp_243_6 hG) ?_
    refine gf_iload dX8_seek_13 rfl ?_
    refine gf_iload dX8_seek_15 rfl ?_
    refine gf_iast 3 dX8_seek_17 (gt_246 hG) (gl_246 hG) rfl (by omega) (by decide) ?_
    rw [plq_3]
    refine gf_iinc (1) dX8_seek_18 rfl rfl (Nat.le_of_ble_eq_true rfl) ?_
    refine gf_goto 3 dX8_seek_21 rfl ?_
    exact gf_hE (rfl) (gf_lw (ih (jz + 1) (by omega)) ⟨rfl, rfl, rfl, rfl, rfl, lvE (nI_1 jz), trivial⟩)
theorem ch0_ok (f : Nat → Int32) (p : Nat) : ∀ n k, (∀ i, i < n → itN (fun f i => va_up f i (nI i)) f n i = nI i) ∧ (k = n → chOK p k (itN (fun f i => va_up f i (nI i)) f n)) := by
  have a : ∀ n, ∀ i, i < n → itN (fun f i => va_up f i (nI i)) f n i = nI i := by
    intro n
    induction n with
    | zero => intro i hi; exact absurd hi (Nat.not_lt_zero i)
    | succ n ih =>
      intro i hi
      rw [itN_s]
      unfold va_up
      split
      · rename_i e
        rw [e]
      · exact ih i (by omega)
  exact fun n k => ⟨a n, fun e i hi => ⟨i, by omega, a n i (by omega)⟩⟩
def sk0 (k : Nat) (A Q X : Nat → Nat → Int32) : skT := ((A, upr Q 3 (itN (fun f i => va_up f i (nI i)) (Q 3) k), X), -1, 1)
def skS (h : hp_T) (w g m p k c T : Nat) (A Q X : Nat → Nat → Int32) : skT := itN (skB h w g m p k c T) (sk0 k A Q X) 56
theorem e_X8_seek (E : gE) {d : Nat} (hd : 5 ≤ d) {w g m p k c T : Nat} (h : hp_T) (hG : gr h) (C : cty (hp_i h) w g) (hkp : k ≤ p) (hp8 : p ≤ 8) (hk3 : k ≤ 3) (hmk : m + k ≤ 12) (hw : (∀ c, c < 120 → ∃ k, k < 4 ∧ hp_i h 3 c = nI k) ∧ (∀ c, c < 120 → ∃ k, k < 6 ∧ hp_i h 4 c = nI k) ∧ (∀ c, c < 120 → hp_i h 2 c = 0 ∨ hp_i h 2 c = 1)) (hT : T ≤ 120) (hc : c < 120) (A Q X : Nat → Nat → Int32) (I0 : skI w g m p k (sk0 k A Q X)) : ev E mX8_seek d [.ref (E.1 + 243), .int (nI k), .int (nI c), .int (nI T), .ref (E.1 + 170)] (hpl h A Q X) (some (.int (skS h w g m p k c T A Q X).2.1)) (hpl h (skS h w g m p k c T A Q X).1.1 (skS h w g m p k c T A Q X).1.2.1 (skS h w g m p k c T A Q X).1.2.2) := by
  refine ev_of rfl (fun q => absurd q (by decide)) (Nat.le_of_ble_eq_true rfl) ?_
  refine gf_iconst (0) dX8_seek_0 rfl ?_
  refine gf_istore dX8_seek_1 (Nat.le_of_ble_eq_true rfl) ?_
  refine gf_hE (show hpl h A Q X = hpl h A (upr Q 3 (Q 3)) X from by rw [upr_id]) ?_
  refine gf_lw (l_X8_sk0 E (c := c) (T := T) h hG A Q X hk3 ?_ k 0 (by omega)) ⟨rfl, rfl, rfl, rfl, rfl, rfl, trivial⟩
  refine gf_aload_n 0 dX8_seek_24 rfl rfl ?_
  refine gf_getR flX8_21 rfl dX8_seek_25 (gt_243 hG) (gp_243_4 hG) ?_
  refine gf_getI flX8_45 rfl dX8_seek_28 (gt_145 hG) ?_
  rw [show hp_i (hpl h A (upr Q 3 (itN (fun f i => va_up f i (nI i)) (Q 3) (k))) X) 145 0 = nI m from I0.1]
  refine gf_istore dX8_seek_31 (Nat.le_of_ble_eq_true rfl) ?_
  refine gf_iconst (-1) dX8_seek_33 rfl ?_
  refine gf_istore dX8_seek_34 (Nat.le_of_ble_eq_true rfl) ?_
  refine gf_iconst (1) dX8_seek_36 rfl ?_
  refine gf_istore dX8_seek_37 (Nat.le_of_ble_eq_true rfl) ?_
  refine gf_iconst (0) dX8_seek_39 rfl ?_
  refine gf_istore dX8_seek_40 (Nat.le_of_ble_eq_true rfl) ?_
  unfold skS
  change gf _ _ _ _ _ _ (hpl h (sk0 k A Q X).1.1 (sk0 k A Q X).1.2.1 (sk0 k A Q X).1.2.2) _ _
  exact gf_lw (l_X8_seek E hd h hG C hkp hp8 hk3 hmk hw hT hc (sk0 k A Q X) I0 rfl 56 0 (by omega)) ⟨rfl, rfl, rfl, rfl, rfl, rfl, rfl, rfl, rfl, trivial⟩
/-- cells told for plans -/
def plI (F : Nat → Nat → Int32) (w g p : Nat) : Prop := F 243 0 = nI p ∧ p ≤ 8 ∧ ∀ i, i < p → ∃ a, a < w * g ∧ F 244 i = nI a
abbrev isPl (h : hp_T) (t o go po c mi : Int32) : Prop := (isM t 3 ∧ t ≤ hp_i h 243 0) ∧ hp_i h 145 0 + t ≤ 12 ∧ ((0 ≤ o ∧ o ≤ 8) ∧ (1 ≤ go ∧ go ≤ 9) ∧ (1 ≤ po ∧ po ≤ 9)) ∧ isH h c ∧ isM mi 60
def pA0 (h : hp_T) : Nat → Nat → Int32 := fun o => hp_i h (145 + o)
def pQ0 (h : hp_T) (o go po : Int32) : Nat → Nat → Int32 := up2 (up2 (up2 (fun o => hp_i h (243 + o)) 0 7 o) 0 8 go) 0 9 po
def planS (h : hp_T) (w g m p s : Nat) (k : Nat) (o go po : Int32) (c T : Nat) : skT := skS (hk h (lrn h w g s)) w g m p k c T (pA0 h) (pQ0 h o go po) (fun o => hp_i h (193 + o))
def planH (h : hp_T) (w g m p s : Nat) (k : Nat) (o go po : Int32) (c T : Nat) : hp_T := hpl (hk h (lrn h w g s)) (planS h w g m p s k o go po c T).1.1 (planS h w g m p s k o go po c T).1.2.1 (planS h w g m p s k o go po c T).1.2.2
theorem hpk (h : hp_T) (w g s : Nat) : hk h (lrn h w g s) = hpl (hk h (lrn h w g s)) (pA0 h) (fun o => hp_i h (243 + o)) (fun o => hp_i h (193 + o)) := by
  have e := hpl_id (hk h (lrn h w g s))
  generalize lrn h w g s = S at e ⊢
  refine e.symm.trans ?_
  unfold hpl
  refine congrArg (fun z => ((hk h S).1, (hk h S).2.1, (hk h S).2.2.1, (hk h S).2.2.2.1, z, (hk h S).2.2.2.2.2.1, (hk h S).2.2.2.2.2.2)) ?_
  funext x
  have q : ∀ y, ¬ (165 ≤ y ∧ y < 165 + 9) → hp_i (hk h S) y = hp_i h y := fun y hy => if_neg hy
  by_cases h1 : 193 ≤ x ∧ x < 193 + 12
  · simp only [h1, if_true, and_self]
    exact q _ (by omega)
  · by_cases h2 : 243 ≤ x ∧ x < 243 + 4
    · simp only [h1, h2, if_true, if_false, and_self, hb]
      exact q _ (by omega)
    · by_cases h3 : 145 ≤ x ∧ x < 145 + 5
      · simp only [h1, h2, h3, if_true, if_false, and_self, hb]
        exact q _ (by omega)
      · simp only [h1, h2, h3, if_false, hb]
theorem e_X11_plan (E : gE) {d : Nat} (hd : 9 ≤ d) (t o go po c mi : Int32) {w g n s m p : Nat} (h : hp_T) (hG : gr h) (K : actK h w g n s) (C : cty (hp_i h) w g) (I : brnI (hp_i h) w g m) (L : plI (hp_i h) w g p) : ev E mX11_plan d [.ref (E.1 + 0), .int t, .int o, .int go, .int po, .int c, .int mi] h (some (.int (if isPl h t o go po c mi then (planS h w g m p s t.toNatClampNeg o go po c.toNatClampNeg mi.toNatClampNeg).2.1 else -1))) (if isPl h t o go po c mi then planH h w g m p s t.toNatClampNeg o go po c.toNatClampNeg mi.toNatClampNeg else h) := by
  refine ev_of rfl (fun q => absurd q (by decide)) (Nat.le_of_ble_eq_true rfl) ?_
  have hn := cty_n C
  by_cases hP : isPl h t o go po c mi
  · rw [if_pos hP, if_pos hP]
    obtain ⟨⟨p1, p2⟩, p3, p4, p5, p6⟩ := hP
    obtain ⟨k, hk3, ek, hk1⟩ := isM_n (by omega) p1
    obtain ⟨cc, hc, ec⟩ := isH_n C p5
    obtain ⟨T, hT, eT, -⟩ := isM_n (by omega) p6
    subst ek
    subst ec
    subst eT
    rw [nI_clamp (by omega), nI_clamp (by omega), nI_clamp (by omega)]
    have hm12 := I.1
    have hp8 := L.2.1
    rw [L.1] at p2
    have hkp : k ≤ p := (nI_leI (by omega) (by omega)).mp p2
    rw [I.2.1, nI_add] at p3
    have hmk : m + k ≤ 12 := (nI_leI (b := 12) (by omega) (by omega)).mp p3
    have hgo : ∃ q, q ≤ 9 ∧ go = nI q := by
      obtain ⟨q, q1, q2, -⟩ := isM_n (t := go) (k := 9) (by omega) p4.2.1
      exact ⟨q, q1, q2⟩
    refine gf_iload_n 1 dX11_plan_0 rfl rfl ?_
    refine gf_iconst (1) dX11_plan_1 rfl ?_
    refine gf_iconst (3) dX11_plan_2 rfl ?_
    refine gf_callS cmX11_within lkX11_105 stX11_within dX11_plan_3 (d1 := d - 1) (by omega) (e_X11_within E (by omega) (nI k) 1 3 h) rfl rfl (Nat.le_of_ble_eq_true rfl) ?_
    refine gf_if_eq 67 dX11_plan_6 rfl (fun q => absurd q (fun q => zb_0.mp q p1)) (fun _ => ?_)
    refine gf_iload_n 1 dX11_plan_9 rfl rfl ?_
    refine gf_aload_n 0 dX11_plan_10 rfl rfl ?_
    refine gf_getR flX11_89 rfl dX11_plan_11 (gt_0 (by first | exact hG | exact hG0)) (gp_0_11 (by first | exact hG | exact hG0)) ?_
    refine gf_getI flX11_311 rfl dX11_plan_14 (gt_243 (by first | exact hG | exact hG0)) ?_
    refine gf_icmp_gt 67 dX11_plan_17 rfl (fun q => absurd q (fun q => absurd q (by rw [L.1]; exact nI_nlt hkp (by omega)))) (fun _ => ?_)
    refine gf_aload_n 0 dX11_plan_20 rfl rfl ?_
    refine gf_getR flX11_19 rfl dX11_plan_21 (gt_0 (by first | exact hG | exact hG0)) (gp_0_1 (by first | exact hG | exact hG0)) ?_
    refine gf_getI flX11_109 rfl dX11_plan_24 (gt_145 (by first | exact hG | exact hG0)) ?_
    refine gf_iload_n 1 dX11_plan_27 rfl rfl ?_
    refine gf_iadd dX11_plan_28 ?_
    refine gf_bipush (12) dX11_plan_29 rfl ?_
    refine gf_icmp_gt 67 dX11_plan_31 rfl (fun q => absurd q (fun q => absurd q (by rw [I.2.1, nI_add]; exact nI_nlt (b := m + k) (a := 12) hmk (by omega)))) (fun _ => ?_)
    refine gf_iload_n 2 dX11_plan_34 rfl rfl ?_
    refine gf_iload_n 3 dX11_plan_35 rfl rfl ?_
    refine gf_iload dX11_plan_36 rfl ?_
    refine gf_callS cmX11_mayServe lkX11_150 stX11_mayServe dX11_plan_38 (d1 := d - 1) (by omega) (e_X11_mayServe E (by omega) o go po h) rfl rfl (Nat.le_of_ble_eq_true rfl) ?_
    refine gf_if_eq 67 dX11_plan_41 rfl (fun q => absurd q (fun q => zb_0.mp q p4)) (fun _ => ?_)
    refine gf_aload_n 0 dX11_plan_44 rfl rfl ?_
    refine gf_getR flX11_10 rfl dX11_plan_45 (gt_0 (by first | exact hG | exact hG0)) (gp_0_0 (by first | exact hG | exact hG0)) ?_
    refine gf_iload dX11_plan_48 rfl ?_
    refine gf_callV cmX1_hasHouse lkX11_178 imX1_hasHouse seX1_hasHouse ⟨rfl, by decide⟩ dX11_plan_50 (d1 := d - 1) (by omega) (gt_1 (by first | exact hG | exact hG0)) (e_X1_hasHouse E (by omega) (nI cc) h hG C) rfl rfl (Nat.le_of_ble_eq_true rfl) ?_
    refine gf_if_eq 67 dX11_plan_53 rfl (fun q => absurd q (fun q => zb_0.mp q p5)) (fun _ => ?_)
    refine gf_iload dX11_plan_56 rfl ?_
    refine gf_iconst (1) dX11_plan_58 rfl ?_
    refine gf_bipush (60) dX11_plan_59 rfl ?_
    refine gf_callS cmX11_within lkX11_105 stX11_within dX11_plan_61 (d1 := d - 1) (by omega) (e_X11_within E (by omega) (nI T) 1 60 h) rfl rfl (Nat.le_of_ble_eq_true rfl) ?_
    refine gf_if_ne 69 dX11_plan_64 rfl (fun _ => ?_) (fun q => absurd q (fun q => zb_0.mp q p6))
    refine gf_aload_n 0 dX11_plan_69 rfl rfl ?_
    refine gf_callV cmX11_learn lkX11_244 imX11_learn seX11_learn ⟨rfl, by decide⟩ dX11_plan_70 (d1 := d - 1) (by omega) (gt_0 (by first | exact hG | exact hG0)) (e_X11_learn E (by omega) h hG K C) rfl rfl (Nat.le_of_ble_eq_true rfl) ?_
    have hG0 := gr_k (lrn h w g s) hG
    refine gf_hE (hpk h w g s) ?_
    refine gf_aload_n 0 dX11_plan_73 rfl rfl ?_
    refine gf_getR flX11_89 rfl dX11_plan_74 (gt_0 (by first | exact hG | exact hG0)) (gp_0_11 (by first | exact hG | exact hG0)) ?_
    refine gf_iload_n 2 dX11_plan_77 rfl rfl ?_
    refine gf_iload_n 3 dX11_plan_78 rfl rfl ?_
    refine gf_iload dX11_plan_79 rfl ?_
    refine gf_callV cmX8_order lkX11_317 imX8_order seX8_order ⟨rfl, by decide⟩ dX11_plan_81 (d1 := d - 1) (by omega) (gt_243 (by first | exact hG | exact hG0)) (e_X8_order E (by omega) o go po (hk h (lrn h w g s)) hG0 (pA0 h) (fun o => hp_i h (243 + o)) (fun o => hp_i h (193 + o))) rfl rfl (Nat.le_of_ble_eq_true rfl) ?_
    refine gf_aload_n 0 dX11_plan_84 rfl rfl ?_
    refine gf_getR flX11_89 rfl dX11_plan_85 (gt_0 (by first | exact hG | exact hG0)) (gp_0_11 (by first | exact hG | exact hG0)) ?_
    refine gf_iload_n 1 dX11_plan_88 rfl rfl ?_
    refine gf_iload dX11_plan_89 rfl ?_
    refine gf_iload dX11_plan_91 rfl ?_
    refine gf_aload_n 0 dX11_plan_93 rfl rfl ?_
    refine gf_getR flX11_40 rfl dX11_plan_94 (gt_0 (by first | exact hG | exact hG0)) (gp_0_4 (by first | exact hG | exact hG0)) ?_
    refine gf_getR flX11_247 rfl dX11_plan_97 (gt_165 (by first | exact hG | exact hG0)) (gp_165_5 (by first | exact hG | exact hG0)) ?_
    have hI0 : skI w g m p k (sk0 k (pA0 h) (pQ0 h o go po) (fun o => hp_i h (193 + o))) := ⟨I.2.1, fun e he => ⟨I.2.2.1 e he, I.2.2.2.1 e he⟩, L.1, hgo, L.2.2, (ch0_ok _ p k k).2 rfl⟩
    refine gf_callV cmX8_seek lkX11_320 imX8_seek seX8_seek ⟨rfl, by decide⟩ dX11_plan_100 (d1 := d - 1) (by omega) (gt_243 (by first | exact hG | exact hG0)) (e_X8_seek E (by omega) (m := m) (p := p) (k := k) (c := cc) (T := T) (hk h (lrn h w g s)) hG0 (cty_hb (b := 165) (n := 9) _ (by decide) C) hkp hp8 hk3 hmk ⟨I.2.2.2.2.1, I.2.2.2.2.2.1, I.2.2.2.2.2.2⟩ (by omega) (by omega) (pA0 h) (pQ0 h o go po) (fun o => hp_i h (193 + o)) hI0) rfl rfl (Nat.le_of_ble_eq_true rfl) ?_
    rw [show skS (hk h (lrn h w g s)) w g m p k cc T (pA0 h) (pQ0 h o go po) (fun o => hp_i h (193 + o)) = planS h w g m p s k o go po cc T from by unfold planS; rfl]
    exact gf_iretE dX11_plan_103 rfl (rfl) (by unfold planH; rfl)
  · rw [if_neg hP, if_neg hP]
    refine gf_iload_n 1 dX11_plan_0 rfl rfl ?_
    refine gf_iconst (1) dX11_plan_1 rfl ?_
    refine gf_iconst (3) dX11_plan_2 rfl ?_
    refine gf_callS cmX11_within lkX11_105 stX11_within dX11_plan_3 (d1 := d - 1) (by omega) (e_X11_within E (by omega) t 1 3 h) rfl rfl (Nat.le_of_ble_eq_true rfl) ?_
    refine gf_if_eq 67 dX11_plan_6 rfl (fun zc6 => ?_) (fun zc6 => ?_)
    · refine gf_iconst (-1) dX11_plan_67 rfl ?_
      exact gf_iretE dX11_plan_68 rfl (rfl) (rfl)
    · refine gf_iload_n 1 dX11_plan_9 rfl rfl ?_
      refine gf_aload_n 0 dX11_plan_10 rfl rfl ?_
      refine gf_getR flX11_89 rfl dX11_plan_11 (gt_0 hG) (gp_0_11 hG) ?_
      refine gf_getI flX11_311 rfl dX11_plan_14 (gt_243 hG) ?_
      refine gf_icmp_gt 67 dX11_plan_17 rfl (fun zc17 => ?_) (fun zc17 => ?_)
      · refine gf_iconst (-1) dX11_plan_67 rfl ?_
        exact gf_iretE dX11_plan_68 rfl (rfl) (rfl)
      · refine gf_aload_n 0 dX11_plan_20 rfl rfl ?_
        refine gf_getR flX11_19 rfl dX11_plan_21 (gt_0 hG) (gp_0_1 hG) ?_
        refine gf_getI flX11_109 rfl dX11_plan_24 (gt_145 hG) ?_
        refine gf_iload_n 1 dX11_plan_27 rfl rfl ?_
        refine gf_iadd dX11_plan_28 ?_
        refine gf_bipush (12) dX11_plan_29 rfl ?_
        refine gf_icmp_gt 67 dX11_plan_31 rfl (fun zc31 => ?_) (fun zc31 => ?_)
        · refine gf_iconst (-1) dX11_plan_67 rfl ?_
          exact gf_iretE dX11_plan_68 rfl (rfl) (rfl)
        · refine gf_iload_n 2 dX11_plan_34 rfl rfl ?_
          refine gf_iload_n 3 dX11_plan_35 rfl rfl ?_
          refine gf_iload dX11_plan_36 rfl ?_
          refine gf_callS cmX11_mayServe lkX11_150 stX11_mayServe dX11_plan_38 (d1 := d - 1) (by omega) (e_X11_mayServe E (by omega) o go po h) rfl rfl (Nat.le_of_ble_eq_true rfl) ?_
          refine gf_if_eq 67 dX11_plan_41 rfl (fun zc41 => ?_) (fun zc41 => ?_)
          · refine gf_iconst (-1) dX11_plan_67 rfl ?_
            exact gf_iretE dX11_plan_68 rfl (rfl) (rfl)
          · refine gf_aload_n 0 dX11_plan_44 rfl rfl ?_
            refine gf_getR flX11_10 rfl dX11_plan_45 (gt_0 hG) (gp_0_0 hG) ?_
            refine gf_iload dX11_plan_48 rfl ?_
            refine gf_callV cmX1_hasHouse lkX11_178 imX1_hasHouse seX1_hasHouse ⟨rfl, by decide⟩ dX11_plan_50 (d1 := d - 1) (by omega) (gt_1 hG) (e_X1_hasHouse E (by omega) c h hG C) rfl rfl (Nat.le_of_ble_eq_true rfl) ?_
            refine gf_if_eq 67 dX11_plan_53 rfl (fun zc53 => ?_) (fun zc53 => ?_)
            · refine gf_iconst (-1) dX11_plan_67 rfl ?_
              exact gf_iretE dX11_plan_68 rfl (rfl) (rfl)
            · refine gf_iload dX11_plan_56 rfl ?_
              refine gf_iconst (1) dX11_plan_58 rfl ?_
              refine gf_bipush (60) dX11_plan_59 rfl ?_
              refine gf_callS cmX11_within lkX11_105 stX11_within dX11_plan_61 (d1 := d - 1) (by omega) (e_X11_within E (by omega) mi 1 60 h) rfl rfl (Nat.le_of_ble_eq_true rfl) ?_
              refine gf_if_ne 69 dX11_plan_64 rfl (fun zc64 => ?_) (fun zc64 => ?_)
              · exact absurd ⟨⟨zb_1.mp zc6, by have q := zc17; rw [fa_lt] at q; rw [fa_le]; omega⟩, by have q := zc31; rw [fa_lt] at q; rw [fa_le]; omega, zb_1.mp zc41, zb_1.mp zc53, zb_1.mp zc64⟩ hP
              · refine gf_iconst (-1) dX11_plan_67 rfl ?_
                exact gf_iretE dX11_plan_68 rfl (rfl) (rfl)
abbrev isPc (h : hp_T) (p : Nat) (c : Int32) : Prop := (0 ≤ c ∧ c < hp_i h 1 2) ∧ ¬ anyb (fun k => decide (hp_i h 244 k = c)) p = true ∧ p < 8
theorem e_X11_place (E : gE) {d : Nat} (hd : 2 ≤ d) (c : Int32) {w g p : Nat} (h : hp_T) (hG : gr h) (L : plI (hp_i h) w g p) : ev E mX11_place d [.ref (E.1 + 0), .int c] h (some (.int (if isPc h p c then nI (p + 1) else -1))) (if isPc h p c then hp_setI (hp_setI h 244 p c) 243 0 (nI (p + 1)) else h) := by
  refine ev_of rfl (fun q => absurd q (by decide)) (Nat.le_of_ble_eq_true rfl) ?_
  have hp8 := L.2.1
  by_cases hP : isPc h p c
  · rw [if_pos hP, if_pos hP]
    obtain ⟨p1, p2, p3⟩ := hP
    refine gf_aload_n 0 dX11_place_0 rfl rfl ?_
    refine gf_getR flX11_10 rfl dX11_place_1 (gt_0 hG) (gp_0_0 hG) ?_
    refine gf_iload_n 1 dX11_place_4 rfl rfl ?_
    refine gf_callV cmX1_has lkX11_120 imX1_has seX1_has ⟨rfl, by decide⟩ dX11_place_5 (d1 := d - 1) (by omega) (gt_1 hG) (e_X1_has E (by omega) c h hG) rfl rfl (Nat.le_of_ble_eq_true rfl) ?_
    refine gf_if_eq 34 dX11_place_8 rfl (fun q => absurd q (fun q => zb_0.mp q p1)) (fun _ => ?_)
    refine gf_aload_n 0 dX11_place_11 rfl rfl ?_
    refine gf_getR flX11_89 rfl dX11_place_12 (gt_0 hG) (gp_0_11 hG) ?_
    refine gf_iload_n 1 dX11_place_15 rfl rfl ?_
    refine gf_callV cmX8_isTold lkX11_308 imX8_isTold seX8_isTold ⟨rfl, by decide⟩ dX11_place_16 (d1 := d - 1) (by omega) (gt_243 hG) (e_X8_isTold E (by omega) c h hG L.1 hp8) rfl rfl (Nat.le_of_ble_eq_true rfl) ?_
    refine gf_if_ne 34 dX11_place_19 rfl (fun q => absurd (zb_f p2) q) (fun _ => ?_)
    refine gf_aload_n 0 dX11_place_22 rfl rfl ?_
    refine gf_getR flX11_89 rfl dX11_place_23 (gt_0 hG) (gp_0_11 hG) ?_
    refine gf_getI flX11_311 rfl dX11_place_26 (gt_243 hG) ?_
    refine gf_bipush (8) dX11_place_29 rfl ?_
    refine gf_icmp_lt 36 dX11_place_31 rfl (fun _ => ?_) (fun q => absurd (by rw [L.1]; exact nI_lt (b := 8) p3 (by omega)) q)
    refine gf_aload_n 0 dX11_place_36 rfl rfl ?_
    refine gf_getR flX11_89 rfl dX11_place_37 (gt_0 hG) (gp_0_11 hG) ?_
    refine gf_getR flX11_314 rfl dX11_place_40 (gt_243 hG) (gp_243_2 hG) ?_
    refine gf_aload_n 0 dX11_place_43 rfl rfl ?_
    refine gf_getR flX11_89 rfl dX11_place_44 (gt_0 hG) (gp_0_11 hG) ?_
    refine gf_getI flX11_311 rfl dX11_place_47 (gt_243 hG) ?_
    refine gf_iload_n 1 dX11_place_50 rfl rfl ?_
    refine gf_iast 8 dX11_place_51 (gt_244 hG) (gl_244 hG) L.1 p3 (by decide) ?_
    refine gf_aload_n 0 dX11_place_52 rfl rfl ?_
    refine gf_getR flX11_89 rfl dX11_place_53 (gt_0 hG) (gp_0_11 hG) ?_
    refine gf_dup dX11_place_56 rfl ?_
    refine gf_getI flX11_311 rfl dX11_place_57 (gt_243 hG) ?_
    rw [show hp_i (hp_setI h 244 p c) 243 0 = nI p from L.1]
    refine gf_iconst (1) dX11_place_60 rfl ?_
    refine gf_iadd dX11_place_61 ?_
    refine gf_putI flX11_311 rfl rfl dX11_place_62 (gt_243 hG) ⟨rfl, rfl⟩ ?_
    rw [nI_1]
    refine gf_aload_n 0 dX11_place_65 rfl rfl ?_
    refine gf_getR flX11_89 rfl dX11_place_66 (gt_0 hG) (gp_0_11 hG) ?_
    refine gf_getI flX11_311 rfl dX11_place_69 (gt_243 hG) ?_
    rw [hset_s]
    exact gf_iretE dX11_place_72 rfl (rfl) (rfl)
  · rw [if_neg hP, if_neg hP]
    refine gf_aload_n 0 dX11_place_0 rfl rfl ?_
    refine gf_getR flX11_10 rfl dX11_place_1 (gt_0 hG) (gp_0_0 hG) ?_
    refine gf_iload_n 1 dX11_place_4 rfl rfl ?_
    refine gf_callV cmX1_has lkX11_120 imX1_has seX1_has ⟨rfl, by decide⟩ dX11_place_5 (d1 := d - 1) (by omega) (gt_1 hG) (e_X1_has E (by omega) c h hG) rfl rfl (Nat.le_of_ble_eq_true rfl) ?_
    refine gf_if_eq 34 dX11_place_8 rfl (fun zc8 => ?_) (fun zc8 => ?_)
    · refine gf_iconst (-1) dX11_place_34 rfl ?_
      exact gf_iretE dX11_place_35 rfl (rfl) (rfl)
    · refine gf_aload_n 0 dX11_place_11 rfl rfl ?_
      refine gf_getR flX11_89 rfl dX11_place_12 (gt_0 hG) (gp_0_11 hG) ?_
      refine gf_iload_n 1 dX11_place_15 rfl rfl ?_
      refine gf_callV cmX8_isTold lkX11_308 imX8_isTold seX8_isTold ⟨rfl, by decide⟩ dX11_place_16 (d1 := d - 1) (by omega) (gt_243 hG) (e_X8_isTold E (by omega) c h hG L.1 hp8) rfl rfl (Nat.le_of_ble_eq_true rfl) ?_
      refine gf_if_ne 34 dX11_place_19 rfl (fun zc19 => ?_) (fun zc19 => ?_)
      · refine gf_iconst (-1) dX11_place_34 rfl ?_
        exact gf_iretE dX11_place_35 rfl (rfl) (rfl)
      · refine gf_aload_n 0 dX11_place_22 rfl rfl ?_
        refine gf_getR flX11_89 rfl dX11_place_23 (gt_0 hG) (gp_0_11 hG) ?_
        refine gf_getI flX11_311 rfl dX11_place_26 (gt_243 hG) ?_
        refine gf_bipush (8) dX11_place_29 rfl ?_
        refine gf_icmp_lt 36 dX11_place_31 rfl (fun zc31 => ?_) (fun zc31 => ?_)
        · exact absurd ⟨zb_1.mp zc8, zb_0.mp zc19, by have q := zc31; rw [L.1] at q; exact (nI_ltI (b := 8) (by omega) (by omega)).mp q⟩ hP
        · refine gf_iconst (-1) dX11_place_34 rfl ?_
          exact gf_iretE dX11_place_35 rfl (rfl) (rfl)
