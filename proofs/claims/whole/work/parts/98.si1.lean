/-! ===== the calls: worst ===== -/
def woI (H : hp_T) (M : mM) (w g s : Nat) (z : woT) (y : (mM × mN × tW) × Int32 × Int32) : Prop := z.2.2.1 = y.2.1 ∧ z.2.2.2 = y.2.2 ∧ kJ z.2.1.2 (kn H s) ∧ z.2.1.2.1 5 = (lrn H w g s).1 5 ∧ (∀ r, r ≠ 0 → r < 53 ∨ 66 < r → y.1.1 r = M r) ∧ ∀ k, k < 70 ∨ 74 < k → y.1.1 0 k = M 0 k
theorem wo_1 {H : hp_T} {M : mM} {w g m n p L s T o c : Nat} {z : woT} {y : (mM × mN × tW) × Int32 × Int32} (P : Pc H M w g m n p L) (hs : s ≤ n) (hT : T ≤ 120) (ho : o < 9) (hc : c < w * g) (I : woI H M w g s z y) : woI H M w g s (woB H w g m (pn H s) T o z c) (worB n s w g m (nI o) (nI T) y c) := by
  obtain ⟨i1, i2, i3, i4, i5, i6⟩ := I
  have Q := Pc_M (M := M) (M1 := y.1.1) (fun r hr => i5 r (by omega) (by omega)) (fun k hk => i6 k (by omega)) P
  have e34 : hp_i H 2 = y.1.1 34 := Q.1.1.2.2.1
  by_cases q : y.1.1 34 c = 0
  · have e1 : woB H w g m (pn H s) T o z c = z := if_pos (show hp_i H 2 c = 0 by rw [e34]; exact q)
    have e2 : worB n s w g m (nI o) (nI T) y c = ((y.1.1, y.1.2), y.2.1, y.2.2) := if_pos q
    rw [e1, e2]
    exact ⟨i1, i2, i3, i4, i5, i6⟩
  · have hrc := rc9 (N := y.1.2.1) (W := y.1.2.2) (f := 193) (b := 205) (X0 := z.1) (Y0 := z.2.1.1.1) (R0 := z.2.1.1.2) (S := z.2.1.2) (T := T) Q.1.1 Q.1.2.2 Q.1.2.1 Q.2.1.1 Q.2.2.1.1 hs Q.2.2.1.2 i3 (fun c _ => by rw [i4]) hc q hT ⟨by decide, by decide⟩ (by decide) (X := woX H w g m T z c) rfl (Z := woZ H w g m (pn H s) T z c) rfl rfl rfl
    obtain ⟨c1, c2⟩ := cf_row (n := n) (s := s) (w := w) (g := g) (m := m) (c := c) (T := T) (M := y.1.1) (N := y.1.2.1) (W := y.1.2.2)
    obtain ⟨-, -, h4, hJ, -⟩ := hrc
    have h5 := (woZ_row H w g m (pn H s) T z c (r := 5) (by decide) (by decide) (by decide)).trans i4
    have ho4 := h4 o ho
    have e1 : woB H w g m (pn H s) T o z c = if z.2.2.1 < (woZ H w g m (pn H s) T z c).1.1 4 o then (woX H w g m T z c, woZ H w g m (pn H s) T z c, (woZ H w g m (pn H s) T z c).1.1 4 o, nI c) else (woX H w g m T z c, woZ H w g m (pn H s) T z c, z.2.2.1, z.2.2.2) := if_neg (show ¬ hp_i H 2 c = 0 by rw [e34]; exact q)
    have e2 : worB n s w g m (nI o) (nI T) y c = _ := if_neg q
    rw [nI_clamp (show T < 2147483648 by omega)] at e2
    unfold frF at e2
    try dsimp only at e2
    try dsimp only at hJ
    try dsimp only at c1
    try dsimp only at c2
    try dsimp only at ho4
    rw [e1, e2, ho4, i1]
    generalize (clF n s w g (goF n s w g m c T (y.1.1, y.1.2.2), (goZ n s w g (y.1.1, y.1.2.2)).2) y.1.2.1).1 = Mc at c1 c2 ⊢
    have hM1 : ∀ r, r ≠ 0 → r < 53 ∨ 66 < r → Mc r = M r := fun r h0 hr => (c1 r h0 hr).trans (i5 r h0 hr)
    have hM2 : ∀ k, k < 70 ∨ 74 < k → Mc 0 k = M 0 k := fun k hk => (c2 k hk).trans (i6 k hk)
    clear ho4 h4 e1 e2
    generalize woZ H w g m (pn H s) T z c = Z at hJ h5 ⊢
    generalize woX H w g m T z c = X
    by_cases q2 : y.2.1 < mseS Mc (nI o) n
    · rw [if_pos q2, if_pos q2]
      exact ⟨rfl, rfl, hJ, h5, hM1, hM2⟩
    · rw [if_neg q2, if_neg q2]
      exact ⟨rfl, i2, hJ, h5, hM1, hM2⟩
theorem wo_e {H : hp_T} {M : mM} {N : mN} {W : tW} {w g m n p L s T o : Nat} (P : Pc H M w g m n p L) (hs : s ≤ n) (hT : T ≤ 120) (ho : o < 9) : ∀ k, k ≤ w * g → woI H M w g s (itN (woB H w g m (pn H s) T o) (wo0 H w g s) k) (itN (worB n s w g m (nI o) (nI T)) ((M, N, W), 0, -1) k) := by
  intro k
  induction k with
  | zero => exact fun _ => ⟨rfl, rfl, (lrn_J P.1.1 P.1.2.1 P.2.2.1.1 hs P.2.2.1.2 (w * g) (Nat.le_refl _)).1, rfl, fun _ _ _ => rfl, fun _ _ => rfl⟩
  | succ k ih =>
    intro hk
    rw [itN_s, itN_s]
    exact wo_1 P hs hT ho (by omega) (ih (by omega))
theorem Pc_hq {H : hp_T} {M : mM} {w g m n p L : Nat} {X Y : mM} {R : Nat → Int64} {S : kS} (P : Pc H M w g m n p L) : Pc (hq H 193 X 205 Y R S) M w g m n p L := Pc_H (H := H) (fun x hx => hq_row (by omega) (by omega) (by omega)) ⟨by rw [hq_row (by decide) (by decide) (by decide)], by rw [hq_row (by decide) (by decide) (by decide)]⟩ (fun _ _ => rfl) (fun a ha => ⟨hq_row (by omega) (by omega) (by omega), hk_hr _ S ha, rfl, rfl⟩) P
theorem cal_worst (E : gE) {H : hp_T} (R : rel9 H) (t u : Int32) : cal9 E mX11_worst mX12_worst [.int t, .int u] H := by
  obtain ⟨M, N, w, g, m, n, p, L, G, I, P⟩ := R
  have hC := P.1.1
  obtain ⟨r6, r7⟩ := P.2.2.1
  obtain ⟨s, hs, es, eh⟩ := rA_s (h := H) r6
  have E9 := P.2.1.1
  have k1 := e_X11_worst E (d := 100) (by decide) t u H G (actK_rA hC r6 r7 hs eh) hC.1 (brnI_rA hC P.1.2.1 E9)
  have hRI := runI_rA hC P.1.2.1 E9 r6 r7 hs es
  by_cases q : isO t ∧ isM u 60
  · rw [if_pos q, if_pos q] at k1
    obtain ⟨o, ho, eo⟩ := int_n (b := 8) (K := 8) rfl (by decide) q.1
    obtain ⟨T, hT, eT, hT1⟩ := isM_n (t := u) (k := 60) (by decide) q.2
    subst eo
    subst eT
    rw [nI_clamp (show o < 2147483648 by omega), nI_clamp (show T < 2147483648 by omega)] at k1
    unfold woH at k1
    have hw := fun W : tW => wo_e (N := N) (W := W) P hs (show T ≤ 120 by omega) (show o < 9 by omega) (w * g) (Nat.le_refl _)
    have ew : woS H w g m s T o = itN (woB H w g m (pn H s) T o) (wo0 H w g s) (w * g) := rfl
    rw [← ew] at hw
    generalize woS H w g m s T o = z at hw k1
    obtain ⟨W, hW⟩ := sP_any (hq H 193 z.1 205 z.2.1.1.1 z.2.1.1.2 z.2.1.2) M N
    have h9 := hw W
    have em : mwoS n s w g m (nI o) (nI T) M N W = itN (worB n s w g m (nI o) (nI T)) ((M, N, W), 0, -1) (w * g) := rfl
    rw [← em] at h9
    have k2 := e_X12_worst E (d := 100) (by decide) (nI o) (nI T) (hq H 193 z.1 205 z.2.1.1.1 z.2.1.1.2 z.2.1.2) (gr_k _ G) M N hRI W
    have q9 : mwoC (nI o) (nI T) := q
    rw [if_pos q9, if_pos q9, ← hW] at k2
    generalize mwoS n s w g m (nI o) (nI T) M N W = y at h9 k2
    obtain ⟨-, i2, -, -, i5, i6⟩ := h9
    rw [← i2] at k2
    exact cal_1 k1 (isM_fr (fun x h1 h2 => hq_row (by omega) (by omega) (by omega)) (fun x h1 h2 => if_neg (show ¬ x = 205 + 6 by omega)) I) k2 (gr_k _ G) (Pc_70 (Pc_M (M := M) (fun r hr => i5 r (by omega) (by omega)) (fun k hk => i6 k (by omega)) (Pc_hq P))) (Nat.le_add_right _ _) (Nat.le_add_right _ _)
  · rw [if_neg q, if_neg q] at k1
    obtain ⟨W, hW⟩ := sP_any H M N
    have k2 := e_X12_worst E (d := 100) (by decide) t u H G M N hRI W
    have q9 : ¬ mwoC t u := q
    rw [if_neg q9, if_neg q9, ← hW, isM_hm I] at k2
    exact cal_0 ⟨M, N, w, g, m, n, p, L, G, I, P⟩ k1 k2
