theorem pn_st {k : Nat} (h1 : 1 ≤ k) (h3 : k ≤ 3) : ∃ t : tr3, (k = 1 → t = (0, 0, 0)) ∧ (k = 2 → t = (0, 1, 1)) ∧ (k = 3 → t = (0, 1, 2)) ∧ ∀ i, i < k → tri t i = i := by
  rcases (show k = 1 ∨ k = 2 ∨ k = 3 by omega) with e | e | e
  · subst e
    exact ⟨(0, 0, 0), fun _ => rfl, fun h => absurd h (by decide), fun h => absurd h (by decide), by decide⟩
  · subst e
    exact ⟨(0, 1, 1), fun h => absurd h (by decide), fun _ => rfl, fun h => absurd h (by decide), by decide⟩
  · subst e
    exact ⟨(0, 1, 2), fun h => absurd h (by decide), fun h => absurd h (by decide), fun _ => rfl, by decide⟩
theorem mpn_e {n s w g m p k c T : Nat} {o go po : Int32} {M : mM} {N : mN} {W : tW} {t : tr3} (h1 : 1 ≤ k) (h3 : k ≤ 3) (hkp : k ≤ p) (hp8 : p ≤ 8) (ht : (k = 1 → t = (0, 0, 0)) ∧ (k = 2 → t = (0, 1, 1)) ∧ (k = 3 → t = (0, 1, 2))) : mpnZ n s w g m p k c T o go po M N W = fo9 (pnS n s w g m k c T o go po) (run3 p k 56 t) ((mpn0 M m k, N, W), -1) := by
  unfold mpnZ
  rcases (show k = 1 ∨ k = 2 ∨ k = 3 by omega) with e | e | e
  · subst e
    rw [ht.1 rfl, run_1 p hp8 hkp, if_pos rfl]
    exact plx1_e
  · subst e
    rw [ht.2.1 rfl, run_2 p hp8 hkp, if_neg (show ¬ 2 = 1 by decide), if_pos rfl]
    exact plx2_e
  · subst e
    rw [ht.2.2 rfl, run_3 p hp8 hkp, if_neg (show ¬ 3 = 1 by decide), if_neg (show ¬ 3 = 2 by decide)]
    exact plx3_e
theorem cal_plan (E : gE) {H : hp_T} (R : rel9 H) (t o go po c mi : Int32) : cal9 E mX11_plan mX12_plan [.int t, .int o, .int go, .int po, .int c, .int mi] H := by
  obtain ⟨M, N, w, g, m, n, p, L, G, I, P⟩ := R
  have hC := P.1.1
  have hcy := cty_n hC.1
  have e12 : hp_i H 1 2 = nI (w * g) := hC.1.2.2.2.1
  obtain ⟨r6, r7⟩ := P.2.2.1
  obtain ⟨s, hs, es, eh⟩ := rA_s (h := H) r6
  have E9 := P.2.1.1
  have m12 := E9.2.2.1
  obtain ⟨⟨p1, p2, p3, p4⟩, -⟩ := P.2.1.2
  have hRI := runI_rA hC P.1.2.1 E9 r6 r7 hs es
  have k1 := e_X11_plan E (d := 100) (by decide) t o go po c mi H G (actK_rA hC r6 r7 hs eh) hC.1 (brnI_rA hC P.1.2.1 E9) ⟨p1, p3, fun i hi => by rw [(p4 i hi).1]; exact (p4 i hi).2⟩
  have hiff : isPl H t o go po c mi ↔ mpnC M w g m p t o go po c mi := by
    have e34 : hp_i H 2 = M 34 := hC.2.2.1
    unfold isPl isH mpnC
    rw [p1, E9.1, e12, e34]
    refine ⟨fun z => ⟨z.1.1, fun q => ?_, z.2.2.1.1, z.2.2.1.2.1, z.2.2.1.2.2, z.2.2.2.1, z.2.2.2.2, z.2.1⟩, fun z => ⟨⟨z.1, ?_⟩, z.2.2.2.2.2.2.2, ⟨z.2.2.1, z.2.2.2.1, z.2.2.2.2.1⟩, z.2.2.2.2.2.1, z.2.2.2.2.2.2.1⟩⟩
    · have := z.1.2
      rw [fa_le] at this
      rw [fa_lt] at q
      omega
    · have := z.2.1
      rw [fa_lt] at this
      rw [fa_le]
      omega
  by_cases q : isPl H t o go po c mi
  · have q9 := hiff.mp q
    rw [if_pos q, if_pos q] at k1
    obtain ⟨k, hk3, ek, hk1⟩ := isM_n (t := t) (k := 3) (by decide) q9.1
    obtain ⟨a1, a2, a3⟩ := int_n (b := 8) (K := 8) rfl (by decide) q9.2.2.1
    obtain ⟨b1, b2, b3, b4⟩ := isM_n (t := go) (k := 9) (by decide) q9.2.2.2.1
    obtain ⟨c1, c2, c3, c4⟩ := isM_n (t := po) (k := 9) (by decide) q9.2.2.2.2.1
    obtain ⟨c0, hc, ec⟩ := cell_n hcy.2 q9.2.2.2.2.2.1.1
    obtain ⟨T, hT, eT, hT1⟩ := isM_n (t := mi) (k := 60) (by decide) q9.2.2.2.2.2.2.1
    have hkp : k ≤ p := by
      have := q9.2.1
      rw [ek, fa_lt, nI_toInt (by omega), nI_toInt (by omega)] at this
      omega
    have hmk : m + k ≤ 12 := by
      have := q9.2.2.2.2.2.2.2
      rw [ek, nI_add, fa_le, nI_toInt (by omega), show (12 : Int32).toInt = 12 from by decide] at this
      omega
    have h34 : ¬ M 34 c0 = 0 := by
      have := q9.2.2.2.2.2.1.2
      rw [ec, nI_clamp (by omega)] at this
      exact this
    subst ek
    subst ec
    subst eT
    rw [nI_clamp (show k < 2147483648 by omega), nI_clamp (show c0 < 2147483648 by omega), nI_clamp (show T < 2147483648 by omega)] at k1
    obtain ⟨t0, t1, t2, t3, t4⟩ := pn_st hk1 hk3
    have hrun := fun W : tW => pn_run P hs hk1 hk3 hkp hmk ⟨a1, a2, a3⟩ ⟨b1, b4, b2, b3⟩ ⟨c1, c4, c2, c3⟩ hc h34 (show T ≤ 120 by omega) 55 (sk0 k (pA0 H) (pQ0 H o go po) (fun o => hp_i H (193 + o))) ((mpn0 M m k, N, W), -1) t0 ⟨rfl, ⟨E9.1, fun e he => (E9.2.2.2 e he).1⟩, ⟨p1, rfl, rfl, rfl, fun i hi => (p4 i hi).1⟩, fun r h0 _ _ _ => up2_row h0, fun r h0 _ e _ => congrFun (up2_row (show r ≠ 0 by omega)) e, fun j _ hj => up2_k _ _ hj, up2_s M 0 54 (nI (m + k))⟩ (Or.inl rfl) (show ¬ (1 : Int32) = 0 from by decide) (fun i hi => ⟨by rw [t4 i hi]; exact (ch0_ok (pQ0 H o go po 3) p k k).1 i hi, by rw [t4 i hi]; omega⟩)
    have ez : planS H w g m p s k o go po c0 T = itN (skB (hk H (lrn H w g s)) w g m p k c0 T) (sk0 k (pA0 H) (pQ0 H o go po) (fun o => hp_i H (193 + o))) (55 + 1) := rfl
    unfold planH at k1
    rw [← ez] at hrun
    generalize planS H w g m p s k o go po c0 T = z at hrun k1
    obtain ⟨W, hW⟩ := sP_any (hpl (hk H (lrn H w g s)) z.1.1 z.1.2.1 z.1.2.2) M N
    obtain ⟨i0, i5⟩ := hrun W
    have hP : M 0 60 = nI p ∧ p ≤ 8 ∧ ∀ i, i < p → ∃ a, a < w * g ∧ M 46 i = nI a := ⟨p2, p3, fun i hi => (p4 i hi).2⟩
    have k2 := e_X12_plan E (d := 100) (by decide) (nI k) o go po (nI c0) (nI T) (hpl (hk H (lrn H w g s)) z.1.1 z.1.2.1 z.1.2.2) (gr_hpl (gr_k _ G)) M N hRI W hP
    rw [if_pos q9, if_pos q9, ← hW, nI_clamp (show k < 2147483648 by omega), nI_clamp (show c0 < 2147483648 by omega), nI_clamp (show T < 2147483648 by omega), mpn_e hk1 hk3 hkp p3 ⟨t1, t2, t3⟩] at k2
    generalize fo9 (pnS n s w g m k c0 T o go po) (run3 p k 56 t0) ((mpn0 M m k, N, W), -1) = y at k2 i0 i5
    obtain ⟨j1, ⟨j2, j3⟩, ⟨j4, -, -, -, j8⟩, j9, j10, j11, j12⟩ := i0
    rw [← j1] at k2
    have hE : ∀ r, r ≠ 0 → mpnE m k y r = y.1.1 r := fun r h => (up2_row h).trans (up2_row h)
    refine cal_1 k1 (isM_fr (fun x h1 h2 => hpk_row (by omega)) (fun _ _ _ => rfl) I) k2 (gr_hpl (gr_k _ G)) (Pc_70 (Pc_pln P hk3 j2 j3 j4 j8 (fun r h0 h1 h2 h3 => (hE r h0).trans (j9 r h0 h1 h2 h3)) (fun r h0 h1 e he => (congrFun (hE r (by omega)) e).trans (j10 r h0 h1 e he)) (fun j h0 h1 h2 => ?_) ?_ (up2_s _ _ _ _) i5.1 (fun i hi => (i5.2 i hi).trans (congrFun (hE 85 (by decide)) i).symm))) (Nat.le_add_right _ _) (Nat.le_add_right _ _)
    · exact (up2_k _ _ h2).trans ((up2_k _ _ h1).trans (j11 j h0 h1))
    · exact (up2_k _ _ (show 54 ≠ 112 by decide)).trans (up2_s _ _ _ _)
  · have q9 : ¬ mpnC M w g m p t o go po c mi := fun z => q (hiff.mpr z)
    rw [if_neg q, if_neg q] at k1
    obtain ⟨W, hW⟩ := sP_any H M N
    have k2 := e_X12_plan E (d := 100) (by decide) t o go po c mi H G M N hRI W ⟨p2, p3, fun i hi => (p4 i hi).2⟩
    rw [if_neg q9, if_neg q9, ← hW, isM_hm I] at k2
    exact cal_0 ⟨M, N, w, g, m, n, p, L, G, I, P⟩ k1 k2
