/-! ===== the parsers agree: a statement of a sum or a test, BESIDE ===== -/
theorem kp_old {M M4 : mM} {Z Y : rZ} {l l2 j i : Nat} (hi : i < j) (hl : l ≤ l2) (e26 : M4 26 i = M 26 i) (e27 : M4 27 i = M 27 i) (e28 : M4 28 i = M 28 i) (y2 : Y 2 i = Z 2 i) (y3 : ∀ k, k < j → Y 3 k = Z 3 k) (yj : Y 3 j = nI l) (y1 : ∀ k, k < l → Y 1 k = Z 1 k) (K : kpI M Z l j i) : kpI M4 Y l2 (j + 1) i := by
  rcases K with ⟨e, x, he, k1, k2, k3, k4, k5, k6, k7⟩ | ⟨t, x, m, ht, k1, k2, k3, k4, k5, k6, k7, k8, k9⟩
  · refine Or.inl ⟨e, x, he, e26.trans k1, e28.trans k2, y2.trans k3, by omega, (y3 i hi).trans k5, fun h => ?_, fun h => absurd h (by omega)⟩
    by_cases q : i + 1 = j
    · rw [q, yj, k7 q]
    · rw [y3 (i + 1) (by omega)]
      exact k6 (by omega)
  · refine Or.inr ⟨t, x, m, ht, e26.trans k1, y2.trans k2, by omega, (y3 i hi).trans k4, fun h => ?_, fun h => absurd h (by omega), e27.trans k7, e28.trans k8, fun y hy => k9 y (fun k hk => ?_)⟩
    · by_cases q : i + 1 = j
      · rw [q, yj, k6 q]
      · rw [y3 (i + 1) (by omega)]
        exact k5 (by omega)
    · have h := hy k hk
      rw [y1 (x + k) (by omega)] at h
      exact h
theorem st_row {M M2 : mM} {tx : Nat → Nat} {L j t d l : Nat} {Z : rZ} {q2 Rq : pS} {r : rZ → Bool × rZ} {nx : Int32 → Prop} {wh : Int32} (e2 : M2 = up2 (up2 M 27 j (nI l)) 26 j (nI t)) (T : txM M2 tx L) (ht : t ≤ 4) (hj : j < 24) (h3 : Z 0 3 = nI j) (h4 : Z 0 4 = nI l) (hp : Z 0 2 = -1) (K : ∀ i, i < j → kpI M Z l j i) (I : prI M2 tx L (staB Z (nI (14 + t))) q2 0) (D : cdI tx L (staB Z (nI (14 + t))) q2 []) (el : q2.2.2.2.2.1 = l) (hB : gB Rq) (E : endP M2 tx L (staB Z (nI (14 + t))) q2 0 nx Rq (r (staB Z (nI (14 + t))))) (Ty : tyP r d (decide (t < 3))) (hd : d ≤ 64) : stO9 (stC M2 L j wh Rq).1 tx L j Z (rbd (r (staB Z (nI (14 + t)))) (fun Y => rpas Y 59)).2 (stC M2 L j wh Rq).2 := by
  have h26 : M2 26 j = nI t := by rw [e2, up2_s]
  have h5 : ¬ M2 26 j = 5 := by
    rw [h26, show (5 : Int32) = nI 5 from rfl]
    exact nI_ne (by omega) (by omega) (by omega)
  rw [stC_n h5]
  dsimp only
  obtain ⟨f, hE⟩ := E
  have z4 : staB Z (nI (14 + t)) 4 = Z 4 := sB_r (by decide) (by decide) (by decide)
  rcases hE with ⟨ok, I9, D9, -, -, -, -⟩ | ⟨no, st⟩
  · rw [rbd_t ok]
    have hL := T.1
    have C := I.1
    have c0 := cnt_le (tx := tx) (L := L) L
    have TI : tyI (staB Z (nI (14 + t))) (cnt tx L q2.1) (cnt tx L L) l := by
      refine ⟨C.2.1, C.1.2.2.1, ?_, by omega, (sB_0 (by decide) (by decide)).trans h4, ?_⟩
      · have hm := cnt_mono (tx := tx) (L := L) (i := q2.1) (L - q2.1)
        have := C.2.2.1
        rw [show q2.1 + (L - q2.1) = L by omega] at hm
        exact hm
      · have := D.2.1
        rw [el] at this
        exact this
    obtain ⟨a', m, J, hl, hm, hp2, h1, hy⟩ := Ty _ _ _ _ TI ok
    obtain ⟨j1, j2, j3, j4, j5, j6⟩ := J
    generalize (r (staB Z (nI (14 + t)))).2 = Y at f I9 D9 hp2 h1 hy j1 j2 j5 ⊢
    obtain ⟨d1, d2, d3, -⟩ := D9
    have d1' : Y 0 4 = nI Rq.2.2.2.2.1 := d1
    have d2' : Rq.2.2.2.2.1 + 0 ≤ cnt tx L Rq.1 := d2
    have c6 := cnt_600 T I9.1
    have eR : Rq.2.2.2.2.1 = l + m := nI_inj (by omega) (by omega) (d1'.symm.trans j5)
    have f2 := f.1 2 (by decide) (by decide)
    have f3 := f.1 3 (by decide) (by decide)
    refine st_59 (txM_u (by decide) T) I9 ⟨d1, d2, d3, fun j hj => absurd hj (Nat.not_lt_zero j)⟩ ((f.1 4 (by decide) (by decide)).trans z4) ((f.2 3 (by decide) (by decide) (by decide) (by decide)).trans (sB_3 h3)) hj (hp2.trans ((sB_0 (by decide) (by decide)).trans hp)) hB (up2_s _ _ _ _) (fun i hi => ?_)
    have m26 : ∀ i, up2 (up2 M2 28 j (nI Rq.2.2.2.2.1)) 25 0 (nI (j + 1)) 26 i = M2 26 i := fun i => by rw [up2_row (by decide), up2_row (by decide)]
    have m27 : ∀ i, up2 (up2 M2 28 j (nI Rq.2.2.2.2.1)) 25 0 (nI (j + 1)) 27 i = M2 27 i := fun i => by rw [up2_row (by decide), up2_row (by decide)]
    have m28 : ∀ i, up2 (up2 M2 28 j (nI Rq.2.2.2.2.1)) 25 0 (nI (j + 1)) 28 i = up2 M2 28 j (nI Rq.2.2.2.2.1) 28 i := fun i => by rw [up2_row (by decide)]
    by_cases q : i = j
    · subst q
      refine Or.inr ⟨t, l, m, ht, (m26 i).trans h26, ?_, by omega, ?_, fun h => absurd h (by omega), fun _ => eR, (m27 i).trans ?_, ?_, fun y hh => ?_⟩
      · rw [f2, sB_2 hj h3, if_pos rfl]
      · rw [f3, sB_f hj h3, if_pos rfl]
        exact h4
      · rw [e2, up2_row (by decide), up2_s]
      · rw [m28, up2_s, eR]
      · exact hy y hh _ (by show 0 + d ≤ 64; omega)
    · refine kp_old (M := M) (Z := Z) (l := l) (show i < j by omega) (by omega) ?_ ?_ ?_ ?_ (fun k hk => ?_) ?_ (fun k hk => ?_) (K i (by omega))
      · rw [m26, e2, up2_k _ _ q, up2_row (by decide)]
      · rw [m27, e2, up2_row (by decide), up2_k _ _ q]
      · rw [m28, up2_k _ _ q, e2, up2_row (by decide), up2_row (by decide)]
      · rw [f2, sB_2 hj h3, if_neg q]
      · rw [f3, sB_f hj h3, if_neg (by omega)]
      · rw [f3, sB_f hj h3, if_pos rfl]
        exact h4
      · rw [h1 k hk, sB_r (by decide) (by decide) (by decide)]
  · rw [rbd_f no, ag_x st.1]
    exact ⟨(f.1 4 (by decide) (by decide)).trans z4, Or.inr st⟩
/-- BESIDE and its word -/
theorem st_bes {M M2 : mM} {tx : Nat → Nat} {L j e l : Nat} {Z : rZ} {q2 q3 : pS} (e2 : M2 = up2 (up2 M 27 j (nI l)) 26 j 5) (T : txM M2 tx L) (he : e ≤ 2) (hj : j < 24) (h3 : Z 0 3 = nI j) (h4 : Z 0 4 = nI l) (hp : Z 0 2 = -1) (K : ∀ i, i < j → kpI M Z l j i) (I : prI M2 tx L (staB Z (nI (20 + e))) q2 0) (D : cdI tx L (staB Z (nI (20 + e))) q2 []) (el : q2.2.2.2.2.1 = l) (hB : gB q2) (C3 : cur9 M2 tx L (rnxt (staB Z (nI (20 + e)))) q3) (e3 : q3.2.2 = q2.2.2) : stO9 (stC M2 L j (nI e) q3).1 tx L j Z (rpas (rnxt (staB Z (nI (20 + e)))) 59).2 (stC M2 L j (nI e) q3).2 := by
  have h26 : M2 26 j = 5 := by rw [e2, up2_s]
  rw [stC_5 h26]
  dsimp only
  obtain ⟨I3, D3, -, -⟩ := adv_pr T I D C3 e3
  have n2 : ∀ r, r ≠ 0 → rnxt (staB Z (nI (20 + e))) r = staB Z (nI (20 + e)) r := fun r h => up2_row h
  have n0 : ∀ k, k ≠ 13 → rnxt (staB Z (nI (20 + e))) 0 k = staB Z (nI (20 + e)) 0 k := fun k h => up2_k _ _ h
  have el3 : q3.2.2.2.2.1 = l := by rw [e3]; exact el
  refine st_59 (txM_u (by decide) T) I3 D3 ((n2 4 (by decide)).trans (sB_r (by decide) (by decide) (by decide))) ((n0 3 (by decide)).trans (sB_3 h3)) hj ((n0 2 (by decide)).trans ((sB_0 (by decide) (by decide)).trans hp)) (by unfold gB; rw [e3]; exact hB) (up2_s _ _ _ _) (fun i hi => ?_)
  rw [el3]
  by_cases q : i = j
  · subst q
    refine Or.inl ⟨e, l, he, ?_, ?_, ?_, Nat.le_refl _, ?_, fun h => absurd h (by omega), fun _ => rfl⟩
    · rw [up2_row (by decide), up2_row (by decide)]
      exact h26
    · rw [up2_row (by decide), up2_s]
    · rw [n2 2 (by decide), sB_2 hj h3, if_pos rfl]
    · rw [n2 3 (by decide), sB_f hj h3, if_pos rfl]
      exact h4
  · refine kp_old (M := M) (Z := Z) (l := l) (show i < j by omega) (Nat.le_refl _) ?_ ?_ ?_ ?_ (fun k hk => ?_) ?_ (fun k hk => ?_) (K i (by omega))
    · rw [up2_row (by decide), up2_row (by decide), e2, up2_k _ _ q, up2_row (by decide)]
    · rw [up2_row (by decide), up2_row (by decide), e2, up2_row (by decide), up2_k _ _ q]
    · rw [up2_row (by decide), up2_k _ _ q, e2, up2_row (by decide), up2_row (by decide)]
    · rw [n2 2 (by decide), sB_2 hj h3, if_neg q]
    · rw [n2 3 (by decide), sB_f hj h3, if_neg (by omega)]
    · rw [n2 3 (by decide), sB_f hj h3, if_pos rfl]
      exact h4
    · rw [n2 1 (by decide), sB_r (by decide) (by decide) (by decide)]
