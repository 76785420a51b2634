/-! ===== the parsers agree: all statements ===== -/
theorem stI_nrm {M : mM} {tx : Nat → Nat} {L j : Nat} {Z : rZ} {q : pS} (T : txM M tx L) (S : stI9 M tx L j Z q) : stI9 M tx L j Z (skb M L q.1, q.2) := by
  obtain ⟨⟨C, h0, z1⟩, IJ, D, h3, h4, K⟩ := S
  have hle := skb_le (M := M) (L := L) (a := q.1)
  have k1 := (sk_pl T C.2.2).2.1
  obtain ⟨d1, d2, d3, d4⟩ := D
  refine ⟨⟨cur_sk T C rfl rfl, h0, z1⟩, ⟨hle.2 IJ.1, ?_⟩, ⟨d1, ?_, d3, d4⟩, h3, h4, K⟩
  · have := IJ.2
    show q.2.2.2.2.1 ≤ skb M L q.1 + 2
    omega
  · show q.2.2.2.2.1 + 0 ≤ cnt tx L (skb M L q.1)
    rw [k1]
    exact d2
/-- behind all statements -/
def rdO (tx : Nat → Nat) (L : Nat) (z : mM × pS) (Z Y : rZ) : Prop := Y 4 = Z 4 ∧ ((∃ j, stI9 z.1 tx L j Y z.2) ∨ stp9 z.2 Y)
theorem rs_stop {L k : Nat} {z : mM × pS} (h : ¬ z.2.2.2.1 = 0) : rsF L k z = z := by
  cases k with
  | zero => rfl
  | succ k => exact if_neg h
theorem stL_stop {S : rZ → Bool × rZ} {n : Nat} {Z : rZ} (h : ¬ Z 0 1 = 0) : stL S n Z = Z := by
  cases n with
  | zero => rfl
  | succ n => exact if_neg (fun z => h z.1)
theorem rs_at {tx : Nat → Nat} {L d0 d2 : Nat} {R0 R2 : rZ → Bool × rZ} (H0 : ∀ M', txM M' tx L → rV M' → orH M' tx L 0 R0) (H2 : ∀ M', txM M' tx L → rV M' → sumH M' tx L 0 R2) (Ty0 : tyP R0 d0 true) (Ty2 : tyP R2 d2 false) (hd0 : d0 ≤ 64) (hd2 : d2 ≤ 64) : ∀ (n j k : Nat) (M : mM) (q : pS) (Z : rZ), txM M tx L → rV M → stI9 M tx L j Z q → j + n = 25 → n < k → rdO tx L (rsF L k (M, q)) Z (stL (staS R0 R2) n Z) := by
  intro n
  induction n with
  | zero =>
    intro j k M q Z T R S hj hk
    exact absurd S.2.2.2.1.2.2 (by omega)
  | succ n ih =>
    intro j k M q Z T R S hj hk
    obtain ⟨k1, ek⟩ : ∃ k1, k = k1 + 1 := ⟨k - 1, by omega⟩
    subst ek
    obtain ⟨⟨C, h0, z1⟩, IJ, D, ⟨z3, m25, hj24⟩, h4, K⟩ := id S
    have e24 := tk_24 T C
    have N := stI_nrm T S
    by_cases h : rtok Z = 24
    · rw [show rsF L (k1 + 1) (M, q) = (M, (skb M L q.1, q.2)) from (if_pos h0).trans (if_pos (e24.mpr h)), show stL (staS R0 R2) (n + 1) Z = Z from if_neg (fun z => z.2 h)]
      exact ⟨rfl, Or.inl ⟨j, N⟩⟩
    · have en : (M 25 0).toNatClampNeg = j := by rw [m25, nI_clamp (by omega)]
      rw [show rsF L (k1 + 1) (M, q) = rsF L k1 (staS9 M L (M 25 0).toNatClampNeg (skb M L q.1, q.2)) from (if_pos h0).trans (if_neg (fun z => h (e24.mp z))), show stL (staS R0 R2) (n + 1) Z = stL (staS R0 R2) n (staS R0 R2 Z).2 from if_pos ⟨z1, h⟩, en]
      obtain ⟨o1, o2⟩ := st_at T R N H0 H2 Ty0 Ty2 hd0 hd2
      have hT := (sta_T (M := M) (L := L) (j := j) (q := (skb M L q.1, q.2)) T.1 m25 N.2.1 h0).1
      generalize staS9 M L j (skb M L q.1, q.2) = z at o2 hT ⊢
      generalize (staS R0 R2 Z).2 = Y at o1 o2 ⊢
      rcases o2 with S2 | st
      · have hr := ih (j + 1) k1 z.1 z.2 Y ⟨T.1, fun i hi => by rw [hT 1 (by decide)]; exact T.2 i hi⟩ (fun a ha i hi => by rw [hT (2 + a) (by omega)]; exact R a ha i hi) S2 (by omega) (by omega)
        exact ⟨hr.1.trans o1, hr.2⟩
      · rw [rs_stop st.1, stL_stop (by rw [st.2.1]; exact st.1)]
        exact ⟨o1, Or.inr st⟩
/-- the text, read by both -/
theorem rd_at {H : hp_T} {M : mM} {L : Nat} (R : rRV (hp_i H) M L) (q : pS) : rdO (txt (rd0 H)) L (rdR M L q) (rd0 H) (trmY rdS L H) ∧ txM M (txt (rd0 H)) L := by
  obtain ⟨⟨⟨r1, r2, hL⟩, r4, r5, r6, r7⟩, rv⟩ := R
  have T : txM M (txt (rd0 H)) L := ⟨hL, fun i hi => by
    obtain ⟨v, hv, ev⟩ := r5 i hi
    have e : txt (rd0 H) i = v := by
      show (hp_i H 154 i).toNatClampNeg = v
      rw [r4, ev, nI_clamp (by omega)]
    rw [e]
    exact ⟨ev, hv⟩⟩
  refine ⟨?_, T⟩
  have T0 : txM (up2 (up2 (up2 M 0 3 (nI L)) 0 1 0) 25 0 0) (txt (rd0 H)) L := txM_u (by decide) (txM_u (by decide) (txM_u (by decide) T))
  have R0 : rV (up2 (up2 (up2 M 0 3 (nI L)) 0 1 0) 25 0 0) := rV_u (by decide) (fun a ha j hj => by rw [up2_row (show 2 + a ≠ 0 by omega), up2_row (show 2 + a ≠ 0 by omega)]; exact rv a ha j hj)
  have et : txt (rdZ0 (rd0 H)) = txt (rd0 H) := by
    funext i
    unfold txt rdZ0
    rw [up2_row (show 4 ≠ 0 by decide), up2_row (show 4 ≠ 0 by decide), up2_row (show 4 ≠ 0 by decide), up2_row (show 4 ≠ 0 by decide), up2_row (show 4 ≠ 0 by decide)]
  have e00 : rdZ0 (rd0 H) 0 0 = nI L := by
    unfold rdZ0
    rw [up2_k _ _ (show 0 ≠ 13 by decide), up2_k _ _ (show 0 ≠ 4 by decide), up2_k _ _ (show 0 ≠ 3 by decide), up2_k _ _ (show 0 ≠ 2 by decide), up2_k _ _ (show 0 ≠ 1 by decide)]
    exact r1
  have TI : tokI (rdZ1 L (rd0 H)) (txt (rd0 H)) L := by
    have := scan_I (Z := rdZ0 (rd0 H)) hL e00
    rw [et] at this
    exact this
  obtain ⟨-, a2, a9, -⟩ := sc_at (Z := rdZ0 (rd0 H)) (tx := txt (rdZ0 (rd0 H))) (L := L) L hL
  have f0 : ∀ k, k ≠ 12 → rdZ1 L (rd0 H) 0 k = rdZ0 (rd0 H) 0 k := fun k hk => a2 k hk
  have f4 : rdZ1 L (rd0 H) 4 = rd0 H 4 := by
    refine (a9 4 (by decide) (by decide)).trans ?_
    unfold rdZ0
    rw [up2_row (show 4 ≠ 0 by decide), up2_row (show 4 ≠ 0 by decide), up2_row (show 4 ≠ 0 by decide), up2_row (show 4 ≠ 0 by decide), up2_row (show 4 ≠ 0 by decide)]
  have z1 : rdZ0 (rd0 H) 0 1 = 0 := by
    unfold rdZ0
    rw [up2_k _ _ (show 1 ≠ 13 by decide), up2_k _ _ (show 1 ≠ 4 by decide), up2_k _ _ (show 1 ≠ 3 by decide), up2_k _ _ (show 1 ≠ 2 by decide), up2_s]
  have z2 : rdZ0 (rd0 H) 0 2 = -1 := by
    unfold rdZ0
    rw [up2_k _ _ (show 2 ≠ 13 by decide), up2_k _ _ (show 2 ≠ 4 by decide), up2_k _ _ (show 2 ≠ 3 by decide), up2_s]
  have z3 : rdZ0 (rd0 H) 0 3 = 0 := by
    unfold rdZ0
    rw [up2_k _ _ (show 3 ≠ 13 by decide), up2_k _ _ (show 3 ≠ 4 by decide), up2_s]
  have z4 : rdZ0 (rd0 H) 0 4 = 0 := by
    unfold rdZ0
    rw [up2_k _ _ (show 4 ≠ 13 by decide), up2_s]
  have z13 : rdZ0 (rd0 H) 0 13 = 0 := by
    unfold rdZ0
    rw [up2_s]
  have G : glU (txt (rd0 H)) L 0 (-1) := by
    refine ⟨Nat.zero_le _, fun _ h z => ?_, fun b _ hb => ⟨fun z => ?_, fun z => ?_⟩⟩
    · have : srt (txt (rd0 H) 0) = 0 := z.symm
      omega
    · exfalso
      have h := congrArg Int32.toInt z
      rw [nI_toInt (by omega), show (-1 : Int32).toInt = -1 from by decide] at h
      omega
    · have : bf (txt (rd0 H)) 0 = 0 := rfl
      omega
  have S : stI9 (up2 (up2 (up2 M 0 3 (nI L)) 0 1 0) 25 0 0) (txt (rd0 H)) L 0 (rdZ1 L (rd0 H)) (0, -1, 0, -1, 0, q.2.2.2.2.2) := by
    refine ⟨⟨⟨TI, ?_, G⟩, rfl, (f0 1 (by decide)).trans z1⟩, ⟨Nat.zero_le _, Nat.zero_le _⟩, ⟨(f0 4 (by decide)).trans z4, Nat.zero_le _, fun i hi => absurd hi (Nat.not_lt_zero i), fun i hi => absurd hi (Nat.not_lt_zero i)⟩, ⟨(f0 3 (by decide)).trans z3, up2_s _ _ _ _, by decide⟩, ⟨fun _ => rfl, (f0 2 (by decide)).trans z2⟩, fun i hi => absurd hi (Nat.not_lt_zero i)⟩
    exact (f0 13 (by decide)).trans z13
  have h := rs_at (R0 := rdr 77 0 0) (R2 := rdr 77 2 0) (d0 := 24) (d2 := 21) (fun M' T' R' => (tes_H T' R' 6 0 rfl).2 77 (by decide)) (fun M' T' R' => sum_H T' R' 6 0 77 rfl (by decide)) (ty_rdr 77 0 0 (by decide) (by decide)) (ty_rdr 77 2 0 (by decide) (by decide)) (by decide) (by decide) 25 0 27 _ _ _ T0 R0 S rfl (by decide)
  exact ⟨h.1.trans f4, h.2⟩
