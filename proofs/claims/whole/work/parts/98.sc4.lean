/-! ===== class against reference: premium ===== -/
theorem max0_e {u : Int32} {v : Int64} (h : v = u.toInt64) (hb : vbd u) : max0 u = if 0 ≤ lg_cmp v 0 then v.toInt32 else 0 := by
  have h1 := hb.1
  have h2 := hb.2
  have hv : v.toInt32 = u := by
    rw [h, fa_eq, Int64.toInt_toInt32, Int32.toInt_toInt64]
    exact Int.bmod_eq_of_le (by omega) (by omega)
  unfold max0
  by_cases q : 0 ≤ lg_cmp v 0
  · rw [if_pos q, hv]
    have hn := nlt_of_lgg q
    rw [h, fa_lt64, Int32.toInt_toInt64, show (0 : Int64).toInt = 0 by decide] at hn
    by_cases z : 0 < u
    · rw [if_pos z]
    · rw [if_neg z, fa_eq, ti_0]
      rw [fa_lt, ti_0] at z
      omega
  · have hl := lt_of_lgg q
    rw [h, fa_lt64, Int32.toInt_toInt64, show (0 : Int64).toInt = 0 by decide] at hl
    rw [if_neg q, if_neg (show ¬ 0 < u by rw [fa_lt, ti_0]; omega)]
theorem askM_row {M : mM} {c v o l : Int32} {r : Nat} (hr : r ≠ 0) : askM M c v o l r = M r := by
  unfold askM
  rw [up2_row hr, up2_row hr, up2_row hr, up2_row hr]
theorem cnt_bd {p : Nat → Bool} {n : Nat} (hn : n ≤ 200) : vbd (nI (fa_cnt p n) - 1) := by
  have h := fa_cnt_le p n
  have e : (nI (fa_cnt p n) - 1).toInt = (fa_cnt p n : Int) - 1 := by
    refine (is_e ?_ ?_).trans ?_
    · rw [nI_toInt (by omega), ti_1]; omega
    · rw [nI_toInt (by omega), ti_1]; omega
    · rw [nI_toInt (by omega), ti_1]
  exact ⟨by rw [e]; omega, by rw [e]; omega⟩
theorem prem_eq {h : hp_T} {M : mM} {w g n s a : Nat} {W : tW} (R : rC (hp_i h) M w g) (Bd : bC M) (A : rA (hp_i h) M w g n) (hs : s ≤ n) (B : rT h M n) (h1 : 1 ≤ a) (h2 : a ≤ n) (hp : poP M s a) : (preS h w g s a).1 = (mprS n s w g (nI a) M W).1 := by
  have hn := A.1.2.2
  have hcy := cty_n R.1
  have Q := A.2.2 a h1 h2
  obtain ⟨f1, f2, ⟨c, hc, ec⟩, v, hv, evv⟩ := Q.2.2.2.2.2 hp.1
  obtain ⟨f3, o, ho, eo⟩ := Q.2.2.2.2.1 (by rw [hp.1]; decide)
  have hq : poQ M n s (nI a) := ⟨⟨by rw [fa_le, ti_1, nI_toInt (by omega)]; omega, nI_le h2 (by omega)⟩, by rw [nI_clamp (by omega)]; exact hp⟩
  have hk := gk_P (R := hp_r h 162) A hs hcy.2 (kS0 h) s (Nat.le_refl _)
  have h4 : (kn h s).1 4 c = nI (fa_cnt (mpB M s (nI c)) n) := by
    obtain ⟨d, rfl⟩ : ∃ d, n = s + d := ⟨n - s, by omega⟩
    rw [mp_beh d]
    exact hk.1 c (by omega)
  have hoV := ask_opV (M1 := askM M (nI c) (nI v) (nI (fa_cnt (mpB M s (nI c)) n) - 1) 0) R Bd A hs hc (vbd_nI (k := v) (by omega)) (cnt_bd (p := mpB M s (nI c)) hn) (show vbd 0 from by decide) ⟨rfl, rfl, rfl⟩ (fun r hr => askM_row hr)
  unfold preS preK mprS
  rw [if_neg (show ¬ bI (decide (poQ M n s (nI a))) = 0 from by rw [decide_eq_true hq]; decide), nI_clamp (show a < 2147483648 by omega), f1, f2, f3, ec, evv, eo, nI_clamp (show c < 2147483648 by omega), nI_clamp (show o < 2147483648 by omega), h4]
  generalize takS (goK h w g (kn h s) c) (nI v) (nI (fa_cnt (mpB M s (nI c)) n) - 1) 0 = S at hoV ⊢
  generalize hM1 : askM M (nI c) (nI v) (nI (fa_cnt (mpB M s (nI c)) n) - 1) 0 = M1 at hoV ⊢
  have hrow : ∀ r, r ≠ 0 → M1 r = M r := fun r hr => by rw [← hM1]; exact askM_row hr
  rcases kn_obj A hs B (show o < 9 by omega) with ⟨e1, e2⟩ | ⟨t, b, k, e1, t1, t2, e2, b1, b2, b3, b4, b5, p4, p5, p6⟩
  · rw [e2, e1, if_pos (show nI 0 = 0 from rfl)]
    rfl
  · rw [e2, e1, if_neg (nI_ne0 t1 (by omega))]
    have hla := (la_rel k b5.2.2).2.1
    have eL : laO M t 4 = itN (laB M t 4) (-1) k := by
      unfold laO
      rw [b5.2.1, nI_clamp (by have := b5.1; omega)]
    rw [eL]
    rcases hla with ⟨y1, y2⟩ | ⟨q, hq9, y1, y2, y3⟩
    · rw [y2, if_pos rfl, show prmS h S (some b) = (0, S.1 8) from if_pos (p5.trans y1)]
    · have hk24 := b5.1
      rw [y2, if_neg (show ¬ nI (24 * t + q) = -1 from nI_nm1 (by omega)), nI_clamp (show 24 * t + q < 2147483648 by omega)]
      rw [show prmS h S (some b) = _ from if_neg (show ¬ hp_i h b 5 = -1 from by rw [p5, y1]; exact nI_nm1 (by omega)), p5, y1, nI_clamp (show q < 2147483648 by omega)]
      have hv9 : sl false (vofV (stm S (tcd h b) (tfr h b) q)) ((telR (mtV M1 n s w g c) M1 t (24 * t + q) W).2 0) := by
        have z := stm_val (M := M) (W := W) (t := 4) hoV (by decide) y3 (b5.2.2 q hq9)
        unfold telR
        rw [hrow 29 (by decide), hrow 27 (by decide), hrow 28 (by decide)]
        exact z
      obtain ⟨s1, s2⟩ := sl_f hv9
      generalize (telR (mtV M1 n s w g c) M1 t (24 * t + q) W) = Y at s1 ⊢
      rw [show (max0 (vofV (stm S (tcd h b) (tfr h b) q)), (stm S (tcd h b) (tfr h b) q).2).1 = max0 (vofV (stm S (tcd h b) (tfr h b) q)) from rfl, max0_e s1 s2]
      split
      · rfl
      · rfl
