/-! ===== class against reference: askOf agrees ===== -/
theorem laO_fr {M M1 : mM} {a : Nat} {kind : Int32} (e : ∀ r, r ≠ 0 → M1 r = M r) : laO M1 a kind = laO M a kind := by
  have h : laB M1 a kind = laB M a kind := by
    funext f q
    unfold laB
    rw [e 26 (by decide)]
  unfold laO
  rw [h, e 25 (by decide)]
theorem ask_eq {h : hp_T} {M : mM} {w g n s k c o : Nat} {S : kS} {W : tW} (A : rA (hp_i h) M w g n) (hs : s ≤ n) (B : rT h M n) (hc120 : c < 120) (hc : M 49 k = nI c) (hV : opV (S.1 7) (S.1 6 4) (masV n s w g k M)) (hl : S.1 7 4 = mloV M c) {v : Nat} (hv : v ≤ 99999) (hv2 : M 50 k = nI v) (hsum : S.1 7 3 = nI v) (eo : M 48 k = nI o) (ho : o < 9) : (askS h S ((kn h s).2 o)).1 = (masS n s w g k M W).1 := by
  have hn := A.1.2.2
  have e : ∀ r, r ≠ 0 → mas1 n s k M r = M r := fun r hr => askM_row hr
  have ey : 0 ≤ (nI v).toInt := by rw [nI_toInt (by omega)]; omega
  unfold masS
  rw [e 50 (by decide), hv2, laO_fr e, eo, hc, nI_clamp (show c < 2147483648 by omega)]
  by_cases l0 : mloV M c = 0
  · rw [if_pos l0]
    cases (kn h s).2 o with
    | none => rfl
    | some b => rw [show askS h S (some b) = (0, S.1 8) from if_pos (hl.trans l0)]
  · rw [if_neg l0]
    rcases kn_obj A hs B ho with ⟨e1, e2⟩ | ⟨t, b, j, e1, t1, t2, e2, b1, b2, b3, b4, b5, p4, p5, p6⟩
    · rw [e2, e1, if_pos (show nI 0 = 0 from rfl)]
      rfl
    · rw [e2, e1, if_neg (nI_ne0 t1 (by omega))]
      have vo : (someS h S (some b) 15).1 = (mas2 n s w g k M W).1 := by
        have z := some_ho (t := 1) (W := W) (M1 := mas1 n s k M) hV (by decide) e b4 b5
        unfold mas2
        rw [eo, e1]
        exact z
      have co : (someS h (kR S (someS h S (some b) 15).2) (some b) 14).1 = (mas3 n s w g k M W).1 := by
        have z := some_ho (S := kR S (someS h S (some b) 15).2) (t := 0) (W := (mas2 n s w g k M W).2) (M1 := mas1 n s k M) hV (by decide) e b4 b5
        unfold mas3
        rw [eo, e1]
        exact z
      have hL : ¬ S.1 7 4 = 0 := fun z => l0 (hl.symm.trans z)
      unfold askS
      dsimp only
      rw [if_neg hL]
      by_cases q1 : (mas2 n s w g k M W).1 = true
      · rw [if_pos (vo.trans q1), if_neg (show ¬ bI (mas2 n s w g k M W).1 = 0 by rw [q1]; decide)]
      · have f1 : (mas2 n s w g k M W).1 = false := Bool.eq_false_iff.mpr q1
        rw [if_neg (show ¬ (someS h S (some b) 15).1 = true by rw [vo]; exact q1), if_pos (show bI (mas2 n s w g k M W).1 = 0 by rw [f1]; rfl)]
        by_cases q2 : (mas3 n s w g k M W).1 = true
        · rw [if_neg (show ¬ ¬ (someS h (kR S (someS h S (some b) 15).2) (some b) 14).1 = true by rw [co]; exact not_not_intro q2), if_neg (show ¬ bI (mas3 n s w g k M W).1 = 0 by rw [q2]; decide)]
          have hla := (la_rel j b5.2.2).1
          have eL : laO M t 3 = itN (laB M t 3) (-1) j := by
            unfold laO
            rw [b5.2.1, nI_clamp (by have := b5.1; omega)]
          rcases hla with ⟨y1, y2⟩ | ⟨q, hq9, y1, y2, y3⟩
          · rw [if_pos (p4.trans y1), eL, y2, if_pos rfl]
            show askC S (S.1 7 4) = _
            unfold askC
            rw [hl, hsum, ask_num ey]
            repeat' split
            all_goals first | rfl | contradiction
          · have hk24 := b5.1
            rw [if_neg (show ¬ hp_i h b 4 = -1 from by rw [p4, y1]; exact nI_nm1 (by omega)), p4, y1, nI_clamp (show q < 2147483648 by omega), if_neg (show ¬ laO M t 3 = -1 from by rw [eL, y2]; exact nI_nm1 (by omega))]
            have hv9 := stm_val (S := kR S (someS h (kR S (someS h S (some b) 15).2) (some b) 14).2) (M := M) (W := (mas3 n s w g k M W).2) (t := 3) hV (by decide) y3 (b5.2.2 q hq9)
            have hX : (mas4 n s w g k M W).2 0 = (tel (masV n s w g k M) M t q (mas3 n s w g k M W).2).2 0 := by
              unfold mas4 telR
              rw [eo, e1, laO_fr e, eL, y2, nI_clamp (show 24 * t + q < 2147483648 by omega), e 29 (by decide), e 27 (by decide), e 28 (by decide)]
              rfl
            obtain ⟨s1, -⟩ := sl_f hv9
            rw [s1] at hX
            generalize mas4 n s w g k M W = Y at hX ⊢
            rw [hX]
            generalize vofV (stm (kR S (someS h (kR S (someS h S (some b) 15).2) (some b) 14).2) (tcd h b) (tfr h b) q) = u
            show askC S u = _
            unfold askC
            rw [hsum, ask_num ey]
            repeat' split
            all_goals first | rfl | contradiction
        · have f2 : (mas3 n s w g k M W).1 = false := Bool.eq_false_iff.mpr q2
          rw [if_pos (show ¬ (someS h (kR S (someS h S (some b) 15).2) (some b) 14).1 = true by rw [co]; exact q2), if_pos (show bI (mas3 n s w g k M W).1 = 0 by rw [f2]; rfl)]
