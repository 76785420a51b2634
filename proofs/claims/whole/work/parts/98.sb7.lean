/-! ===== class against reference: operands ===== -/
theorem nI_off (k v : Nat) : nI (k + v) - nI k = nI v := by
  rw [Nat.add_comm, ← nI_add, Int32.add_sub_cancel]
theorem tk_shr {t v : Nat} (ht : t < 128) (hv : v ≤ 99999) : nI (t + 128 * v) >>> ((7 : Int32) &&& 31) = nI v := by
  refine Int32.toBitVec_inj.mp ?_
  show (BitVec.ofNat 32 (t + 128 * v)).sshiftRight 7 = BitVec.ofNat 32 v
  rw [BitVec.sshiftRight_eq_of_msb_false (by
    rw [BitVec.msb_eq_decide, BitVec.toNat_ofNat]
    exact decide_eq_false (by omega))]
  refine BitVec.eq_of_toNat_eq ?_
  rw [BitVec.toNat_ushiftRight, BitVec.toNat_ofNat, BitVec.toNat_ofNat, Nat.shiftRight_eq_div_pow]
  omega
theorem opV_of {F : Nat → Int32} {off : Int32} {M : mM} {n s w g cc : Nat} (h0 : F 0 = M 31 cc) (h1 : F 1 = M 32 cc) (h2 : F 2 = M 33 cc) (h3 : F 3 = M 0 72) (h4 : F 4 = M 0 74) (h5 : F 5 = M 0 73) (h6 : F 6 = nI (fa_cnt (hsN (M 34) w g cc) 8)) (hb : ∀ k, k < 7 → vbd (F k)) (ho : ∀ o, o ≤ 8 → off >>> (nI o &&& 31) &&& 1 = if anyb (mhB M s (nI o) (nI cc)) n = true then 1 else 0) : opV F off (mtV M n s w g cc) := by
  intro y x hC hy
  unfold cdR at hC
  rcases hC with ⟨v, hv, ey, ex⟩ | ⟨o, h8, ey, ex⟩ | ⟨ey, ex⟩ | ⟨ey, ex⟩ | ⟨ey, ex⟩ | ⟨ey, ex⟩ | ⟨ey, ex⟩ | ⟨ey, ex⟩ | ⟨ey, ex⟩ | ⟨ey, ex⟩ | ⟨ey, ex⟩ | ⟨ey, ex⟩ | ⟨ey, ex⟩ | ⟨ey, ex⟩ | ⟨ey, ex⟩ | ⟨ey, ex⟩ | ⟨ey, ex⟩ | ⟨ey, ex⟩ | ⟨ey, ex⟩ | ⟨ey, ex⟩ | ⟨ey, ex⟩ | ⟨ey, ex⟩
  · subst ey
    have hc : (1000 : Int32) ≤ nI (1000 + v) := by rw [fa_le, nI_toInt (by omega), ti_1000]; omega
    rw [show decide ((100 ≤ nI (1000 + v) ∧ nI (1000 + v) < 1000) ∨ nI (1000 + v) = 17) = false from decide_eq_false (fun z => by
      rcases z with z | z
      · rw [fa_lt, nI_toInt (by omega), ti_1000] at z; omega
      · rw [z] at hc; exact absurd hc (by decide))]
    rw [ex, tk_and (by omega), tk_shr (by omega) hv]
    rw [show mtV M n s w g cc (nI (1000 + v)) = (nI (1000 + v) - nI 1000).toInt64 from if_pos hc, nI_off]
    rw [show sngV F off (nI 23) (nI v) = nI v from (if_neg (by decide)).trans ((if_neg (by decide)).trans (if_neg (by decide)))]
    refine ⟨rfl, ?_⟩
    show vbd (nI v)
    exact ⟨by rw [nI_toInt (by omega)]; omega, by rw [nI_toInt (by omega)]; omega⟩
  · subst ey
    have hc : (100 : Int32) ≤ nI (100 + o) := by rw [fa_le, nI_toInt (by omega), ti_100]; omega
    have hc2 : ¬ (1000 : Int32) ≤ nI (100 + o) := by rw [fa_le, nI_toInt (by omega), ti_1000]; omega
    rw [show decide ((100 ≤ nI (100 + o) ∧ nI (100 + o) < 1000) ∨ nI (100 + o) = 17) = true from decide_eq_true (Or.inl ⟨hc, by rw [fa_lt, nI_toInt (by omega), ti_1000]; omega⟩)]
    rw [ex, tk_and (by omega), tk_shr (by omega) (by omega)]
    rw [show mtV M n s w g cc (nI (100 + o)) = (if anyb (mhB M s (nI (100 + o) - nI 100) (nI cc)) n = true then 1 else 0) from (if_neg hc2).trans (if_pos hc), nI_off]
    rw [show sngV F off (nI 10) (nI o) = off >>> (nI o &&& 31) &&& 1 from (if_neg (by decide)).trans (if_pos rfl), ho o h8]
    by_cases q : anyb (mhB M s (nI o) (nI cc)) n = true
    · rw [if_pos q, if_pos q]
      exact ⟨rfl, Or.inr rfl⟩
    · rw [if_neg q, if_neg q]
      exact ⟨rfl, Or.inl rfl⟩
  · subst ey; subst ex
    rw [show mtV M n s w g cc 7 = (M 31 cc).toInt64 from (if_neg (by decide)).trans ((if_neg (by decide)).trans (if_pos rfl))]
    rw [show decide ((100 ≤ (7 : Int32) ∧ (7 : Int32) < 1000) ∨ (7 : Int32) = 17) = false from by decide, show (0 : Int32) &&& 127 = 0 from by decide, show sngV F off 0 ((0 : Int32) >>> (7 &&& 31)) = F 0 from if_pos (by decide), ← h0]
    exact ⟨rfl, hb 0 (by decide)⟩
  · subst ey; subst ex
    rw [show mtV M n s w g cc 8 = (M 32 cc).toInt64 from (if_neg (by decide)).trans ((if_neg (by decide)).trans ((if_neg (by decide)).trans (if_pos rfl)))]
    rw [show decide ((100 ≤ (8 : Int32) ∧ (8 : Int32) < 1000) ∨ (8 : Int32) = 17) = false from by decide, show (1 : Int32) &&& 127 = 1 from by decide, show sngV F off 1 ((1 : Int32) >>> (7 &&& 31)) = F 1 from if_pos (by decide), ← h1]
    exact ⟨rfl, hb 1 (by decide)⟩
  · subst ey; subst ex
    rw [show mtV M n s w g cc 9 = (M 33 cc).toInt64 from (if_neg (by decide)).trans ((if_neg (by decide)).trans ((if_neg (by decide)).trans ((if_neg (by decide)).trans (if_pos rfl))))]
    rw [show decide ((100 ≤ (9 : Int32) ∧ (9 : Int32) < 1000) ∨ (9 : Int32) = 17) = false from by decide, show (2 : Int32) &&& 127 = 2 from by decide, show sngV F off 2 ((2 : Int32) >>> (7 &&& 31)) = F 2 from if_pos (by decide), ← h2]
    exact ⟨rfl, hb 2 (by decide)⟩
  · subst ey; subst ex
    rw [show mtV M n s w g cc 10 = (M 0 72).toInt64 from (if_neg (by decide)).trans ((if_neg (by decide)).trans ((if_neg (by decide)).trans ((if_neg (by decide)).trans ((if_neg (by decide)).trans (if_pos rfl)))))]
    rw [show decide ((100 ≤ (10 : Int32) ∧ (10 : Int32) < 1000) ∨ (10 : Int32) = 17) = false from by decide, show (3 : Int32) &&& 127 = 3 from by decide, show sngV F off 3 ((3 : Int32) >>> (7 &&& 31)) = F 3 from if_pos (by decide), ← h3]
    exact ⟨rfl, hb 3 (by decide)⟩
  · subst ey; subst ex
    rw [show mtV M n s w g cc 18 = (M 0 74).toInt64 from (if_neg (by decide)).trans ((if_neg (by decide)).trans ((if_neg (by decide)).trans ((if_neg (by decide)).trans ((if_neg (by decide)).trans ((if_neg (by decide)).trans (if_pos rfl))))))]
    rw [show decide ((100 ≤ (18 : Int32) ∧ (18 : Int32) < 1000) ∨ (18 : Int32) = 17) = false from by decide, show (4 : Int32) &&& 127 = 4 from by decide, show sngV F off 4 ((4 : Int32) >>> (7 &&& 31)) = F 4 from if_pos (by decide), ← h4]
    exact ⟨rfl, hb 4 (by decide)⟩
  · subst ey; subst ex
    rw [show mtV M n s w g cc 19 = (M 0 73).toInt64 from (if_neg (by decide)).trans ((if_neg (by decide)).trans ((if_neg (by decide)).trans ((if_neg (by decide)).trans ((if_neg (by decide)).trans ((if_neg (by decide)).trans ((if_neg (by decide)).trans (if_pos rfl)))))))]
    rw [show decide ((100 ≤ (19 : Int32) ∧ (19 : Int32) < 1000) ∨ (19 : Int32) = 17) = false from by decide, show (5 : Int32) &&& 127 = 5 from by decide, show sngV F off 5 ((5 : Int32) >>> (7 &&& 31)) = F 5 from if_pos (by decide), ← h5]
    exact ⟨rfl, hb 5 (by decide)⟩
  · subst ey; subst ex
    rw [show mtV M n s w g cc 30 = (nI (fa_cnt (hsN (M 34) w g cc) 8)).toInt64 from (if_neg (by decide)).trans ((if_neg (by decide)).trans ((if_neg (by decide)).trans ((if_neg (by decide)).trans ((if_neg (by decide)).trans ((if_neg (by decide)).trans ((if_neg (by decide)).trans ((if_neg (by decide)).trans (if_pos rfl))))))))]
    rw [show decide ((100 ≤ (30 : Int32) ∧ (30 : Int32) < 1000) ∨ (30 : Int32) = 17) = false from by decide, show (6 : Int32) &&& 127 = 6 from by decide, show sngV F off 6 ((6 : Int32) >>> (7 &&& 31)) = F 6 from if_pos (by decide), ← h6]
    exact ⟨rfl, hb 6 (by decide)⟩
  · subst ey; subst ex
    rw [show mtV M n s w g cc 17 = 1 from (if_neg (by decide)).trans ((if_neg (by decide)).trans ((if_neg (by decide)).trans ((if_neg (by decide)).trans ((if_neg (by decide)).trans ((if_neg (by decide)).trans ((if_neg (by decide)).trans ((if_neg (by decide)).trans (if_neg (by decide)))))))))]
    rw [show decide ((100 ≤ (17 : Int32) ∧ (17 : Int32) < 1000) ∨ (17 : Int32) = 17) = true from by decide, show (9 : Int32) &&& 127 = 9 from by decide, show sngV F off 9 ((9 : Int32) >>> (7 &&& 31)) = 1 from (if_neg (by decide)).trans ((if_neg (by decide)).trans (if_pos rfl))]
    exact ⟨rfl, Or.inr rfl⟩
  · subst ey; exact absurd hy (by decide)
  · subst ey; exact absurd hy (by decide)
  · subst ey; exact absurd hy (by decide)
  · subst ey; exact absurd hy (by decide)
  · subst ey; exact absurd hy (by decide)
  · subst ey; exact absurd hy (by decide)
  · subst ey; exact absurd hy (by decide)
  · subst ey; exact absurd hy (by decide)
  · subst ey; exact absurd hy (by decide)
  · subst ey; exact absurd hy (by decide)
  · subst ey; exact absurd hy (by decide)
  · subst ey; exact absurd hy (by decide)
