/-! ===== class against reference: a statement worked out ===== -/
/-- a code of the reference (y) and of the class (x) -/
def cdR (y x : Int32) : Prop := (∃ v, v ≤ 99999 ∧ y = nI (1000 + v) ∧ x = nI (23 + 128 * v)) ∨ (∃ o, o ≤ 8 ∧ y = nI (100 + o) ∧ x = nI (10 + 128 * o)) ∨ (y = 7 ∧ x = 0) ∨ (y = 8 ∧ x = 1) ∨ (y = 9 ∧ x = 2) ∨ (y = 10 ∧ x = 3) ∨ (y = 18 ∧ x = 4) ∨ (y = 19 ∧ x = 5) ∨ (y = 30 ∧ x = 6) ∨ (y = 17 ∧ x = 9) ∨ (y = 16 ∧ x = 11) ∨ (y = 1 ∧ x = 43) ∨ (y = 2 ∧ x = 45) ∨ (y = 3 ∧ x = 42) ∨ (y = 4 ∧ x = 47) ∨ (y = 5 ∧ x = 7) ∨ (y = 6 ∧ x = 8) ∨ (y = 11 ∧ x = 60) ∨ (y = 12 ∧ x = 62) ∨ (y = 13 ∧ x = 61) ∨ (y = 14 ∧ x = 12) ∨ (y = 15 ∧ x = 13)
theorem tk_and {t v : Nat} (ht : t < 128) : nI (t + 128 * v) &&& 127 = nI t := by
  rw [show (127 : Int32) = nI 127 from rfl, fa_and, show (t + 128 * v) &&& 127 = t from (Nat.and_two_pow_sub_one_eq_mod (t + 128 * v) 7).trans (by omega)]
/-- operands are worth the same -/
def opV (F : Nat → Int32) (off : Int32) (V : Int32 → Int64) : Prop := ∀ y x, cdR y x → opd y → sl (decide ((100 ≤ y ∧ y < 1000) ∨ y = 17)) (sngV F off (x &&& 127) (x >>> (7 &&& 31))) (V y)
theorem st_step {F : Nat → Int32} {off : Int32} {cd : Nat → Int32} {V : Int32 → Int64} {T : tyW} {W : Nat × (Nat → Int32)} {W' : tW} {y : Int32} {i : Nat} (hV : opV F off V) (R : stR T W W') (hC : cdR y (cd i)) (hO : tyO T y) : stR (tyB T y) (vofB F off cd W i) (tlB V W' y) := by
  have hc := hC
  unfold cdR at hc
  rcases hc with ⟨v, hv, ey, ex⟩ | ⟨o, h8, ey, ex⟩ | ⟨ey, ex⟩ | ⟨ey, ex⟩ | ⟨ey, ex⟩ | ⟨ey, ex⟩ | ⟨ey, ex⟩ | ⟨ey, ex⟩ | ⟨ey, ex⟩ | ⟨ey, ex⟩ | ⟨ey, ex⟩ | ⟨ey, ex⟩ | ⟨ey, ex⟩ | ⟨ey, ex⟩ | ⟨ey, ex⟩ | ⟨ey, ex⟩ | ⟨ey, ex⟩ | ⟨ey, ex⟩ | ⟨ey, ex⟩ | ⟨ey, ex⟩ | ⟨ey, ex⟩ | ⟨ey, ex⟩
  · have ho : opd y := Or.inl (by rw [ey, fa_le, nI_toInt (by omega), show (100 : Int32).toInt = 100 from by decide]; omega)
    have ht : cd i &&& 127 = 23 := by rw [ex, tk_and (by omega)]; rfl
    exact st_opd rfl R ho hO (by rw [ht]; decide) (by rw [ht]; decide) (hV y (cd i) hC ho)
  · have ho : opd y := Or.inl (by rw [ey, fa_le, nI_toInt (by omega), show (100 : Int32).toInt = 100 from by decide]; omega)
    have ht : cd i &&& 127 = 10 := by rw [ex, tk_and (by omega)]; rfl
    exact st_opd rfl R ho hO (by rw [ht]; decide) (by rw [ht]; decide) (hV y (cd i) hC ho)
  · have ho : opd y := by rw [ey]; decide
    have ht : cd i &&& 127 = 0 := by rw [ex]; decide
    exact st_opd rfl R ho hO (by rw [ht]; decide) (by rw [ht]; decide) (hV y (cd i) hC ho)
  · have ho : opd y := by rw [ey]; decide
    have ht : cd i &&& 127 = 1 := by rw [ex]; decide
    exact st_opd rfl R ho hO (by rw [ht]; decide) (by rw [ht]; decide) (hV y (cd i) hC ho)
  · have ho : opd y := by rw [ey]; decide
    have ht : cd i &&& 127 = 2 := by rw [ex]; decide
    exact st_opd rfl R ho hO (by rw [ht]; decide) (by rw [ht]; decide) (hV y (cd i) hC ho)
  · have ho : opd y := by rw [ey]; decide
    have ht : cd i &&& 127 = 3 := by rw [ex]; decide
    exact st_opd rfl R ho hO (by rw [ht]; decide) (by rw [ht]; decide) (hV y (cd i) hC ho)
  · have ho : opd y := by rw [ey]; decide
    have ht : cd i &&& 127 = 4 := by rw [ex]; decide
    exact st_opd rfl R ho hO (by rw [ht]; decide) (by rw [ht]; decide) (hV y (cd i) hC ho)
  · have ho : opd y := by rw [ey]; decide
    have ht : cd i &&& 127 = 5 := by rw [ex]; decide
    exact st_opd rfl R ho hO (by rw [ht]; decide) (by rw [ht]; decide) (hV y (cd i) hC ho)
  · have ho : opd y := by rw [ey]; decide
    have ht : cd i &&& 127 = 6 := by rw [ex]; decide
    exact st_opd rfl R ho hO (by rw [ht]; decide) (by rw [ht]; decide) (hV y (cd i) hC ho)
  · have ho : opd y := by rw [ey]; decide
    have ht : cd i &&& 127 = 9 := by rw [ex]; decide
    exact st_opd rfl R ho hO (by rw [ht]; decide) (by rw [ht]; decide) (hV y (cd i) hC ho)
  · subst ey
    exact st_not ex R hO
  · subst ey
    have ht : cd i &&& 127 = 43 := by rw [ex]; decide
    refine st_join rfl R (by decide) (by decide) hO (by rw [ht]; decide) (by rw [ht]; decide) (fun u v hb => ?_)
    rw [if_neg (by decide)] at hb
    rw [ht, show decide ((11 : Int32) ≤ 1) = false from by decide]
    exact ⟨j_add.symm, clp_bd _⟩
  · subst ey
    have ht : cd i &&& 127 = 45 := by rw [ex]; decide
    refine st_join rfl R (by decide) (by decide) hO (by rw [ht]; decide) (by rw [ht]; decide) (fun u v hb => ?_)
    rw [if_neg (by decide)] at hb
    rw [ht, show decide ((11 : Int32) ≤ 2) = false from by decide]
    exact ⟨j_sub.symm, clp_bd _⟩
  · subst ey
    have ht : cd i &&& 127 = 42 := by rw [ex]; decide
    refine st_join rfl R (by decide) (by decide) hO (by rw [ht]; decide) (by rw [ht]; decide) (fun u v hb => ?_)
    rw [if_neg (by decide)] at hb
    rw [ht, show decide ((11 : Int32) ≤ 3) = false from by decide]
    exact ⟨j_mul.symm, clp_bd _⟩
  · subst ey
    have ht : cd i &&& 127 = 47 := by rw [ex]; decide
    refine st_join rfl R (by decide) (by decide) hO (by rw [ht]; decide) (by rw [ht]; decide) (fun u v hb => ?_)
    rw [if_neg (by decide)] at hb
    rw [ht, show decide ((11 : Int32) ≤ 4) = false from by decide]
    exact ⟨(j_by hb.1 hb.2).symm, clp_bd _⟩
  · subst ey
    have ht : cd i &&& 127 = 7 := by rw [ex]; decide
    refine st_join rfl R (by decide) (by decide) hO (by rw [ht]; decide) (by rw [ht]; decide) (fun u v hb => ?_)
    rw [if_neg (by decide)] at hb
    rw [ht, show decide ((11 : Int32) ≤ 5) = false from by decide]
    exact ⟨(j_min hb.1 hb.2).symm, clp_bd _⟩
  · subst ey
    have ht : cd i &&& 127 = 8 := by rw [ex]; decide
    refine st_join rfl R (by decide) (by decide) hO (by rw [ht]; decide) (by rw [ht]; decide) (fun u v hb => ?_)
    rw [if_neg (by decide)] at hb
    rw [ht, show decide ((11 : Int32) ≤ 6) = false from by decide]
    exact ⟨(j_max hb.1 hb.2).symm, clp_bd _⟩
  · subst ey
    have ht : cd i &&& 127 = 60 := by rw [ex]; decide
    refine st_join rfl R (by decide) (by decide) hO (by rw [ht]; decide) (by rw [ht]; decide) (fun u v hb => ?_)
    rw [if_neg (by decide)] at hb
    rw [ht, show decide ((11 : Int32) ≤ 11) = true from by decide]
    exact ⟨j_lt.1.symm, j_lt.2⟩
  · subst ey
    have ht : cd i &&& 127 = 62 := by rw [ex]; decide
    refine st_join rfl R (by decide) (by decide) hO (by rw [ht]; decide) (by rw [ht]; decide) (fun u v hb => ?_)
    rw [if_neg (by decide)] at hb
    rw [ht, show decide ((11 : Int32) ≤ 12) = true from by decide]
    exact ⟨j_gt.1.symm, j_gt.2⟩
  · subst ey
    have ht : cd i &&& 127 = 61 := by rw [ex]; decide
    refine st_join rfl R (by decide) (by decide) hO (by rw [ht]; decide) (by rw [ht]; decide) (fun u v hb => ?_)
    rw [if_neg (by decide)] at hb
    rw [ht, show decide ((11 : Int32) ≤ 13) = true from by decide]
    exact ⟨j_eq.1.symm, j_eq.2⟩
  · subst ey
    have ht : cd i &&& 127 = 12 := by rw [ex]; decide
    refine st_join rfl R (by decide) (by decide) hO (by rw [ht]; decide) (by rw [ht]; decide) (fun u v hb => ?_)
    rw [if_pos (by decide)] at hb
    rw [ht, show decide ((11 : Int32) ≤ 14) = true from by decide]
    exact ⟨(j_and hb.1 hb.2).1.symm, (j_and hb.1 hb.2).2⟩
  · subst ey
    have ht : cd i &&& 127 = 13 := by rw [ex]; decide
    refine st_join rfl R (by decide) (by decide) hO (by rw [ht]; decide) (by rw [ht]; decide) (fun u v hb => ?_)
    rw [if_pos (by decide)] at hb
    rw [ht, show decide ((11 : Int32) ≤ 15) = true from by decide]
    exact ⟨(j_or hb.1 hb.2).1.symm, (j_or hb.1 hb.2).2⟩
/-- the type stack behind m codes -/
def tyS (cd : Nat → Int32) (x m : Nat) : tyW := itN (fun T j => tyB T (cd (x + j))) (0, fun _ => false) m
/-- the codes fit together, and no more than 64 values wait -/
def tyOk (cd : Nat → Int32) (x m : Nat) : Prop := ∀ j, j < m → tyO (tyS cd x j) (cd (x + j))
theorem st_run {F : Nat → Int32} {off : Int32} {cd cr : Nat → Int32} {V : Int32 → Int64} {x x' : Nat} {w0 : Nat → Int32} {Q : Nat → Int64} (hV : opV F off V) : ∀ m, (∀ j, j < m → cdR (cr (x' + j)) (cd (x + j))) → tyOk cr x' m → stR (tyS cr x' m) (vofN F off cd w0 x m) (tlS V cr x' Q m)
  | 0, _, _ => ⟨rfl, rfl, fun i hi => absurd hi (Nat.not_lt_zero i)⟩
  | m + 1, hC, hO => st_step hV (st_run hV m (fun j hj => hC j (by omega)) (fun j hj => hO j (by omega))) (hC m (Nat.lt_succ_self m)) (hO m (Nat.lt_succ_self m))
/-- a statement is worth the same -/
theorem st_val {F : Nat → Int32} {off : Int32} {cd cr : Nat → Int32} {V : Int32 → Int64} {x x' m : Nat} {w0 : Nat → Int32} {Q : Nat → Int64} (hV : opV F off V) (hC : ∀ j, j < m → cdR (cr (x' + j)) (cd (x + j))) (hO : tyOk cr x' m) (h1 : 0 < (tyS cr x' m).1) : sl ((tyS cr x' m).2 0) (vofV (vofN F off cd w0 x m)) ((tlS V cr x' Q m).2 0) := by
  obtain ⟨r1, r2, r3⟩ := st_run (w0 := w0) (Q := Q) hV m hC hO
  rw [show vofV (vofN F off cd w0 x m) = (vofN F off cd w0 x m).2 0 from if_pos (by omega)]
  exact r3 0 h1
