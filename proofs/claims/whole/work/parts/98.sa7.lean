/-! ===== class against reference: bytes told ===== -/
theorem b255 : ∀ i, i < 32 → 8 ≤ i → (255#32).getLsbD i = false := by decide
theorem sh_bv (x : BitVec 32) (s : Nat) (hs : s ≤ 24) : x.sshiftRight s &&& 255#32 = (x >>> s) &&& 255#32 := by
  refine BitVec.eq_of_getLsbD_eq (fun i hi => ?_)
  rw [BitVec.getLsbD_and, BitVec.getLsbD_and, BitVec.getLsbD_sshiftRight, BitVec.getLsbD_ushiftRight]
  rcases Nat.lt_or_ge i 8 with w9 | w9
  · rw [if_pos (show s + i < 32 by omega), decide_eq_false (show ¬ 32 ≤ i by omega)]
    rfl
  · have h0 : (255#32).getLsbD i = false := b255 i hi w9
    rw [h0, Bool.and_false, Bool.and_false]
theorem sh_0 (x : Int32) : (x >>> (0 : Int32)) &&& 255 = byt x 0 := by
  refine Int32.toBitVec_inj.mp ?_
  exact sh_bv x.toBitVec 0 (by decide)
theorem sh_8 (x : Int32) : (x >>> (8 : Int32)) &&& 255 = byt x 8 := by
  refine Int32.toBitVec_inj.mp ?_
  exact sh_bv x.toBitVec 8 (by decide)
theorem sh_16 (x : Int32) : (x >>> (16 : Int32)) &&& 255 = byt x 16 := by
  refine Int32.toBitVec_inj.mp ?_
  exact sh_bv x.toBitVec 16 (by decide)
theorem sh_24 (x : Int32) : (x >>> (24 : Int32)) &&& 255 = byt x 24 := by
  refine Int32.toBitVec_inj.mp ?_
  exact sh_bv x.toBitVec 24 (by decide)
/-! steps of feed -/
theorem fee_0 {L : Nat} {a b c x e : Int32} (z : mM) : feeB L a b c x e z 0 1 = va_up (z 1) (L + 0) (byt a 24) := by
  unfold feeB
  rw [if_neg (show ¬ (4 : Int32) ≤ nI 0 from by decide), up2_row (by decide), up2_r, show ((8 * (3 - (nI 0 - nI 0 / 4 * 4))) &&& 31 : Int32) = 24 from by decide, sh_24]
theorem fee_1 {L : Nat} {a b c x e : Int32} (z : mM) : feeB L a b c x e z 1 1 = va_up (z 1) (L + 1) (byt a 16) := by
  unfold feeB
  rw [if_neg (show ¬ (4 : Int32) ≤ nI 1 from by decide), up2_row (by decide), up2_r, show ((8 * (3 - (nI 1 - nI 1 / 4 * 4))) &&& 31 : Int32) = 16 from by decide, sh_16]
theorem fee_2 {L : Nat} {a b c x e : Int32} (z : mM) : feeB L a b c x e z 2 1 = va_up (z 1) (L + 2) (byt a 8) := by
  unfold feeB
  rw [if_neg (show ¬ (4 : Int32) ≤ nI 2 from by decide), up2_row (by decide), up2_r, show ((8 * (3 - (nI 2 - nI 2 / 4 * 4))) &&& 31 : Int32) = 8 from by decide, sh_8]
theorem fee_3 {L : Nat} {a b c x e : Int32} (z : mM) : feeB L a b c x e z 3 1 = va_up (z 1) (L + 3) (byt a 0) := by
  unfold feeB
  rw [if_neg (show ¬ (4 : Int32) ≤ nI 3 from by decide), up2_row (by decide), up2_r, show ((8 * (3 - (nI 3 - nI 3 / 4 * 4))) &&& 31 : Int32) = 0 from by decide, sh_0]
theorem fee_4 {L : Nat} {a b c x e : Int32} (z : mM) : feeB L a b c x e z 4 1 = va_up (z 1) (L + 4) (byt b 24) := by
  unfold feeB
  rw [if_pos (show (4 : Int32) ≤ nI 4 from by decide), if_neg (show ¬ (8 : Int32) ≤ nI 4 from by decide), up2_row (by decide), up2_r, show ((8 * (3 - (nI 4 - nI 4 / 4 * 4))) &&& 31 : Int32) = 24 from by decide, sh_24]
theorem fee_5 {L : Nat} {a b c x e : Int32} (z : mM) : feeB L a b c x e z 5 1 = va_up (z 1) (L + 5) (byt b 16) := by
  unfold feeB
  rw [if_pos (show (4 : Int32) ≤ nI 5 from by decide), if_neg (show ¬ (8 : Int32) ≤ nI 5 from by decide), up2_row (by decide), up2_r, show ((8 * (3 - (nI 5 - nI 5 / 4 * 4))) &&& 31 : Int32) = 16 from by decide, sh_16]
theorem fee_6 {L : Nat} {a b c x e : Int32} (z : mM) : feeB L a b c x e z 6 1 = va_up (z 1) (L + 6) (byt b 8) := by
  unfold feeB
  rw [if_pos (show (4 : Int32) ≤ nI 6 from by decide), if_neg (show ¬ (8 : Int32) ≤ nI 6 from by decide), up2_row (by decide), up2_r, show ((8 * (3 - (nI 6 - nI 6 / 4 * 4))) &&& 31 : Int32) = 8 from by decide, sh_8]
theorem fee_7 {L : Nat} {a b c x e : Int32} (z : mM) : feeB L a b c x e z 7 1 = va_up (z 1) (L + 7) (byt b 0) := by
  unfold feeB
  rw [if_pos (show (4 : Int32) ≤ nI 7 from by decide), if_neg (show ¬ (8 : Int32) ≤ nI 7 from by decide), up2_row (by decide), up2_r, show ((8 * (3 - (nI 7 - nI 7 / 4 * 4))) &&& 31 : Int32) = 0 from by decide, sh_0]
theorem fee_8 {L : Nat} {a b c x e : Int32} (z : mM) : feeB L a b c x e z 8 1 = va_up (z 1) (L + 8) (byt c 24) := by
  unfold feeB
  rw [if_pos (show (4 : Int32) ≤ nI 8 from by decide), if_pos (show (8 : Int32) ≤ nI 8 from by decide), if_neg (show ¬ (12 : Int32) ≤ nI 8 from by decide), up2_row (by decide), up2_r, show ((8 * (3 - (nI 8 - nI 8 / 4 * 4))) &&& 31 : Int32) = 24 from by decide, sh_24]
theorem fee_9 {L : Nat} {a b c x e : Int32} (z : mM) : feeB L a b c x e z 9 1 = va_up (z 1) (L + 9) (byt c 16) := by
  unfold feeB
  rw [if_pos (show (4 : Int32) ≤ nI 9 from by decide), if_pos (show (8 : Int32) ≤ nI 9 from by decide), if_neg (show ¬ (12 : Int32) ≤ nI 9 from by decide), up2_row (by decide), up2_r, show ((8 * (3 - (nI 9 - nI 9 / 4 * 4))) &&& 31 : Int32) = 16 from by decide, sh_16]
theorem fee_10 {L : Nat} {a b c x e : Int32} (z : mM) : feeB L a b c x e z 10 1 = va_up (z 1) (L + 10) (byt c 8) := by
  unfold feeB
  rw [if_pos (show (4 : Int32) ≤ nI 10 from by decide), if_pos (show (8 : Int32) ≤ nI 10 from by decide), if_neg (show ¬ (12 : Int32) ≤ nI 10 from by decide), up2_row (by decide), up2_r, show ((8 * (3 - (nI 10 - nI 10 / 4 * 4))) &&& 31 : Int32) = 8 from by decide, sh_8]
theorem fee_11 {L : Nat} {a b c x e : Int32} (z : mM) : feeB L a b c x e z 11 1 = va_up (z 1) (L + 11) (byt c 0) := by
  unfold feeB
  rw [if_pos (show (4 : Int32) ≤ nI 11 from by decide), if_pos (show (8 : Int32) ≤ nI 11 from by decide), if_neg (show ¬ (12 : Int32) ≤ nI 11 from by decide), up2_row (by decide), up2_r, show ((8 * (3 - (nI 11 - nI 11 / 4 * 4))) &&& 31 : Int32) = 0 from by decide, sh_0]
theorem fee_12 {L : Nat} {a b c x e : Int32} (z : mM) : feeB L a b c x e z 12 1 = va_up (z 1) (L + 12) (byt x 24) := by
  unfold feeB
  rw [if_pos (show (4 : Int32) ≤ nI 12 from by decide), if_pos (show (8 : Int32) ≤ nI 12 from by decide), if_pos (show (12 : Int32) ≤ nI 12 from by decide), if_neg (show ¬ (16 : Int32) ≤ nI 12 from by decide), up2_row (by decide), up2_r, show ((8 * (3 - (nI 12 - nI 12 / 4 * 4))) &&& 31 : Int32) = 24 from by decide, sh_24]
theorem fee_13 {L : Nat} {a b c x e : Int32} (z : mM) : feeB L a b c x e z 13 1 = va_up (z 1) (L + 13) (byt x 16) := by
  unfold feeB
  rw [if_pos (show (4 : Int32) ≤ nI 13 from by decide), if_pos (show (8 : Int32) ≤ nI 13 from by decide), if_pos (show (12 : Int32) ≤ nI 13 from by decide), if_neg (show ¬ (16 : Int32) ≤ nI 13 from by decide), up2_row (by decide), up2_r, show ((8 * (3 - (nI 13 - nI 13 / 4 * 4))) &&& 31 : Int32) = 16 from by decide, sh_16]
theorem fee_14 {L : Nat} {a b c x e : Int32} (z : mM) : feeB L a b c x e z 14 1 = va_up (z 1) (L + 14) (byt x 8) := by
  unfold feeB
  rw [if_pos (show (4 : Int32) ≤ nI 14 from by decide), if_pos (show (8 : Int32) ≤ nI 14 from by decide), if_pos (show (12 : Int32) ≤ nI 14 from by decide), if_neg (show ¬ (16 : Int32) ≤ nI 14 from by decide), up2_row (by decide), up2_r, show ((8 * (3 - (nI 14 - nI 14 / 4 * 4))) &&& 31 : Int32) = 8 from by decide, sh_8]
theorem fee_15 {L : Nat} {a b c x e : Int32} (z : mM) : feeB L a b c x e z 15 1 = va_up (z 1) (L + 15) (byt x 0) := by
  unfold feeB
  rw [if_pos (show (4 : Int32) ≤ nI 15 from by decide), if_pos (show (8 : Int32) ≤ nI 15 from by decide), if_pos (show (12 : Int32) ≤ nI 15 from by decide), if_neg (show ¬ (16 : Int32) ≤ nI 15 from by decide), up2_row (by decide), up2_r, show ((8 * (3 - (nI 15 - nI 15 / 4 * 4))) &&& 31 : Int32) = 0 from by decide, sh_0]
theorem fee_16 {L : Nat} {a b c x e : Int32} (z : mM) : feeB L a b c x e z 16 1 = va_up (z 1) (L + 16) (byt e 24) := by
  unfold feeB
  rw [if_pos (show (4 : Int32) ≤ nI 16 from by decide), if_pos (show (8 : Int32) ≤ nI 16 from by decide), if_pos (show (12 : Int32) ≤ nI 16 from by decide), if_pos (show (16 : Int32) ≤ nI 16 from by decide), up2_row (by decide), up2_r, show ((8 * (3 - (nI 16 - nI 16 / 4 * 4))) &&& 31 : Int32) = 24 from by decide, sh_24]
theorem fee_17 {L : Nat} {a b c x e : Int32} (z : mM) : feeB L a b c x e z 17 1 = va_up (z 1) (L + 17) (byt e 16) := by
  unfold feeB
  rw [if_pos (show (4 : Int32) ≤ nI 17 from by decide), if_pos (show (8 : Int32) ≤ nI 17 from by decide), if_pos (show (12 : Int32) ≤ nI 17 from by decide), if_pos (show (16 : Int32) ≤ nI 17 from by decide), up2_row (by decide), up2_r, show ((8 * (3 - (nI 17 - nI 17 / 4 * 4))) &&& 31 : Int32) = 16 from by decide, sh_16]
theorem fee_18 {L : Nat} {a b c x e : Int32} (z : mM) : feeB L a b c x e z 18 1 = va_up (z 1) (L + 18) (byt e 8) := by
  unfold feeB
  rw [if_pos (show (4 : Int32) ≤ nI 18 from by decide), if_pos (show (8 : Int32) ≤ nI 18 from by decide), if_pos (show (12 : Int32) ≤ nI 18 from by decide), if_pos (show (16 : Int32) ≤ nI 18 from by decide), up2_row (by decide), up2_r, show ((8 * (3 - (nI 18 - nI 18 / 4 * 4))) &&& 31 : Int32) = 8 from by decide, sh_8]
theorem fee_19 {L : Nat} {a b c x e : Int32} (z : mM) : feeB L a b c x e z 19 1 = va_up (z 1) (L + 19) (byt e 0) := by
  unfold feeB
  rw [if_pos (show (4 : Int32) ≤ nI 19 from by decide), if_pos (show (8 : Int32) ≤ nI 19 from by decide), if_pos (show (12 : Int32) ≤ nI 19 from by decide), if_pos (show (16 : Int32) ≤ nI 19 from by decide), up2_row (by decide), up2_r, show ((8 * (3 - (nI 19 - nI 19 / 4 * 4))) &&& 31 : Int32) = 0 from by decide, sh_0]
theorem fdS_4 {L : Nat} {a b c x e : Int32} {Z M : mM} (h : Z 4 = M 1) : fdS a b c x e L Z 4 = itN (feeB L a b c x e) M 20 1 := by
  rw [itN_s (feeB L a b c x e) M 19, fee_19, itN_s (feeB L a b c x e) M 18, fee_18, itN_s (feeB L a b c x e) M 17, fee_17, itN_s (feeB L a b c x e) M 16, fee_16, itN_s (feeB L a b c x e) M 15, fee_15, itN_s (feeB L a b c x e) M 14, fee_14, itN_s (feeB L a b c x e) M 13, fee_13, itN_s (feeB L a b c x e) M 12, fee_12, itN_s (feeB L a b c x e) M 11, fee_11, itN_s (feeB L a b c x e) M 10, fee_10, itN_s (feeB L a b c x e) M 9, fee_9, itN_s (feeB L a b c x e) M 8, fee_8, itN_s (feeB L a b c x e) M 7, fee_7, itN_s (feeB L a b c x e) M 6, fee_6, itN_s (feeB L a b c x e) M 5, fee_5, itN_s (feeB L a b c x e) M 4, fee_4, itN_s (feeB L a b c x e) M 3, fee_3, itN_s (feeB L a b c x e) M 2, fee_2, itN_s (feeB L a b c x e) M 1, fee_1, itN_s (feeB L a b c x e) M 0, fee_0]
  have hb : ∀ (y s : Int32) (k : Nat) (Y : mM), tkB y s k Y 4 = va_up (Y 4) k (byt y s) := fun y s k Y => by
    unfold tkB
    rw [up2_row (by decide), up2_r]
  unfold fdS tkS
  rw [hb, hb, hb, hb, hb, hb, hb, hb, hb, hb, hb, hb, hb, hb, hb, hb, hb, hb, hb, hb, h]
  rfl
