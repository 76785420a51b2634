/-! ===== class against reference: the text told ===== -/
theorem byt_lt (x s : Int32) : ∃ q, q < 256 ∧ byt x s = nI q := by
  unfold byt
  generalize (x.toUInt32 >>> (s.toUInt32 &&& Int32.toUInt32 31)).toInt32 = y
  have h1 : (y.toBitVec &&& 255#32).toNat < 256 := by
    rw [BitVec.toNat_and]
    exact Nat.lt_of_le_of_lt Nat.and_le_right (by decide)
  refine ⟨(y.toBitVec &&& 255#32).toNat, h1, Int32.toBitVec_inj.mp ?_⟩
  show y.toBitVec &&& 255#32 = BitVec.ofNat 32 (y.toBitVec &&& 255#32).toNat
  rw [BitVec.ofNat_toNat]
  rfl
/-- the text told, its length; where the last reading failed -/
def rR (F M : mM) (L : Nat) : Prop := (F 150 0 = nI L ∧ M 0 1 = nI L ∧ L ≤ 600) ∧ F 154 = M 1 ∧ (∀ i, i < L → ∃ q, q < 256 ∧ M 1 i = nI q) ∧ (F 150 1 = M 0 7 ∧ F 150 2 = M 0 8) ∧ PI M
theorem rR_fr {F F1 M M1 : mM} {L : Nat} (e : F1 150 = F 150 ∧ F1 154 = F 154) (e0 : ∀ k, k = 1 ∨ k = 2 ∨ k = 7 ∨ k = 8 ∨ k = 37 ∨ k = 39 ∨ k = 41 → M1 0 k = M 0 k) (e2 : M1 1 = M 1) (R : rR F M L) : rR F1 M1 L := by
  unfold rR PI
  rw [e.1, e.2, e0 1 (by decide), e0 2 (by decide), e0 7 (by decide), e0 8 (by decide), e0 37 (by decide), e0 39 (by decide), e0 41 (by decide), e2]
  exact R
theorem rR_end {F M : mM} {L K : Nat} (hK : K ≤ L) (R : rR F M L) : rR (up2 F 150 0 (nI K)) (up2 M 0 1 (nI K)) K := by
  obtain ⟨⟨a1, a2, a3⟩, b, c, ⟨d1, d2⟩, p1, p2, p3, p4, hp⟩ := R
  refine ⟨⟨up2_s _ _ _ _, up2_s _ _ _ _, by omega⟩, ?_, fun i hi => ?_, ⟨?_, ?_⟩, p1, p2, p3, p4, ?_⟩
  · rw [up2_row (by decide), up2_row (by decide)]; exact b
  · rw [up2_a _ _ (by decide)]; exact c i (by omega)
  · rw [up2_k _ _ (by decide), up2_k _ _ (by decide)]; exact d1
  · rw [up2_k _ _ (by decide), up2_k _ _ (by decide)]; exact d2
  · rw [up2_k _ _ (by decide), up2_k _ _ (by decide), up2_k _ _ (by decide), up2_k _ _ (by decide)]; exact hp
theorem fee_row {L : Nat} {a b c x e : Int32} (z : mM) (j : Nat) : (∀ r, r ≠ 0 → r ≠ 1 → feeB L a b c x e z j r = z r) ∧ ∀ k, k ≠ 1 → feeB L a b c x e z j 0 k = z 0 k := by
  have go : ∀ v w : Int32, (∀ r, r ≠ 0 → r ≠ 1 → up2 (up2 z 1 (L + j) v) 0 1 w r = z r) ∧ ∀ k, k ≠ 1 → up2 (up2 z 1 (L + j) v) 0 1 w 0 k = z 0 k := fun v w => ⟨fun r h0 h1 => (up2_row h0).trans (up2_row h1), fun k hk => (up2_k _ _ hk).trans (up2_a _ _ (by decide))⟩
  unfold feeB
  repeat' split
  all_goals exact go _ _
theorem fee_rows {L : Nat} {a b c x e : Int32} {M : mM} : ∀ n, (∀ r, r ≠ 0 → r ≠ 1 → itN (feeB L a b c x e) M n r = M r) ∧ ∀ k, k ≠ 1 → itN (feeB L a b c x e) M n 0 k = M 0 k
  | 0 => ⟨fun _ _ _ => rfl, fun _ _ => rfl⟩
  | n + 1 => ⟨fun r h0 h1 => ((fee_row _ n).1 r h0 h1).trans ((fee_rows n).1 r h0 h1), fun k hk => ((fee_row _ n).2 k hk).trans ((fee_rows n).2 k hk)⟩
theorem fds_0 {L : Nat} {a b c x e : Int32} {Z : mM} : fdS a b c x e L Z 0 0 = nI (L + 20) ∧ ∀ k, k ≠ 0 → fdS a b c x e L Z 0 k = Z 0 k := by
  have hb : ∀ (y s : Int32) (i : Nat) (Y : mM) (k : Nat), k ≠ 0 → tkB y s i Y 0 k = Y 0 k := fun y s i Y k hk => by
    unfold tkB
    rw [up2_k _ _ hk, up2_a _ _ (by decide)]
  refine ⟨tkS_0 e (L + 16) _, fun k hk => ?_⟩
  unfold fdS tkS
  repeat rw [hb _ _ _ _ _ hk]
theorem fds_byte {L : Nat} {a b c x e : Int32} {Z : mM} (hZ : ∀ i, i < L → ∃ q, q < 256 ∧ Z 4 i = nI q) : ∀ i, i < L + 20 → ∃ q, q < 256 ∧ fdS a b c x e L Z 4 i = nI q := by
  have hb : ∀ (y s : Int32) (k : Nat) (Y : mM), (∀ i, i < k → ∃ q, q < 256 ∧ Y 4 i = nI q) → ∀ i, i < k + 1 → ∃ q, q < 256 ∧ tkB y s k Y 4 i = nI q := fun y s k Y hY i hi => by
    unfold tkB
    rw [up2_row (by decide), up2_r]
    unfold va_up
    split
    · exact byt_lt y s
    · exact hY i (by omega)
  unfold fdS tkS
  exact hb _ _ _ _ (hb _ _ _ _ (hb _ _ _ _ (hb _ _ _ _ (hb _ _ _ _ (hb _ _ _ _ (hb _ _ _ _ (hb _ _ _ _ (hb _ _ _ _ (hb _ _ _ _ (hb _ _ _ _ (hb _ _ _ _ (hb _ _ _ _ (hb _ _ _ _ (hb _ _ _ _ (hb _ _ _ _ (hb _ _ _ _ (hb _ _ _ _ (hb _ _ _ _ (hb _ _ _ _ hZ)))))))))))))))))))
theorem rR_feed {F F1 M : mM} {L : Nat} {a b c x e : Int32} (hL : L + 20 ≤ 600) (h0 : F1 150 = fdS a b c x e L (fun o => F (150 + o)) 0) (h4 : F1 154 = fdS a b c x e L (fun o => F (150 + o)) 4) (R : rR F M L) : rR F1 (itN (feeB L a b c x e) M 20) (L + 20) := by
  obtain ⟨⟨a1, a2, a3⟩, b1, c1, ⟨d1, d2⟩, p1, p2, p3, p4, hp⟩ := R
  have e4 : fdS a b c x e L (fun o => F (150 + o)) 4 = itN (feeB L a b c x e) M 20 1 := fdS_4 b1
  have hr := fee_rows (L := L) (a := a) (b := b) (c := c) (x := x) (e := e) (M := M) 20
  refine ⟨⟨by rw [h0]; exact fds_0.1, fee_I a2 20, hL⟩, by rw [h4, e4], fun i hi => ?_, ⟨?_, ?_⟩, p1, p2, p3, p4, ?_⟩
  · rw [← e4]
    exact fds_byte (fun k hk => by show ∃ q, q < 256 ∧ F 154 k = nI q; rw [b1]; exact c1 k hk) i hi
  · rw [h0, fds_0.2 1 (by decide), hr.2 7 (by decide)]; exact d1
  · rw [h0, fds_0.2 2 (by decide), hr.2 8 (by decide)]; exact d2
  · rw [hr.2 2 (by decide), hr.2 37 (by decide), hr.2 39 (by decide), hr.2 41 (by decide)]; exact hp
