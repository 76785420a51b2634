/-! ===== class against reference: what a statement is asked about ===== -/
theorem mh_beh {M : mM} {s : Nat} {o c : Int32} : ∀ d, anyb (mhB M s o c) (s + d) = anyb (mhB M s o c) s
  | 0 => rfl
  | d + 1 => by
    show (anyb (mhB M s o c) (s + d) || mhB M s o c (s + d)) = _
    rw [mh_beh d, show mhB M s o c (s + d) = false from by
      unfold mhB
      rw [show decide (poP M s (s + d + 1)) = false from decide_eq_false (fun z => absurd z.2.1 (by omega))]
      rfl, Bool.or_false]
theorem mp_beh {M : mM} {s : Nat} {c : Int32} : ∀ d, fa_cnt (mpB M s c) (s + d) = fa_cnt (mpB M s c) s
  | 0 => rfl
  | d + 1 => by
    rw [show s + (d + 1) = s + d + 1 from rfl, fa_cnt_no (show mpB M s c (s + d) = false from by
      unfold mpB
      rw [show decide (poP M s (s + d + 1)) = false from decide_eq_false (fun z => absurd z.2.1 (by omega))]
      rfl), mp_beh d]
theorem mh_fr {M M1 : mM} {s : Nat} {o c : Int32} (e : ∀ r, r ≠ 0 → M1 r = M r) : mhB M1 s o c = mhB M s o c := by
  funext i
  unfold mhB
  simp only [poP, knP, e 47 (by decide), e 48 (by decide), e 49 (by decide), e 51 (by decide)]
theorem vbd_nI {k : Nat} (h : k ≤ 1000000000) : vbd (nI k) := ⟨by rw [nI_toInt (by omega)]; omega, by rw [nI_toInt (by omega)]; omega⟩
theorem ask_opV {h : hp_T} {M M1 : mM} {w g n s c : Nat} {sum oth loss : Int32} (R : rC (hp_i h) M w g) (B : bC M) (A : rA (hp_i h) M w g n) (hs : s ≤ n) (hc : c < w * g) (v1 : vbd sum) (v2 : vbd oth) (v3 : vbd loss) (e0 : M1 0 72 = sum ∧ M1 0 73 = oth ∧ M1 0 74 = loss) (e1 : ∀ r, r ≠ 0 → M1 r = M r) : opV ((takS (goK h w g (kn h s) c) sum oth loss).1 7) ((takS (goK h w g (kn h s) c) sum oth loss).1 6 4) (mtV M1 n s w g c) := by
  have hn := cty_n R.1
  have hk := gk_P (R := hp_r h 162) A hs hn.2 (kS0 h) s (Nat.le_refl _)
  obtain ⟨-, -, a1, a2, a3, a4, -⟩ := R
  obtain ⟨k1, hk1, b1⟩ := B.1 c (by omega)
  obtain ⟨k2, hk2, b2⟩ := B.2.1 c (by omega)
  obtain ⟨k3, hk3, b3⟩ := B.2.2.1 c (by omega)
  have hcnt := fa_cnt_le (hsN (M 34) w g c) 8
  have q0 : (takS (goK h w g (kn h s) c) sum oth loss).1 7 0 = hp_i h 3 c := rfl
  have q1 : (takS (goK h w g (kn h s) c) sum oth loss).1 7 1 = hp_i h 4 c := rfl
  have q2 : (takS (goK h w g (kn h s) c) sum oth loss).1 7 2 = hp_i h 5 c := rfl
  have q3 : (takS (goK h w g (kn h s) c) sum oth loss).1 7 3 = sum := rfl
  have q4 : (takS (goK h w g (kn h s) c) sum oth loss).1 7 4 = loss := rfl
  have q5 : (takS (goK h w g (kn h s) c) sum oth loss).1 7 5 = oth := rfl
  have q6 : (takS (goK h w g (kn h s) c) sum oth loss).1 7 6 = nI (fa_cnt (hsN (hp_i h 2) w g c) 8) := rfl
  have q7 : (takS (goK h w g (kn h s) c) sum oth loss).1 6 4 = (kn h s).1 3 c := rfl
  rw [a2] at q0
  rw [a3] at q1
  rw [a4] at q2
  rw [a1] at q6
  refine opV_of (q0.trans (by rw [e1 31 (by decide)])) (q1.trans (by rw [e1 32 (by decide)])) (q2.trans (by rw [e1 33 (by decide)])) (q3.trans e0.1.symm) (q4.trans e0.2.2.symm) (q5.trans e0.2.1.symm) (q6.trans (by rw [e1 34 (by decide)])) (fun k hk7 => ?_) (fun o h8 => ?_)
  · rcases (show k = 0 ∨ k = 1 ∨ k = 2 ∨ k = 3 ∨ k = 4 ∨ k = 5 ∨ k = 6 by omega) with e | e | e | e | e | e | e <;> subst e
    · rw [q0, b1]; exact vbd_nI (by omega)
    · rw [q1, b2]; exact vbd_nI (by omega)
    · rw [q2, b3]; exact vbd_nI (by omega)
    · rw [q3]; exact v1
    · rw [q4]; exact v3
    · rw [q5]; exact v2
    · rw [q6]; exact vbd_nI (by omega)
  · have h3 : (kn h s).1 3 c = itN (mskB M s c) 0 s := hk.2.1 c (by omega)
    obtain ⟨d, rfl⟩ : ∃ d, n = s + d := ⟨n - s, by omega⟩
    rw [q7, h3, bit_at _ (by omega), msk_bit A hs (by omega) s (Nat.le_refl _), mh_fr e1, mh_beh d]
