/-! ===== class against reference: helps agrees ===== -/
theorem bit_one2 : ∀ p, p < 9 → ∀ i, i < 32 → ((1 : Int32) <<< (nI p &&& 31)).toBitVec.getLsbD i = decide (p = i) := by decide
theorem msk_hi {F M : mM} {w g n s c : Nat} (A : rA F M w g n) (hs : s ≤ n) {i : Nat} (h9 : 9 ≤ i) (hi : i < 32) : ∀ k, k ≤ s → (itN (mskB M s c) 0 k).toBitVec.getLsbD i = false := by
  intro k
  induction k with
  | zero => exact fun _ => BitVec.getLsbD_zero
  | succ k ih =>
    intro hk
    have h1 := ih (by omega)
    have Q := A.2.2 (k + 1) (by omega) (by omega)
    rw [itN_s]
    by_cases q : mpB M s (nI c) k = true
    · have hp : poP M s (k + 1) := by
        unfold mpB at q
        rw [Bool.and_eq_true] at q
        exact of_decide_eq_true q.1
      obtain ⟨-, p, hp8, ep⟩ := Q.2.2.2.2.1 (by rw [hp.1]; decide)
      rw [show mskB M s c (itN (mskB M s c) 0 k) k = itN (mskB M s c) 0 k ||| (1 <<< (M 48 (k + 1) &&& 31)) from if_pos q, Int32.toBitVec_or, BitVec.getLsbD_or, h1, ep, bit_one2 p (by omega) i hi, decide_eq_false (show ¬ p = i by omega)]
      rfl
    · rw [show mskB M s c (itN (mskB M s c) 0 k) k = itN (mskB M s c) 0 k from if_neg q]
      exact h1
theorem bit_add {x : Int32} {b : Bool} {k i : Nat} (hk : k < 9) (hi : i < 32) : (if b = true then x ||| (1 <<< (nI k &&& 31)) else x).toBitVec.getLsbD i = (x.toBitVec.getLsbD i || (decide (k = i) && b)) := by
  cases b
  · rw [Bool.and_false, Bool.or_false]; rfl
  · rw [if_pos rfl, Int32.toBitVec_or, BitVec.getLsbD_or, bit_one2 k hk i hi, Bool.and_true]
theorem hep_inv {h : hp_T} {M : mM} {w g n s c : Nat} {W : tW} (R : rC (hp_i h) M w g) (Bd : bC M) (A : rA (hp_i h) M w g n) (hs : s ≤ n) (B : rT h M n) (hc : c < w * g) : ∀ k, k ≤ 9 → (∀ r, r ≠ 0 → (hepS n s w g c (M, W) k).2.1 r = M r) ∧ ∀ i, i < 32 → (i < k → (hlS h w g (kn h s) c k).1.toBitVec.getLsbD i = (hepS n s w g c (M, W) k).1.toBitVec.getLsbD i) ∧ (k ≤ i → (hepS n s w g c (M, W) k).1.toBitVec.getLsbD i = false ∧ (hlS h w g (kn h s) c k).1.toBitVec.getLsbD i = (itN (mskB M s c) 0 s).toBitVec.getLsbD i) := by
  have hcy := cty_n R.1
  have hk3 := (gk_P (R := hp_r h 162) A hs hcy.2 (kS0 h) s (Nat.le_refl _)).2.1 c (by omega)
  intro k
  induction k with
  | zero =>
    intro _
    refine ⟨fun _ _ => rfl, fun i hi => ⟨fun z => absurd z (Nat.not_lt_zero i), fun _ => ⟨BitVec.getLsbD_zero, ?_⟩⟩⟩
    show ((kn h s).1 3 c).toBitVec.getLsbD i = _
    exact congrArg (fun y : Int32 => y.toBitVec.getLsbD i) hk3
  | succ k ih =>
    intro hk
    obtain ⟨i1, i2⟩ := ih (by omega)
    rw [show hepS n s w g c (M, W) (k + 1) = hepB n s w g c (hepS n s w g c (M, W) k) k from itN_s _ _ _, show hlS h w g (kn h s) c (k + 1) = hlB h (hlS0 h w g (kn h s) c) (hlS h w g (kn h s) c k) k from itN_s _ _ _]
    generalize hepS n s w g c (M, W) k = y at i1 i2 ⊢
    generalize hlS h w g (kn h s) c k = x at i2 ⊢
    have hq := hat_eq (z := y.2) x.2 R Bd A hs B hc (show k < 9 by omega) i1 (by
      have e : mpB y.2.1 s (nI c) = mpB M s (nI c) := by
        funext j
        unfold mpB
        simp only [poP, knP, i1 47 (by decide), i1 49 (by decide), i1 51 (by decide)]
      rw [e])
    have hm : (itN (mskB M s c) 0 s).toBitVec.getLsbD k = anyb (mhB M s (nI k) (nI c)) n := by
      obtain ⟨d, rfl⟩ : ∃ d, n = s + d := ⟨n - s, by omega⟩
      rw [msk_bit A hs (show k < 9 by omega) s (Nat.le_refl _), mh_beh d]
    refine ⟨hq.2, fun i hi => ?_⟩
    unfold hepB hlB
    dsimp only
    rw [bit_add (show k < 9 by omega) hi, bit_add (show k < 9 by omega) hi, hq.1]
    obtain ⟨j1, j2⟩ := i2 i hi
    refine ⟨fun hlt => ?_, fun hge => ?_⟩
    · by_cases e : k = i
      · subst e
        obtain ⟨j3, j4⟩ := j2 (Nat.le_refl _)
        rw [j3, j4, hm, decide_eq_true rfl, Bool.true_and, Bool.true_and, Bool.false_or]
        rfl
      · rw [decide_eq_false e, Bool.false_and, Bool.false_and, Bool.or_false, Bool.or_false]
        exact j1 (by omega)
    · rw [decide_eq_false (show ¬ k = i by omega), Bool.false_and, Bool.false_and, Bool.or_false, Bool.or_false]
      exact j2 (by omega)
theorem helps_eq {h : hp_T} {M : mM} {w g n s c : Nat} {W : tW} (R : rC (hp_i h) M w g) (Bd : bC M) (A : rA (hp_i h) M w g n) (hs : s ≤ n) (B : rT h M n) (hc : c < w * g) : (hlS h w g (kn h s) c 9).1 = (hepS n s w g c (M, W) 9).1 := by
  have hv := (hep_inv (W := W) R Bd A hs B hc 9 (Nat.le_refl _)).2
  refine Int32.toBitVec_inj.mp (BitVec.eq_of_getLsbD_eq (fun i hi => ?_))
  rcases Nat.lt_or_ge i 9 with q | q
  · exact (hv i hi).1 q
  · obtain ⟨e1, e2⟩ := (hv i hi).2 q
    rw [e1, e2]
    exact msk_hi A hs q hi s (Nat.le_refl _)
