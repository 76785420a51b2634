/-! ===== class against reference: an engine seeks, goes, pours ===== -/
theorem apN_20 {w g a b : Nat} (hd : 1 ≤ w ∧ w ≤ 12 ∧ 1 ≤ g ∧ g ≤ 10) (ha : a < w * g) (hb : b < w * g) : apN w a b < 120 := by
  have q1 : a / w < g := Nat.div_lt_of_lt_mul ha
  have q2 : b / w < g := Nat.div_lt_of_lt_mul hb
  have q3 : a % w < w := Nat.mod_lt a hd.1
  have q4 : b % w < w := Nat.mod_lt b hd.1
  unfold apN
  generalize a / w = x1 at *
  generalize b / w = x2 at *
  generalize a % w = x3 at *
  generalize b % w = x4 at *
  omega
theorem bit_msk (x : Int32) {o : Nat} (ho : o < 9) : (x &&& (1 <<< (nI o &&& 31)) = 0) ↔ (x >>> (nI o &&& 31) &&& 1 = 0) := by
  rw [bit_at x ho]
  have hb : ∀ i, i < 32 → (x &&& (1 <<< (nI o &&& 31))).toBitVec.getLsbD i = (x.toBitVec.getLsbD i && decide (o = i)) := fun i hi => by
    rw [Int32.toBitVec_and, BitVec.getLsbD_and, bit_one2 o ho i hi]
  cases hx : x.toBitVec.getLsbD o with
  | true =>
    rw [if_pos rfl]
    refine ⟨fun z => ?_, fun z => absurd z (by decide)⟩
    have h1 := hb o (by omega)
    rw [hx, z, decide_eq_true rfl] at h1
    have h2 : (0 : Int32).toBitVec.getLsbD o = false := BitVec.getLsbD_zero
    rw [h2] at h1
    exact Bool.noConfusion h1
  | false =>
    rw [if_neg (fun z => Bool.noConfusion z)]
    refine ⟨fun _ => rfl, fun _ => Int32.toBitVec_inj.mp (BitVec.eq_of_getLsbD_eq (fun i hi => ?_))⟩
    rw [hb i hi]
    have h2 : (0 : Int32).toBitVec.getLsbD i = false := BitVec.getLsbD_zero
    rw [h2]
    by_cases e : o = i
    · subst e; rw [hx]; rfl
    · rw [decide_eq_false e, Bool.and_false]
theorem up2_2 (M : mM) (a k : Nat) (u v : Int32) : up2 (up2 M a k u) a k v = up2 M a k v := by
  funext x j
  unfold up2
  split <;> rfl
theorem near_e {X M : mM} {hp : Nat → Int32} {off : Int32} {w g e a : Nat} (hd : 1 ≤ w ∧ w ≤ 12 ∧ 1 ≤ g ∧ g ≤ 10) (ha : a < w * g) (ea : M 60 e = nI a) (h3 : ∀ c, c < w * g → X 3 c = M 53 c ∧ (M 53 c = 1 → ¬ M 34 c = 0)) (hbit : ∀ c, c < w * g → (hp c &&& off = 0 ↔ M 59 c >>> (M 41 e &&& 31) &&& 1 = 0)) : ∀ k, k ≤ w * g → itN (mneB w g e) (mne0 M e) k = up2 M 61 e (itN (neaB X hp w a off) (-1, 120) k).1 ∧ ((itN (neaB X hp w a off) (-1, 120) k) = (-1, 120) ∨ ∃ b, b < w * g ∧ M 53 b = 1 ∧ (itN (neaB X hp w a off) (-1, 120) k) = (nI b, nI (apN w a b))) := by
  have hn : w * g ≤ 120 := Nat.le_trans (Nat.mul_le_mul hd.2.1 hd.2.2.2) (by decide)
  intro k
  induction k with
  | zero => exact fun _ => ⟨rfl, Or.inl rfl⟩
  | succ k ih =>
    intro hk
    obtain ⟨i1, i2⟩ := ih (by omega)
    obtain ⟨x3, x34⟩ := h3 k (by omega)
    rw [itN_s, itN_s, i1]
    generalize itN (neaB X hp w a off) (-1, 120) k = p at i2 ⊢
    have hm : mneB w g e (up2 M 61 e p.1) k = (if M 53 k = 1 ∧ (¬ M 59 k >>> (M 41 e &&& 31) &&& 1 = 0) ∧ (p.1 = -1 ∨ ¬ nI (apN w a p.1.toNatClampNeg) ≤ nI (apN w a k)) then up2 M 61 e (nI k) else up2 M 61 e p.1) := by
      unfold mneB
      rw [show up2 M 61 e p.1 34 = M 34 from up2_row (by decide), show up2 M 61 e p.1 53 = M 53 from up2_row (by decide), show up2 M 61 e p.1 59 = M 59 from up2_row (by decide), show up2 M 61 e p.1 41 = M 41 from up2_row (by decide), show up2 M 61 e p.1 60 = M 60 from up2_row (by decide), up2_s, ea, nI_clamp (show a < 2147483648 by omega), nI_clamp (show k < 2147483648 by omega), up2_2]
      by_cases q3 : M 53 k = 1
      · rw [if_neg (x34 q3), if_pos q3]
        by_cases q9 : M 59 k >>> (M 41 e &&& 31) &&& 1 = 0
        · rw [if_pos q9, if_neg (fun z => z.2.1 q9)]
        · rw [if_neg q9]
          by_cases q1 : p.1 = -1
          · rw [if_pos q1, if_pos ⟨q3, q9, Or.inl q1⟩]
          · rw [if_neg q1]
            by_cases qa : nI (apN w a p.1.toNatClampNeg) ≤ nI (apN w a k)
            · rw [if_pos qa, if_neg (fun z => z.2.2.elim (fun y => q1 y) (fun y => y qa))]
            · rw [if_neg qa, if_pos ⟨q3, q9, Or.inr qa⟩]
      · rw [if_neg q3]
        have hno : ¬ (M 53 k = 1 ∧ (¬ M 59 k >>> (M 41 e &&& 31) &&& 1 = 0) ∧ (p.1 = -1 ∨ ¬ nI (apN w a p.1.toNatClampNeg) ≤ nI (apN w a k))) := fun z => q3 z.1
        rw [if_neg hno]
        split <;> rfl
    have hak := apN_20 hd ha (show k < w * g by omega)
    have hc : neaB X hp w a off p k = (if M 53 k = 1 ∧ (¬ M 59 k >>> (M 41 e &&& 31) &&& 1 = 0) ∧ (p.1 = -1 ∨ ¬ nI (apN w a p.1.toNatClampNeg) ≤ nI (apN w a k)) then (nI k, nI (apN w a k)) else p) := by
      have hlt : nI (apN w a k) < p.2 ↔ (p.1 = -1 ∨ ¬ nI (apN w a p.1.toNatClampNeg) ≤ nI (apN w a k)) := by
        rcases i2 with z | ⟨b, hb, -, z⟩
        · rw [z]
          refine ⟨fun _ => Or.inl rfl, fun _ => ?_⟩
          show nI (apN w a k) < 120
          rw [fa_lt, nI_toInt (by omega), show (120 : Int32).toInt = 120 from by decide]
          omega
        · rw [z]
          have hab := apN_20 hd ha hb
          show nI (apN w a k) < nI (apN w a b) ↔ (nI b = -1 ∨ ¬ nI (apN w a (nI b).toNatClampNeg) ≤ nI (apN w a k))
          rw [nI_clamp (by omega), fa_lt, fa_le, nI_toInt (by omega), nI_toInt (by omega)]
          refine ⟨fun y => Or.inr (by omega), fun y => ?_⟩
          rcases y with y | y
          · exact absurd y (nI_nm1 (by omega))
          · omega
      unfold neaB
      rw [x3]
      by_cases q : M 53 k = 1 ∧ (¬ hp k &&& off = 0) ∧ nI (apN w a k) < p.2
      · rw [if_pos q, if_pos ⟨q.1, fun y => q.2.1 ((hbit k (by omega)).mpr y), hlt.mp q.2.2⟩]
      · rw [if_neg q, if_neg (fun y => q ⟨y.1, fun u => y.2.1 ((hbit k (by omega)).mp u), hlt.mpr y.2.2⟩)]
    rw [hm, hc]
    by_cases q : M 53 k = 1 ∧ (¬ M 59 k >>> (M 41 e &&& 31) &&& 1 = 0) ∧ (p.1 = -1 ∨ ¬ nI (apN w a p.1.toNatClampNeg) ≤ nI (apN w a k))
    · rw [if_pos q, if_pos q]
      exact ⟨rfl, Or.inr ⟨k, by omega, q.1, rfl⟩⟩
    · rw [if_neg q, if_neg q]
      exact ⟨rfl, i2⟩
/-- pouring, row by row -/
theorem pou_X {X : mM} {e c : Nat} {wt t v : Int32} (hv : (if X 8 c = 0 then wt / 2 else wt) = v) : (∀ r, r ≠ 3 → r ≠ 4 → r ≠ 5 → r ≠ 11 → pouX X e c wt t r = X r) ∧ (∀ r k, k ≠ c → r ≠ 11 → pouX X e c wt t r k = X r k) ∧ (∀ k, k ≠ e → pouX X e c wt t 11 k = X 11 k) ∧ pouX X e c wt t 3 c = (if 0 < X 5 c - v then X 3 c else 0) ∧ pouX X e c wt t 4 c = (if 0 < X 5 c - v then X 4 c else 0) ∧ pouX X e c wt t 5 c = (if 0 < X 5 c - v then X 5 c - v else 0) ∧ pouX X e c wt t 11 e = (if X 11 e = -1 then t else X 11 e) := by
  subst hv
  generalize hu : X 5 c - (if X 8 c = 0 then wt / 2 else wt) = u
  have h2 : ∀ Z : mM, Z = (if X 11 e = -1 then up2 (up2 X 5 c u) 11 e t else up2 X 5 c u) → (∀ r, r ≠ 5 → r ≠ 11 → Z r = X r) ∧ (∀ k, k ≠ c → Z 5 k = X 5 k) ∧ Z 5 c = u ∧ (∀ k, k ≠ e → Z 11 k = X 11 k) ∧ Z 11 e = (if X 11 e = -1 then t else X 11 e) := fun Z hZ => by
    subst hZ
    by_cases q : X 11 e = -1
    · rw [if_pos q, if_pos q]
      exact ⟨fun r h5 h11 => (up2_row h11).trans (up2_row h5), fun k hk => (congrFun (up2_row (show 5 ≠ 11 by decide)) k).trans (up2_k _ _ hk), (congrFun (up2_row (show 5 ≠ 11 by decide)) c).trans (up2_s _ _ _ _), fun k hk => (up2_k _ _ hk).trans (congrFun (up2_row (show 11 ≠ 5 by decide)) k), up2_s _ _ _ _⟩
    · rw [if_neg q, if_neg q]
      exact ⟨fun r h5 _ => up2_row h5, fun k hk => up2_k _ _ hk, up2_s _ _ _ _, fun k _ => congrFun (up2_row (show 11 ≠ 5 by decide)) k, congrFun (up2_row (show 11 ≠ 5 by decide)) e⟩
  unfold pouX
  rw [hu]
  obtain ⟨z1, z2, z3, z4, z5⟩ := h2 _ rfl
  generalize (if X 11 e = -1 then up2 (up2 X 5 c u) 11 e t else up2 X 5 c u) = Z at z1 z2 z3 z4 z5 ⊢
  by_cases q : 0 < u
  · rw [if_pos q, if_pos q, if_pos q, if_pos q]
    refine ⟨fun r h3 h4 h5 h11 => z1 r h5 h11, fun r k hk h11 => ?_, z4, congrFun (z1 3 (by decide) (by decide)) c, congrFun (z1 4 (by decide) (by decide)) c, z3, z5⟩
    by_cases e5 : r = 5
    · subst e5; exact z2 k hk
    · exact congrFun (z1 r e5 h11) k
  · rw [if_neg q, if_neg q, if_neg q, if_neg q]
    refine ⟨fun r h3 h4 h5 h11 => (up2_row h5).trans ((up2_row h4).trans ((up2_row h3).trans (z1 r h5 h11))), fun r k hk h11 => ?_, fun k hk => ?_, ?_, ?_, up2_s _ _ _ _, ?_⟩
    · rw [up2_k _ _ hk, up2_k _ _ hk, up2_k _ _ hk]
      by_cases e5 : r = 5
      · subst e5; exact z2 k hk
      · exact congrFun (z1 r e5 h11) k
    · rw [up2_row (show 11 ≠ 5 by decide), up2_row (show 11 ≠ 4 by decide), up2_row (show 11 ≠ 3 by decide)]; exact z4 k hk
    · rw [up2_row (show 3 ≠ 5 by decide), up2_row (show 3 ≠ 4 by decide), up2_s]
    · rw [up2_row (show 4 ≠ 5 by decide), up2_s]
    · rw [up2_row (show 11 ≠ 5 by decide), up2_row (show 11 ≠ 4 by decide), up2_row (show 11 ≠ 3 by decide)]; exact z5
theorem pou_M {M : mM} {w g e c : Nat} {t v : Int32} (hv : mpoV M w g e c = v) : (∀ r k, k ≠ c → r ≠ 62 → mpoX M w g e c t r k = M r k) ∧ (∀ k, k ≠ e → mpoX M w g e c t 62 k = M 62 k) ∧ mpoX M w g e c t 53 c = (if 0 < M 55 c - v then M 53 c else 0) ∧ mpoX M w g e c t 54 c = (if 0 < M 55 c - v then M 54 c else 0) ∧ mpoX M w g e c t 55 c = (if 0 < M 55 c - v then M 55 c - v else 0) ∧ mpoX M w g e c t 62 e = (if M 62 e = -1 then t else M 62 e) := by
  subst hv
  have z1 : ∀ r, r ≠ 62 → mpoA M e t r = M r := fun r h2 => by
    unfold mpoA
    split
    · exact up2_row h2
    · rfl
  have z4 : ∀ k, k ≠ e → mpoA M e t 62 k = M 62 k := fun k hk => by
    unfold mpoA
    split
    · exact up2_k _ _ hk
    · rfl
  have z5 : mpoA M e t 62 e = (if M 62 e = -1 then t else M 62 e) := by
    unfold mpoA
    split
    · exact up2_s _ _ _ _
    · rfl
  unfold mpoX
  generalize M 55 c - mpoV M w g e c = u
  by_cases q : 0 < u
  · rw [if_pos q, if_pos q, if_pos q, if_pos q]
    refine ⟨fun r k hk h2 => (up2_k _ _ hk).trans (congrFun (z1 r h2) k), fun k hk => (congrFun (up2_row (show 62 ≠ 55 by decide)) k).trans (z4 k hk), ?_, ?_, up2_s _ _ _ _, ?_⟩
    · rw [up2_row (show 53 ≠ 55 by decide), z1 53 (by decide)]
    · rw [up2_row (show 54 ≠ 55 by decide), z1 54 (by decide)]
    · rw [up2_row (show 62 ≠ 55 by decide)]; exact z5
  · rw [if_neg q, if_neg q, if_neg q, if_neg q]
    refine ⟨fun r k hk h2 => ?_, fun k hk => ?_, ?_, up2_s _ _ _ _, ?_, ?_⟩
    · rw [up2_k _ _ hk, up2_k _ _ hk, up2_k _ _ hk, up2_k _ _ hk, z1 r h2]
    · rw [up2_row (show 62 ≠ 54 by decide), up2_row (show 62 ≠ 55 by decide), up2_row (show 62 ≠ 53 by decide), up2_row (show 62 ≠ 55 by decide)]; exact z4 k hk
    · rw [up2_row (show 53 ≠ 54 by decide), up2_row (show 53 ≠ 55 by decide), up2_s]
    · rw [up2_row (show 55 ≠ 54 by decide), up2_s]
    · rw [up2_row (show 62 ≠ 54 by decide), up2_row (show 62 ≠ 55 by decide), up2_row (show 62 ≠ 53 by decide), up2_row (show 62 ≠ 55 by decide)]; exact z5
theorem half_n : ∀ p, p ≤ 9 → nI p / 2 = nI (p / 2) := by decide
theorem sub_n {a b : Nat} (ha : a ≤ 9) (hb : b ≤ 9) (h : 0 < nI a - nI b) : ∃ k, k ≤ 9 ∧ nI a - nI b = nI k := by
  have hlt : b < a := by
    rcases Nat.lt_or_ge b a with q | q
    · exact q
    · rw [fa_lt, pk_sub_toInt (by omega) (by omega), ti_0] at h
      omega
  refine ⟨a - b, by omega, ?_⟩
  rw [show nI a = nI (b + (a - b)) by rw [show b + (a - b) = a by omega]]
  exact nI_off b (a - b)
theorem fX_pou {X M : mM} {w g n m e c p : Nat} {wt t : Int32} (hc : c < n) (he : e < m) (hW : X 8 c = zb (anyb (plN (M 35) w c) (w * g) = true)) (ep : wt = M 44 e) (hp : p ≤ 9) (ep2 : M 44 e = nI p) (I : fX X M n m) : fX (pouX X e c wt t) (mpoX M w g e c t) n m := by
  have hv : ∃ q, q ≤ 9 ∧ mpoV M w g e c = nI q ∧ (if X 8 c = 0 then wt / 2 else wt) = nI q := by
    unfold mpoV
    rw [ep, ep2, hW]
    by_cases q : anyb (plN (M 35) w c) (w * g) = true
    · rw [if_pos q, if_neg (fun z => zb_0.mp z q)]
      exact ⟨p, hp, rfl, rfl⟩
    · rw [if_neg q, if_pos (zb_0.mpr q), half_n p hp]
      exact ⟨p / 2, by omega, rfl, rfl⟩
  obtain ⟨v, hv9, v1, v2⟩ := hv
  obtain ⟨x1, x2, x3, x4, x5, x6, x7⟩ := pou_X (e := e) (t := t) v2
  obtain ⟨y1, y2, y3, y4, y5, y6⟩ := pou_M (t := t) v1
  have yr : ∀ r, r ≠ 53 → r ≠ 54 → r ≠ 55 → r ≠ 62 → mpoX M w g e c t r = M r := fun r h3 h4 h5 h2 => mpo_row M w g e c t h3 h4 h5 h2
  refine ⟨fun k hk => ?_, fun k hk => ?_⟩
  · by_cases q : k = c
    · subst q
      obtain ⟨a1, a3, a4, a5, a6, a7, b1, ⟨s, hs, b2⟩, b3⟩ := I.1 k hk
      unfold fC
      rw [x1 1 (by decide) (by decide) (by decide) (by decide), x1 6 (by decide) (by decide) (by decide) (by decide), x1 7 (by decide) (by decide) (by decide) (by decide), x4, x5, x6, y3, y4, y5, yr 34 (by decide) (by decide) (by decide) (by decide), yr 56 (by decide) (by decide) (by decide) (by decide), yr 57 (by decide) (by decide) (by decide) (by decide), a3, a4, a5]
      refine ⟨a1, rfl, rfl, rfl, a6, a7, ?_, ?_, ?_⟩
      · split
        · exact b1
        · exact fun z => absurd z (by decide)
      · by_cases z : 0 < M 55 k - nI v
        · rw [if_pos z, b2]
          rw [b2] at z
          exact sub_n hs hv9 z
        · rw [if_neg z]
          exact ⟨0, by decide, rfl⟩
      · by_cases z : 0 < M 55 k - nI v
        · rw [if_pos z, if_pos z]; exact b3
        · rw [if_neg z, if_neg z]
          exact fun _ => ⟨0, by decide, rfl⟩
    · exact fC_fr (fun r hr => x2 r k q (by omega)) (fun r hr => y1 r k q (by omega)) (I.1 k hk)
  · obtain ⟨c1, c2, c3⟩ := I.2 k hk
    unfold fE
    rw [x1 9 (by decide) (by decide) (by decide) (by decide), x1 10 (by decide) (by decide) (by decide) (by decide), yr 60 (by decide) (by decide) (by decide) (by decide), yr 61 (by decide) (by decide) (by decide) (by decide)]
    refine ⟨c1, c2, ?_⟩
    by_cases q : k = e
    · subst q
      rw [x7, y6, c3]
    · rw [x3 k q, y2 k q, c3]
