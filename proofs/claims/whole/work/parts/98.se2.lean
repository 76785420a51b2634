/-! ===== class against reference: sums; who lies beside whom ===== -/
def fs_m (f : Nat → Int32) : Nat → Int32
  | 0 => 0
  | n + 1 => fs_m f n + f n
theorem fs_m_s (f : Nat → Int32) (n : Nat) : fs_m f (n + 1) = fs_m f n + f n := rfl
theorem fs_m_0 {f : Nat → Int32} : ∀ n, (∀ j, j < n → f j = 0) → fs_m f n = 0
  | 0, _ => rfl
  | n + 1, h => by
    rw [fs_m_s, fs_m_0 n (fun j hj => h j (by omega)), h n (by omega)]
    rfl
theorem fs_m_ext {f g : Nat → Int32} : ∀ n, (∀ j, j < n → f j = g j) → fs_m f n = fs_m g n
  | 0, _ => rfl
  | n + 1, h => by rw [fs_m_s, fs_m_s, fs_m_ext n (fun j hj => h j (by omega)), h n (by omega)]
theorem fs_4 (a b x y : Int32) : a + b + (x + y) = a + x + (b + y) := by
  rw [Int32.add_assoc, Int32.add_assoc, ← Int32.add_assoc b x y, Int32.add_comm b x, Int32.add_assoc x b y]
theorem fs_m_add (f g : Nat → Int32) : ∀ n, fs_m (fun j => f j + g j) n = fs_m f n + fs_m g n
  | 0 => (Int32.add_zero 0).symm
  | n + 1 => by
    rw [fs_m_s, fs_m_s, fs_m_s, fs_m_add f g n]
    exact fs_4 _ _ _ _
theorem fs_m_swap (f : Nat → Nat → Int32) (m : Nat) : ∀ n, fs_m (fun a => fs_m (fun b => f a b) m) n = fs_m (fun b => fs_m (fun a => f a b) n) m
  | 0 => (fs_m_0 m (fun _ _ => rfl)).symm
  | n + 1 => by
    rw [fs_m_s, fs_m_swap f m n, ← fs_m_add]
    exact fs_m_ext m (fun _ _ => rfl)
theorem fs_m_one {f : Nat → Int32} {k : Nat} : ∀ n, k < n → (∀ j, j < n → j ≠ k → f j = 0) → fs_m f n = f k
  | 0, h, _ => absurd h (Nat.not_lt_zero k)
  | n + 1, h, h0 => by
    rw [fs_m_s]
    by_cases e : k = n
    · subst e
      rw [fs_m_0 k (fun j hj => h0 j (by omega) (by omega)), Int32.zero_add]
    · rw [fs_m_one n (by omega) (fun j hj hn => h0 j (by omega) hn), h0 n (by omega) (by omega), Int32.add_zero]
theorem rs_op : ∀ way, way < 8 → rs ((way + 4) % 8) = - rs way ∧ cs ((way + 4) % 8) = - cs way := by decide
theorem op_op : ∀ way, way < 8 → ((way + 4) % 8 + 4) % 8 = way ∧ (way + 4) % 8 < 8 := by decide
theorem nbo_op {w g c t way : Nat} (hc : c < w * g) (hw : way < 8) (h : nbo w g c way = some t) : nbo w g t ((way + 4) % 8) = some c := by
  have hrc : c / w < g := Nat.div_lt_of_lt_mul hc
  have w1 : 0 < w := by
    rcases Nat.eq_zero_or_pos w with q | q
    · subst q; rw [Nat.zero_mul] at hc; exact absurd hc (Nat.not_lt_zero c)
    · exact q
  have hcc : c % w < w := Nat.mod_lt c w1
  have ec : c = (c / w) * w + c % w := by rw [Nat.mul_comm]; exact (Nat.div_add_mod c w).symm
  obtain ⟨o1, o2⟩ := rs_op way hw
  unfold nbo at h ⊢
  rw [o1, o2]
  split at h
  · rename_i q
    have h := Option.some.inj h
    generalize hA : c / w = rA at *
    generalize hB : c % w = cB at *
    obtain ⟨q1, q2, q3, q4⟩ := q
    obtain ⟨r1, hr1⟩ := Int.eq_ofNat_of_zero_le q1
    obtain ⟨x1, hx1⟩ := Int.eq_ofNat_of_zero_le q3
    rw [hr1, hx1] at h
    have e : ((r1 : Int) * w + x1).toNat = r1 * w + x1 := by
      rw [← Int.natCast_mul, ← Int.natCast_add]
      exact Int.toNat_natCast _
    rw [e] at h
    have hx2 : x1 < w := by omega
    obtain ⟨d1, d2⟩ := rc_div (r := r1) hx2
    rw [← h, d1, d2]
    have e1 : (r1 : Int) + -rs way = (rA : Int) := by omega
    have e2 : (x1 : Int) + -cs way = (cB : Int) := by omega
    rw [e1, e2, if_pos ⟨by omega, by omega, by omega, by omega⟩]
    congr 1
    rw [← Int.natCast_mul, ← Int.natCast_add]
    refine (Int.toNat_natCast _).trans ?_
    exact ec.symm
  · cases h
theorem nbo_iff {w g c t way : Nat} (hc : c < w * g) (ht : t < w * g) (hw : way < 8) : nbo w g c way = some t ↔ nbo w g t ((way + 4) % 8) = some c := by
  refine ⟨nbo_op hc hw, fun h => ?_⟩
  obtain ⟨o1, o2⟩ := op_op way hw
  have := nbo_op ht o2 h
  rw [o1] at this
  exact this
def onb (o : Option Nat) (f : Nat → Int32) : Int32 := match o with
  | none => 0
  | some c => f c
/-- what comes to t from all cells by all ways: once by the cells, once by the ways -/
theorem fs_warm {w g t : Nat} (ht : t < w * g) (p : Nat → Prop) [DecidablePred p] (a : Nat → Nat → Int32) : fs_m (fun c => if p c then fs_m (fun way => if nbo w g c way = some t then a c way else 0) 8 else 0) (w * g) = fs_m (fun way => onb (nbo w g t ((way + 4) % 8)) (fun c => if p c then a c way else 0)) 8 := by
  have h1 : fs_m (fun c => if p c then fs_m (fun way => if nbo w g c way = some t then a c way else 0) 8 else 0) (w * g) = fs_m (fun c => fs_m (fun way => if p c ∧ nbo w g c way = some t then a c way else 0) 8) (w * g) := by
    refine fs_m_ext _ (fun c _ => ?_)
    by_cases q : p c
    · rw [if_pos q]
      refine fs_m_ext _ (fun way _ => ?_)
      by_cases q2 : nbo w g c way = some t
      · rw [if_pos q2, if_pos ⟨q, q2⟩]
      · rw [if_neg q2, if_neg (fun z => q2 z.2)]
    · rw [if_neg q]
      exact (fs_m_0 _ (fun way _ => if_neg (fun z => q z.1))).symm
  rw [h1, fs_m_swap (fun c way => if p c ∧ nbo w g c way = some t then a c way else 0) 8 (w * g)]
  refine fs_m_ext _ (fun way hw => ?_)
  cases hq : nbo w g t ((way + 4) % 8) with
  | none =>
    refine fs_m_0 _ (fun c hc => if_neg (fun z => ?_))
    have := (nbo_iff hc ht hw).mp z.2
    rw [hq] at this
    cases this
  | some b =>
    have hb := nbo_lt hq
    rw [fs_m_one (k := b) (w * g) hb (fun c hc hne => if_neg (fun z => by
      have := (nbo_iff hc ht hw).mp z.2
      rw [hq] at this
      exact hne (Option.some.inj this).symm))]
    have hz : nbo w g b way = some t := (nbo_iff hb ht hw).mpr hq
    by_cases q : p b
    · rw [if_pos ⟨q, hz⟩]
      exact (if_pos q).symm
    · rw [if_neg (fun z => q z.1)]
      exact (if_neg q).symm
