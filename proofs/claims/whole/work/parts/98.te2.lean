/-! ===== the class's readers: what they write fits together ===== -/
def tyI (Z : rZ) (a c l : Nat) : Prop := Z 0 13 = nI a ∧ Z 0 12 = nI c ∧ a ≤ c ∧ c ≤ 600 ∧ Z 0 4 = nI l ∧ l ≤ a
def tyR (Z Y : rZ) (a c l e : Nat) (P : (Nat → Int32) → Nat → Prop) : Prop := ∃ a' m, tyI Y a' c (l + m) ∧ l ≤ a ∧ a + m + e ≤ a' ∧ Y 0 2 = Z 0 2 ∧ (∀ i, i < l → Y 1 i = Z 1 i) ∧ ∀ y : Nat → Int32, (∀ j, j < m → cdR (y (l + j)) (Y 1 (l + j))) → P y m
def tyV (l d : Nat) (t : Bool) (y : Nat → Int32) (m : Nat) : Prop := ∀ T : tyW, T.1 + d ≤ 64 → psh y l m T t
def tyV2 (l d1 d2 : Nat) (b : Bool) (y : Nat → Int32) (k : Nat) : Prop := ∃ m n, k = m + n ∧ tyV l d1 b y m ∧ tyV (l + m) d2 b y n
def tyP (r : rZ → Bool × rZ) (d : Nat) (t : Bool) : Prop := ∀ Z a c l, tyI Z a c l → (r Z).1 = true → tyR Z (r Z).2 a c l 0 (tyV l d t)
theorem ty_0 {Z : rZ} {a c l : Nat} (I : tyI Z a c l) : tyR Z Z a c l 0 (fun _ m => m = 0) := ⟨a, 0, I, I.2.2.2.2.2, Nat.le_refl _, rfl, fun _ _ => rfl, fun _ _ => rfl⟩
theorem ty_lt {Z : rZ} {a c l : Nat} (I : tyI Z a c l) (h : ¬ rtok Z = 24) : a < c := by
  obtain ⟨h1, h3, h2, h4, h5, h6⟩ := I
  rcases Nat.lt_or_ge a c with q | q
  · exact q
  · refine absurd ?_ h
    unfold rtok
    rw [h1, h3]
    exact if_neg (nI_nlt q (by omega))
theorem ty_nxt {Z Y : rZ} {a c l e : Nat} {P : (Nat → Int32) → Nat → Prop} (R : tyR Z Y a c l e P) (h : ¬ rtok Y = 24) : tyR Z (rnxt Y) a c l (e + 1) P := by
  obtain ⟨a', m, I, hl, r2, rp, r3, r4⟩ := R
  have hlt := ty_lt I h
  obtain ⟨i1, i2, i3, i4, i5, i6⟩ := I
  refine ⟨a' + 1, m, ⟨?_, i2, hlt, i4, i5, by omega⟩, hl, by omega, rp, r3, r4⟩
  unfold rnxt
  rw [up2_s, i1, nI_1]
theorem remi_2 (Z : rZ) (t n : Int32) : remi Z t n 0 2 = Z 0 2 := by
  unfold remi
  split
  · rw [up2_k _ _ (show 2 ≠ 4 by decide), up2_a _ _ (show 0 ≠ 1 by decide)]
  · rfl
theorem ty_emi {Z Y : rZ} {a c l e : Nat} {P P2 : (Nat → Int32) → Nat → Prop} {tk n : Int32} (R : tyR Z Y a c l (e + 1) P) (hP : ∀ (y : Nat → Int32) (k : Nat), P y k → cdR (y (l + k)) (tk + n <<< (7 &&& 31)) → P2 y (k + 1)) : tyR Z (remi Y tk n) a c l e P2 := by
  obtain ⟨a', m, ⟨i1, i2, i3, i4, i5, i6⟩, hl, r2, rp, r3, r4⟩ := R
  obtain ⟨e1, e2, e3, -, e5⟩ := emi_at (tx := fun _ => 0) (L := 0) (t := tk) (n := n) i5 (show l + m < 600 by omega)
  have f := frZ_e (Z := Y) (t := tk) (n := n)
  refine ⟨a', m + 1, ⟨e5.trans i1, (f.2 12 (by decide) (by decide) (by decide) (by decide)).trans i2, i3, i4, e1, by omega⟩, hl, by omega, (remi_2 Y tk n).trans rp, fun i hi => (e3 i (by omega)).trans (r3 i hi), fun y hy => ?_⟩
  refine hP y m (r4 y (fun j hj => ?_)) ?_
  · have h := hy j (by omega)
    rw [e3 (l + j) (by omega)] at h
    exact h
  · have h := hy m (Nat.lt_succ_self m)
    rw [e2] at h
    exact h
theorem ty_run {Z Y : rZ} {a c l e d : Nat} {t : Bool} {P P2 : (Nat → Int32) → Nat → Prop} {r : rZ → Bool × rZ} (R : tyR Z Y a c l e P) (H : tyP r d t) (h : (r Y).1 = true) (hP : ∀ (y : Nat → Int32) (k n : Nat), P y k → tyV (l + k) d t y n → P2 y (k + n)) : tyR Z (r Y).2 a c l e P2 := by
  obtain ⟨a', m, i, hl, r2, rp, r3, r4⟩ := R
  obtain ⟨a2, n, j, hl2, s2, sp, s3, s4⟩ := H Y a' c (l + m) i h
  refine ⟨a2, m + n, by rw [← Nat.add_assoc]; exact j, hl, by omega, sp.trans rp, fun k hk => (s3 k (by omega)).trans (r3 k hk), fun y hy => hP y m n (r4 y (fun k hk => ?_)) (s4 y (fun k hk => ?_))⟩
  · have g := hy k (by omega)
    rw [s3 (l + k) (by omega)] at g
    exact g
  · have g := hy (m + k) (by omega)
    rw [← Nat.add_assoc] at g
    exact g
theorem ty_P {Z Y : rZ} {a c l e : Nat} {P P2 : (Nat → Int32) → Nat → Prop} (R : tyR Z Y a c l e P) (h : ∀ y m, P y m → P2 y m) : tyR Z Y a c l e P2 := by
  obtain ⟨a', m, i, hl, r2, rp, r3, r4⟩ := R
  exact ⟨a', m, i, hl, r2, rp, r3, fun y hy => h y m (r4 y hy)⟩
theorem ty_e {Z Y : rZ} {a c l e : Nat} {P : (Nat → Int32) → Nat → Prop} (R : tyR Z Y a c l e P) : tyR Z Y a c l 0 P := by
  obtain ⟨a', m, i, hl, r2, rp, r3, r4⟩ := R
  exact ⟨a', m, i, hl, by omega, rp, r3, r4⟩
theorem tyV_le {l d D : Nat} {t : Bool} {y : Nat → Int32} {m : Nat} (h : tyV l d t y m) (hd : d ≤ D) : tyV l D t y m := fun T hT => h T (by omega)
theorem tyP_le {r : rZ → Bool × rZ} {d D : Nat} {t : Bool} (h : tyP r d t) (hd : d ≤ D) : tyP r D t := fun Z a c l I hr => ty_P (h Z a c l I hr) (fun _ _ v => tyV_le v hd)
theorem ty_two {l d1 d2 D k : Nat} {b t : Bool} {y : Nat → Int32} (h : tyV2 l d1 d2 b y k) (hj : jnY (y (l + k)) b t) (h1 : d1 ≤ D) (h2 : d2 + 1 ≤ D) : tyV l D t y (k + 1) := by
  obtain ⟨m, n, e, p1, p2⟩ := h
  subst e
  exact fun T hT => psh_join (p1 T (by omega)) (fun S hS => p2 S (by omega)) hj
theorem ty_op {Z Y : rZ} {a c l e D : Nat} {t : Bool} {tk n : Int32} (R : tyR Z Y a c l (e + 1) (fun _ m => m = 0)) (hD : 1 ≤ D) (hc : ∀ y, cdR y (tk + n <<< (7 &&& 31)) → opd y ∧ decide ((100 ≤ y ∧ y < 1000) ∨ y = 17) = t) : tyR Z (remi Y tk n) a c l e (tyV l D t) := by
  refine ty_emi R (fun y k hk h => ?_)
  subst hk
  obtain ⟨q1, q2⟩ := hc _ h
  exact fun T hT => psh_op (l := l) q1 q2 (by omega)
theorem rbd_i {r : Bool × rZ} {k : rZ → Bool × rZ} (h : (rbd r k).1 = true) : r.1 = true ∧ (k r.2).1 = true ∧ (rbd r k).2 = (k r.2).2 := by
  unfold rbd at h ⊢
  by_cases q : r.1 = true
  · rw [if_pos q] at h ⊢
    exact ⟨q, h, rfl⟩
  · rw [if_neg q] at h
    exact Bool.noConfusion h
theorem rpas_i {Z : rZ} {t : Int32} (h : (rpas Z t).1 = true) : rtok Z = t ∧ (rpas Z t).2 = rnxt Z := by
  unfold rpas at h ⊢
  by_cases q : rtok Z = t
  · rw [if_pos q]
    exact ⟨q, rfl⟩
  · rw [if_neg q] at h
    exact Bool.noConfusion h
theorem rent_i {Z : rZ} {t o : Int32} (h : (rent Z t o).1 = true) : rtok Z = t ∧ (rent Z t o).2 = rnxt Z := by
  unfold rent at h ⊢
  by_cases q : rtok Z = t
  · rw [if_pos q] at h ⊢
    by_cases q2 : o < 6
    · rw [if_pos q2]
      exact ⟨q, rfl⟩
    · rw [if_neg q2] at h
      exact Bool.noConfusion h
  · rw [if_neg q] at h
    exact Bool.noConfusion h
theorem rnum_i {Z : rZ} {u m : Int32} (h : (rnum Z u m).1 = true) : rtok Z = 23 ∧ (rnum Z u m).2 = remi (rnxt Z) u (rval Z) := by
  unfold rnum at h ⊢
  by_cases q : rtok Z = 23 ∧ rval Z = -1
  · rw [if_pos q] at h
    exact Bool.noConfusion h
  · rw [if_neg q] at h ⊢
    by_cases q2 : rtok Z = 23 ∧ m < rval Z
    · rw [if_pos q2] at h
      exact Bool.noConfusion h
    · rw [if_neg q2] at h ⊢
      obtain ⟨h1, h2, h3⟩ := rbd_i h
      obtain ⟨g1, g2⟩ := rpas_i h1
      refine ⟨g1, ?_⟩
      rw [h3, g2]
theorem shl_0 (t : Int32) : t + (0 : Int32) <<< ((7 : Int32) &&& 31) = t := by
  rw [show (0 : Int32) <<< ((7 : Int32) &&& 31) = 0 from by decide, Int32.add_zero]
theorem and_bv (u : Nat) (hu : u < 128) (x : BitVec 32) : (BitVec.ofNat 32 u + x * 128#32) &&& 127#32 = BitVec.ofNat 32 u := by
  apply BitVec.eq_of_toNat_eq
  rw [BitVec.toNat_and, BitVec.toNat_add, BitVec.toNat_mul, BitVec.toNat_ofNat, BitVec.toNat_ofNat, BitVec.toNat_ofNat]
  rw [show 127 % 2 ^ 32 = 2 ^ 7 - 1 from by decide, Nat.and_two_pow_sub_one_eq_mod]
  omega
theorem and_7 {u : Nat} (hu : u < 128) (v : Int32) : (nI u + v <<< ((7 : Int32) &&& 31)) &&& 127 = nI u := by
  have h : v <<< ((7 : Int32) &&& 31) = v * 128 := Int32.toBitVec_inj.mp (shl_bv v.toBitVec)
  rw [h]
  exact Int32.toBitVec_inj.mp (and_bv u hu v.toBitVec)
theorem cd_le {y x : Int32} (h : cdR y x) (h6 : x ≤ 6) : opd y ∧ decide ((100 ≤ y ∧ y < 1000) ∨ y = 17) = false := by
  have big : ∀ n : Nat, 6 < n → n < 2147483648 → ¬ nI n ≤ 6 := fun n h1 h2 z => by
    rw [show (6 : Int32) = nI 6 from rfl, nI_leq (by omega) (by omega)] at z
    omega
  unfold cdR at h
  rcases h with ⟨v, hv, ey, ex⟩ | ⟨o, h8, ey, ex⟩ | ⟨ey, ex⟩ | ⟨ey, ex⟩ | ⟨ey, ex⟩ | ⟨ey, ex⟩ | ⟨ey, ex⟩ | ⟨ey, ex⟩ | ⟨ey, ex⟩ | ⟨ey, ex⟩ | ⟨ey, ex⟩ | ⟨ey, ex⟩ | ⟨ey, ex⟩ | ⟨ey, ex⟩ | ⟨ey, ex⟩ | ⟨ey, ex⟩ | ⟨ey, ex⟩ | ⟨ey, ex⟩ | ⟨ey, ex⟩ | ⟨ey, ex⟩ | ⟨ey, ex⟩ | ⟨ey, ex⟩
  · exact absurd h6 (by rw [ex]; exact big _ (by omega) (by omega))
  · exact absurd h6 (by rw [ex]; exact big _ (by omega) (by omega))
  · rw [ey]; decide
  · rw [ey]; decide
  · rw [ey]; decide
  · rw [ey]; decide
  · rw [ey]; decide
  · rw [ey]; decide
  · rw [ey]; decide
  all_goals exact absurd h6 (by rw [ex]; decide)
