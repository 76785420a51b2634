/-! ===== the class's readers: types of rows, parts, facts ===== -/
theorem jn_23 {r : Nat} (hr : r = 2 ∨ r = 3) : ∀ t, rjn r t = true → ∀ y, cdR y (t + (0 : Int32) <<< ((7 : Int32) &&& 31)) → jnY y false false := by
  intro t h y hc
  rcases hr with e | e
  · subst e
    unfold rjn at h
    rw [if_neg (by decide), if_neg (by decide), if_pos rfl] at h
    rcases of_decide_eq_true h with q | q
    · rw [q] at hc
      exact cd_j (k := 43) hc (by decide) (by decide)
    · rw [q] at hc
      exact cd_j (k := 45) hc (by decide) (by decide)
  · subst e
    unfold rjn at h
    rw [if_neg (by decide), if_neg (by decide), if_neg (by decide)] at h
    rcases of_decide_eq_true h with q | q
    · rw [q] at hc
      exact cd_j (k := 42) hc (by decide) (by decide)
    · rw [q] at hc
      exact cd_j (k := 47) hc (by decide) (by decide)
theorem jn_01 {r : Nat} (hr : r = 0 ∨ r = 1) : ∀ t, rjn r t = true → ∀ y, cdR y (t + (0 : Int32) <<< ((7 : Int32) &&& 31)) → jnY y true true := by
  intro t h y hc
  rcases hr with e | e
  · subst e
    unfold rjn at h
    rw [if_pos rfl] at h
    rw [of_decide_eq_true h] at hc
    exact cd_b (k := 13) hc (by decide) (by decide)
  · subst e
    unfold rjn at h
    rw [if_neg (by decide), if_pos rfl] at h
    rw [of_decide_eq_true h] at hc
    exact cd_b (k := 12) hc (by decide) (by decide)
theorem ty_rwL {it : rZ → Bool × rZ} {r d : Nat} {b : Bool} (H : tyP it d b) (hj : ∀ t, rjn r t = true → ∀ y, cdR y (t + (0 : Int32) <<< ((7 : Int32) &&& 31)) → jnY y b b) {Z0 : rZ} {a c l : Nat} : ∀ n Z, tyR Z0 Z a c l 0 (tyV l (d + 1) b) → (rwL it r n Z).1 = true → tyR Z0 (rwL it r n Z).2 a c l 0 (tyV l (d + 1) b)
  | 0, Z, R, _ => R
  | n + 1, Z, R, h => by
    unfold rwL at h ⊢
    by_cases q : rjn r (rtok Z) = true
    · rw [if_pos q] at h ⊢
      obtain ⟨h1, h2, h3⟩ := rbd_i h
      rw [h3]
      refine ty_rwL H hj n _ ?_ h2
      have R1 := ty_nxt R (rjn_n q)
      have R2 := ty_run (P2 := tyV2 l (d + 1) d b) R1 H h1 (fun y k n p v => ⟨k, n, rfl, p, v⟩)
      exact ty_emi R2 (fun y k p hc => ty_two p (hj _ q _ hc) (Nat.le_refl _) (Nat.le_refl _))
    · rw [if_neg q]
      exact R
theorem ty_row {it : rZ → Bool × rZ} {r d : Nat} {b : Bool} (H : tyP it d b) (hj : ∀ t, rjn r t = true → ∀ y, cdR y (t + (0 : Int32) <<< ((7 : Int32) &&& 31)) → jnY y b b) : tyP (rowS it r) (d + 1) b := by
  intro Z a c l I h
  unfold rowS at h ⊢
  obtain ⟨h1, h2, h3⟩ := rbd_i h
  rw [h3]
  exact ty_rwL H hj 600 _ (ty_P (H Z a c l I h1) (fun y m v => tyV_le v (Nat.le_succ d))) h2
theorem ty_cmp {r2 : rZ → Bool × rZ} {d : Nat} (H : tyP r2 d false) : tyP (cmpS r2) (d + 1) true := by
  intro Z a c l I h
  unfold cmpS at h ⊢
  obtain ⟨h1, h2, h3⟩ := rbd_i h
  have R1 := H Z a c l I h1
  rw [h3]
  generalize (r2 Z).2 = Y at h2 R1 ⊢
  by_cases q : rtok Y = 60 ∨ rtok Y = 62 ∨ rtok Y = 61
  · rw [if_pos q] at h2 ⊢
    obtain ⟨p1, p2, p3⟩ := rbd_i h2
    rw [p3]
    obtain ⟨g1, g2⟩ := rpas_i p1
    rw [g2] at p2 ⊢
    obtain ⟨s1, s2, s3⟩ := rbd_i p2
    rw [s3]
    have R2 := ty_nxt R1 (by rcases q with q | q | q <;> (rw [q]; decide))
    have R3 := ty_run (P2 := tyV2 l d d false) R2 H s1 (fun y k n p v => ⟨k, n, rfl, p, v⟩)
    refine ty_emi R3 (fun y k p hc => ty_two p ?_ (Nat.le_succ d) (Nat.le_refl _))
    rcases q with q | q | q
    · rw [q] at hc
      exact cd_c (k := 60) hc (by decide) (by decide)
    · rw [q] at hc
      exact cd_c (k := 62) hc (by decide) (by decide)
    · rw [q] at hc
      exact cd_c (k := 61) hc (by decide) (by decide)
  · rw [if_neg q] at h2
    exact Bool.noConfusion h2
theorem ty_par {r2 : rZ → Bool × rZ} {o d : Nat} (ho : o ≤ 6) (H : o < 6 → tyP r2 d false) : tyP (parS r2 o) (d + 1) false := by
  intro Z a c l I h
  unfold parS at h ⊢
  by_cases q1 : rtok Z = 23
  · rw [if_pos q1] at h ⊢
    obtain ⟨-, g2⟩ := rnum_i h
    rw [g2]
    exact ty_op (ty_nxt (ty_0 I) (by rw [q1]; decide)) (Nat.le_add_left _ _) (fun y hc => cd_v (k := 23) hc (and_7 (u := 23) (by decide) _) (Or.inl rfl))
  · rw [if_neg q1] at h ⊢
    by_cases q2 : rtok Z ≤ 6
    · rw [if_pos q2] at h ⊢
      obtain ⟨h1, -, h3⟩ := rbd_i h
      obtain ⟨-, g2⟩ := rpas_i h1
      rw [h3, g2]
      refine ty_op (ty_nxt (ty_0 I) (fun z => ?_)) (Nat.le_add_left _ _) (fun y hc => ?_)
      · rw [z] at q2
        exact absurd q2 (by decide)
      · rw [shl_0] at hc
        exact cd_le hc q2
    · rw [if_neg q2] at h ⊢
      by_cases q3 : rtok Z = 7 ∨ rtok Z = 8
      · rw [if_pos q3] at h ⊢
        obtain ⟨a1, a2, a3⟩ := rbd_i h
        rw [a3]
        obtain ⟨-, b2⟩ := rpas_i a1
        rw [b2] at a2 ⊢
        have R1 := ty_nxt (ty_0 I) (by rcases q3 with q | q <;> (rw [q]; decide))
        obtain ⟨c1, c2, c3⟩ := rbd_i a2
        rw [c3]
        have o6 := rent_o ho c1
        obtain ⟨t2, d2⟩ := rent_i c1
        rw [d2] at c2 ⊢
        have R2 := ty_nxt R1 (by rw [t2]; decide)
        obtain ⟨e1, e2, e3⟩ := rbd_i c2
        rw [e3]
        have R3 := ty_run (P2 := tyV l d false) R2 (H o6) e1 (fun y k n p v => by subst p; rw [Nat.zero_add]; exact v)
        generalize (r2 (rnxt (rnxt Z))).2 = Y at e2 R3 ⊢
        obtain ⟨f1, f2, f3⟩ := rbd_i e2
        rw [f3]
        obtain ⟨t4, g4⟩ := rpas_i f1
        rw [g4] at f2 ⊢
        have R4 := ty_nxt R3 (by rw [t4]; decide)
        obtain ⟨h1, h2, h3⟩ := rbd_i f2
        rw [h3]
        have R5 := ty_run (P2 := tyV2 l d d false) R4 (H o6) h1 (fun y k n p v => ⟨k, n, rfl, p, v⟩)
        generalize (r2 (rnxt Y)).2 = X at h2 R5 ⊢
        obtain ⟨i1, i2, i3⟩ := rbd_i h2
        rw [i3]
        obtain ⟨t6, g6⟩ := rpas_i i1
        rw [g6]
        have R6 := ty_nxt R5 (by rw [t6]; decide)
        refine ty_e (ty_emi R6 (fun y k p hc => ty_two (t := false) p ?_ (Nat.le_succ d) (Nat.le_refl _)))
        rcases q3 with q | q
        · rw [q] at hc
          exact cd_j (k := 7) hc (by decide) (by decide)
        · rw [q] at hc
          exact cd_j (k := 8) hc (by decide) (by decide)
      · rw [if_neg q3] at h ⊢
        obtain ⟨c1, c2, c3⟩ := rbd_i h
        rw [c3]
        have o6 := rent_o ho c1
        obtain ⟨t2, d2⟩ := rent_i c1
        rw [d2] at c2 ⊢
        have R2 := ty_nxt (ty_0 I) (by rw [t2]; decide)
        obtain ⟨e1, e2, e3⟩ := rbd_i c2
        rw [e3]
        have R3 := ty_run (P2 := tyV l (d + 1) false) R2 (H o6) e1 (fun y k n p v => by subst p; rw [Nat.zero_add]; exact tyV_le v (Nat.le_succ d))
        obtain ⟨t4, g4⟩ := rpas_i e2
        rw [g4]
        exact ty_e (ty_nxt R3 (by rw [t4]; decide))
theorem ty_fac {fa r0 cm : rZ → Bool × rZ} {o D : Nat} (ho : o ≤ 6) (hD : 1 ≤ D) (Hf : o < 6 → tyP fa D true) (H0 : o < 6 → tyP r0 D true) (Hc : tyP cm D true) : tyP (facS fa r0 cm o) D true := by
  intro Z a c l I h
  unfold facS at h ⊢
  by_cases q1 : rtok Z = 9
  · rw [if_pos q1] at h ⊢
    obtain ⟨h1, -, h3⟩ := rbd_i h
    obtain ⟨-, g2⟩ := rpas_i h1
    rw [h3, g2]
    exact ty_op (ty_nxt (ty_0 I) (by rw [q1]; decide)) hD (fun y hc => cd_t (k := 9) hc (by decide) (by decide))
  · rw [if_neg q1] at h ⊢
    by_cases q2 : rtok Z = 10
    · rw [if_pos q2] at h ⊢
      obtain ⟨h1, h2, h3⟩ := rbd_i h
      obtain ⟨-, g2⟩ := rpas_i h1
      rw [g2] at h2
      obtain ⟨t3, g3⟩ := rnum_i h2
      rw [h3, g2, g3]
      exact ty_e (ty_op (ty_nxt (ty_nxt (ty_0 I) (by rw [q2]; decide)) (by rw [t3]; decide)) hD (fun y hc => cd_t (k := 10) hc (and_7 (u := 10) (by decide) _) (Or.inl rfl)))
    · rw [if_neg q2] at h ⊢
      by_cases q3 : rtok Z = 11
      · rw [if_pos q3] at h ⊢
        obtain ⟨c1, c2, c3⟩ := rbd_i h
        rw [c3]
        have o6 := rent_o ho c1
        obtain ⟨t2, d2⟩ := rent_i c1
        rw [d2] at c2 ⊢
        have R2 := ty_nxt (ty_0 I) (by rw [t2]; decide)
        obtain ⟨e1, e2, e3⟩ := rbd_i c2
        rw [e3]
        have R3 := ty_run (P2 := tyV l D true) R2 (Hf o6) e1 (fun y k n p v => by subst p; rw [Nat.zero_add]; exact v)
        exact ty_emi R3 (fun y k p hc T hT => psh_not (p T hT) (cd_n hc (by decide)))
      · rw [if_neg q3] at h ⊢
        by_cases q4 : rtok Z = 91
        · rw [if_pos q4] at h ⊢
          obtain ⟨c1, c2, c3⟩ := rbd_i h
          rw [c3]
          have o6 := rent_o ho c1
          obtain ⟨t2, d2⟩ := rent_i c1
          rw [d2] at c2 ⊢
          have R2 := ty_nxt (ty_0 I) (by rw [t2]; decide)
          obtain ⟨e1, e2, e3⟩ := rbd_i c2
          rw [e3]
          have R3 := ty_run (P2 := tyV l D true) R2 (H0 o6) e1 (fun y k n p v => by subst p; rw [Nat.zero_add]; exact v)
          obtain ⟨t4, g4⟩ := rpas_i e2
          rw [g4]
          exact ty_e (ty_nxt R3 (by rw [t4]; decide))
        · rw [if_neg q4] at h ⊢
          exact Hc Z a c l I h
def dpq : Nat → Nat
  | 0 => 6
  | 1 => 5
  | 2 => 3
  | 3 => 2
  | 4 => 5
  | 5 => 4
  | 6 => 2
  | 7 => 1
  | 8 => 4
  | 9 => 4
  | _ => 1
def typq : Nat → Bool
  | 2 => false
  | 3 => false
  | 6 => false
  | 7 => false
  | 10 => false
  | _ => true
theorem ty_rdr : ∀ (f q o : Nat), q ≤ 10 → o ≤ 6 → tyP (rdr f q o) (3 * (6 - o) + dpq q) (typq q)
  | 0, _, _, _, _ => fun Z a c l I h => Bool.noConfusion (show (false : Bool) = true from h)
  | f + 1, q, o, hq, ho => by
    have ih := fun q o hq ho => ty_rdr f q o hq ho
    match q, hq with
    | 0, _ => exact ty_row (ih 4 o (by omega) ho) (jn_01 (Or.inl rfl))
    | 1, _ => exact ty_row (ih 5 o (by omega) ho) (jn_01 (Or.inr rfl))
    | 2, _ => exact ty_row (ih 6 o (by omega) ho) (jn_23 (Or.inl rfl))
    | 3, _ => exact ty_row (ih 7 o (by omega) ho) (jn_23 (Or.inr rfl))
    | 4, _ => exact ih 1 o (by omega) ho
    | 5, _ => exact ih 8 o (by omega) ho
    | 6, _ => exact ih 3 o (by omega) ho
    | 7, _ => exact ih 10 o (by omega) ho
    | 8, _ => exact ty_fac ho (by show 1 ≤ 3 * (6 - o) + 4; omega) (fun w => tyP_le (ih 8 (o + 1) (by omega) w) (by show 3 * (6 - (o + 1)) + 4 ≤ 3 * (6 - o) + 4; omega)) (fun w => tyP_le (ih 0 (o + 1) (by omega) w) (by show 3 * (6 - (o + 1)) + 6 ≤ 3 * (6 - o) + 4; omega)) (ih 9 o (by omega) ho)
    | 9, _ => exact ty_cmp (ih 2 o (by omega) ho)
    | 10, _ => exact tyP_le (ty_par (d := 3 * (6 - o)) ho (fun w => tyP_le (ih 2 (o + 1) (by omega) w) (by show 3 * (6 - (o + 1)) + 3 ≤ 3 * (6 - o); omega))) (Nat.le_refl _)
