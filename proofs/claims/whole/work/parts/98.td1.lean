/-! ===== the parsers agree: rows of tests ===== -/
def goodT (M : mM) (tx : Nat → Nat) (L : Nat) (Z : rZ) (q : pS) (o : Nat) (PS : Int32 → Bool) (nx : Int32 → Prop) (R : pS) (Y : rZ) : Prop := ∃ q1 ps, R = gotK M L q1 ∧ prI M tx L Y q1 o ∧ cdI tx L Y q1 ps ∧ skI9 q1 q ps ∧ (∀ j, j < ps.length → PS (ps.getD j 0) = true) ∧ (q1.2.2.2.2.1 + ps.length + cnt tx L q.1 ≤ q.2.2.2.2.1 + cnt tx L q1.1 ∧ cnt tx L q.1 ≤ cnt tx L q1.1) ∧ nx (rtok Y)
def resT9 (M : mM) (tx : Nat → Nat) (L : Nat) (Z : rZ) (q : pS) (o : Nat) (PS : Int32 → Bool) (nx : Int32 → Prop) (R : pS) (r : Bool × rZ) : Prop := frZ Z r.2 ∧ ((r.1 = true ∧ goodT M tx L Z q o PS nx R r.2) ∨ (r.1 = false ∧ stp9 R r.2))
def rwT9 (r : Nat) (P Pi : Int32 → Bool) : Prop := (r = 1 ∧ P = PA ∧ Pi = fun _ => false) ∨ (r = 0 ∧ P = PO ∧ Pi = PA)
theorem rj_t {r : Nat} {P Pi : Int32 → Bool} {t : Int32} (h : rwT9 r P Pi) (hj : rjn r t = true) : ∃ k v, t = nI k ∧ ((k = 12 ∧ v = 14 ∧ P = PA) ∨ (k = 13 ∧ v = 15 ∧ P = PO)) ∧ P v = true ∧ Pi v = false ∧ (¬ v = 16 ∧ P1 v = false) ∧ cdR v (nI k + (0 : Int32) <<< (7 &&& 31)) := by
  have c0 : ∀ c, nI c + (0 : Int32) <<< (7 &&& 31) = nI c := fun c => by
    rw [show (0 : Int32) <<< (7 &&& 31) = 0 from by decide, Int32.add_zero]
  unfold rjn at hj
  rcases h with ⟨e1, e2, e3⟩ | ⟨e1, e2, e3⟩
  · subst e1; subst e2; subst e3
    rw [if_neg (by decide), if_pos rfl] at hj
    exact ⟨12, 14, of_decide_eq_true hj, Or.inl ⟨rfl, rfl, rfl⟩, by decide, rfl, by decide, by rw [c0]; exact cdR_14⟩
  · subst e1; subst e2; subst e3
    rw [if_pos rfl] at hj
    exact ⟨13, 15, of_decide_eq_true hj, Or.inr ⟨rfl, rfl, rfl⟩, by decide, by decide, by decide, by rw [c0]; exact cdR_15⟩
theorem rt_mono {r : Nat} {P Pi : Int32 → Bool} (h : rwT9 r P Pi) {x : Int32} (hx : Pi x = true) : P x = true := by
  rcases h with ⟨-, e2, e3⟩ | ⟨-, e2, e3⟩
  · subst e3
    exact Bool.noConfusion hx
  · subst e2; subst e3
    unfold PO
    unfold PA at hx
    rw [hx]
    rfl
theorem rt_top {r : Nat} {P Pi : Int32 → Bool} (h : rwT9 r P Pi) {x : Int32} (hx : P x = false) : Pi x = false := by
  cases hp : Pi x with
  | false => rfl
  | true => rw [rt_mono h hp] at hx; exact Bool.noConfusion hx
theorem rt_16 {r : Nat} {P Pi : Int32 → Bool} (h : rwT9 r P Pi) : P 16 = false := by
  rcases h with ⟨-, e2, -⟩ | ⟨-, e2, -⟩ <;> subst e2 <;> decide
/-- no not lies on top -/
abbrev no16 (q : pS) : Prop := q.2.2.2.2.2.1 = 0 ∨ ¬ q.2.2.2.2.2.2.2.2.2 (q.2.2.2.2.2.1 - 1) = 16
theorem no16_t {q q1 : pS} {ps : List Int32} {P : Int32 → Bool} (S : skI9 q1 q ps) (hp : ∀ j, j < ps.length → P (ps.getD j 0) = true) (h : P 16 = false) (b : no16 q) : no16 q1 := by
  obtain ⟨s1, -, s3, s4⟩ := S
  cases ps with
  | nil =>
    have s1' : q1.2.2.2.2.2.1 = q.2.2.2.2.2.1 := s1
    rcases Nat.eq_zero_or_pos q.2.2.2.2.2.1 with z | z
    · exact Or.inl (s1'.trans z)
    · refine Or.inr ?_
      rw [s1', s3 _ (by omega)]
      exact b.resolve_left (by omega)
  | cons v ps =>
    refine Or.inr (fun z => ?_)
    have e := (wtI_c s4).1
    have hl : (v :: ps).length = ps.length + 1 := rfl
    rw [s1, hl, show q.2.2.2.2.2.1 + (ps.length + 1) - 1 = q.2.2.2.2.2.1 + ps.length by omega, e] at z
    have h2 := hp 0 (by omega)
    rw [show (v :: ps).getD 0 0 = v from rfl, z, h] at h2
    exact Bool.noConfusion h2
/-- no not lies on top, nor a join of sums -/
abbrev tpT (q : pS) : Prop := q.2.2.2.2.2.1 = 0 ∨ (¬ q.2.2.2.2.2.2.2.2.2 (q.2.2.2.2.2.1 - 1) = 16 ∧ P1 (q.2.2.2.2.2.2.2.2.2 (q.2.2.2.2.2.1 - 1)) = false)
theorem tp_16 {q : pS} (h : tpT q) : no16 q := h.elim Or.inl (fun z => Or.inr z.1)
theorem tp_P1 {q : pS} (h : tpT q) : q.2.2.2.2.2.1 = 0 ∨ P1 (q.2.2.2.2.2.2.2.2.2 (q.2.2.2.2.2.1 - 1)) = false := h.elim Or.inl (fun z => Or.inr z.2)
theorem rowT_l {M : mM} {tx : Nat → Nat} {L o r : Nat} {P Pi : Int32 → Bool} {nxi : Int32 → Prop} {it : rZ → Bool × rZ} (T : txM M tx L) (R : rV M) (hr : rwT9 r P Pi) (H : ∀ (Z : rZ) (q : pS), prI M tx L Z q o → cdI tx L Z q [] → tpT q → (q.2.2.2.2.2.1 = 0 ∨ Pi (q.2.2.2.2.2.2.2.2.2 (q.2.2.2.2.2.1 - 1)) = false) → resT9 M tx L Z q o Pi nxi (tsF M L 700 q) (it Z)) {q : pS} (hb9 : tpT q) (h0 : q.2.2.2.2.2.1 = 0 ∨ P (q.2.2.2.2.2.2.2.2.2 (q.2.2.2.2.2.1 - 1)) = false) : ∀ (n : Nat) (Z : rZ) (q1 : pS) (ps : List Int32), prI M tx L Z q1 o → cdI tx L Z q1 ps → skI9 q1 q ps → (∀ j, j < ps.length → P (ps.getD j 0) = true) → q1.2.2.2.2.1 + ps.length + cnt tx L q.1 ≤ q.2.2.2.2.1 + cnt tx L q1.1 → cnt tx L q.1 ≤ cnt tx L q1.1 → nxi (rtok Z) → cnt tx L L ≤ cnt tx L q1.1 + n → resT9 M tx L Z q o P (fun t => rjn r t = false ∧ nxi t) (gotK M L q1) (rwL it r n Z)
  | 0, Z, q1, ps, I, D, S, hp, b1, b2, hx, hn => by
    have e : rwL it r 0 Z = (true, Z) := rfl
    rw [e]
    refine ⟨⟨fun _ _ _ => rfl, fun _ _ _ _ _ => rfl⟩, Or.inl ⟨rfl, q1, ps, rfl, I, D, S, hp, ⟨b1, b2⟩, ?_, hx⟩⟩
    have hk : rtok Z = 24 := by
      have c1 := cnt_600 T I.1
      have c2 := cnt_le (tx := tx) (L := L) L
      have c3 := T.1
      unfold rtok
      rw [I.1.2.1, I.1.1.2.2.1]
      exact if_neg (fun z => by
        have := (nI_ltI (by omega) (by omega)).mp z
        omega)
    rw [hk]
    exact rjn_24 r
  | n + 1, Z, q1, ps, I, D, S, hp, b1, b2, hx, hn => by
    have e : rwL it r (n + 1) Z = if rjn r (rtok Z) = true then rbd (it (rnxt Z)) (fun Y => rwL it r n (remi Y (rtok Z) 0)) else (true, Z) := rfl
    rw [e]
    by_cases y : rjn r (rtok Z) = true
    · rw [if_pos y]
      obtain ⟨c, v, ec, hj, hv, hvi, hv16, hcd⟩ := rj_t hr y
      obtain ⟨q2, hg, I2, D2, S2⟩ := jt_pr T R I D S hj ec hp h0 (no16_t S hp (rt_16 hr) (tp_16 hb9))
      have eg : gotK M L q1 = tsF M L 700 q2 := by
        unfold gotK
        rw [hg]
        exact if_pos rfl
      have k1 := jn_cnt T I.1 I2.1
      have k2 := cd_eq T I.1 I2.1 D D2
      have w2 : q2.2.2.2.2.2.1 = q.2.2.2.2.2.1 + 1 := S2.1
      have top : q2.2.2.2.2.2.2.2.2.2 (q2.2.2.2.2.2.1 - 1) = v := by
        rw [w2]
        exact S2.2.2.2 0 (Nat.lt_succ_self 0)
      obtain ⟨f3, h3⟩ := H (rnxt Z) q2 I2 D2 (Or.inr (by rw [top]; exact hv16)) (Or.inr (by rw [top]; exact hvi))
      rw [eg]
      rcases h3 with ⟨ok, q3, ps3, g3, I3, D3, S3, p3, ⟨b3, b4⟩, n3⟩ | ⟨no, st⟩
      · rw [rbd_ok ok, ec]
        have d2 := D.2.1
        obtain ⟨I4, D4⟩ := em_wait (v := v) (t := nI c) I3 D3 (by omega) (cnt_600 T I3.1) hcd
        have hl : (ps3 ++ [v]).length = ps3.length + 1 := List.length_append
        have ih := rowT_l T R hr H hb9 h0 n (remi (it (rnxt Z)).2 (nI c) 0) q3 (ps3 ++ [v]) I4 D4 (skI_t S3 S2) (fun j hj => by
          rw [hl] at hj
          by_cases w : j < ps3.length
          · rw [gI_lo ps3 [v] j w]
            exact rt_mono hr (p3 j w)
          · have ej : j = ps3.length + 0 := by omega
            rw [ej, gI_hi ps3 [v] 0]
            exact hv) (by rw [hl]; omega) (by omega) (by rw [rtok_e]; exact n3) (by omega)
        rw [← g3] at ih
        exact ⟨frZ_t frZ_n (frZ_t f3 (frZ_t frZ_e ih.1)), ih.2⟩
      · rw [rbd_no no]
        exact ⟨frZ_t frZ_n f3, Or.inr ⟨rfl, st⟩⟩
    · rw [if_neg y]
      refine ⟨⟨fun _ _ _ => rfl, fun _ _ _ _ _ => rfl⟩, Or.inl ⟨rfl, q1, ps, rfl, I, D, S, hp, ⟨b1, b2⟩, ?_, hx⟩⟩
      cases hh : rjn r (rtok Z) with
      | false => rfl
      | true => exact absurd hh y
theorem rowT_a {M : mM} {tx : Nat → Nat} {L o r : Nat} {P Pi : Int32 → Bool} {nxi : Int32 → Prop} {it : rZ → Bool × rZ} (T : txM M tx L) (R : rV M) (hr : rwT9 r P Pi) (H : ∀ (Z : rZ) (q : pS), prI M tx L Z q o → cdI tx L Z q [] → tpT q → (q.2.2.2.2.2.1 = 0 ∨ Pi (q.2.2.2.2.2.2.2.2.2 (q.2.2.2.2.2.1 - 1)) = false) → resT9 M tx L Z q o Pi nxi (tsF M L 700 q) (it Z)) {Z : rZ} {q : pS} (I : prI M tx L Z q o) (D : cdI tx L Z q []) (hb9 : tpT q) (h0 : q.2.2.2.2.2.1 = 0 ∨ P (q.2.2.2.2.2.2.2.2.2 (q.2.2.2.2.2.1 - 1)) = false) : resT9 M tx L Z q o P (fun t => rjn r t = false ∧ nxi t) (tsF M L 700 q) (rowS it r Z) := by
  unfold rowS
  obtain ⟨f3, h3⟩ := H Z q I D hb9 (Or.elim h0 Or.inl (fun h => Or.inr (rt_top hr h)))
  rcases h3 with ⟨ok, q3, ps3, g3, I3, D3, S3, p3, ⟨b3, b4⟩, n3⟩ | ⟨no, st⟩
  · rw [rbd_ok ok, g3]
    have c2 := cnt_le (tx := tx) (L := L) L
    have c3 := T.1
    have ih := rowT_l T R hr H hb9 h0 600 (it Z).2 q3 ps3 I3 D3 S3 (fun j hj => rt_mono hr (p3 j hj)) b3 b4 n3 (by omega)
    exact ⟨frZ_t f3 ih.1, ih.2⟩
  · rw [rbd_no no]
    exact ⟨f3, Or.inr ⟨rfl, st⟩⟩
