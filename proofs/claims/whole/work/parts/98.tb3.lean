/-! ===== the parsers agree: a row, whole ===== -/
theorem rtok_e {Z : rZ} {t n : Int32} : rtok (remi Z t n) = rtok Z := by
  have f := frZ_e (Z := Z) (t := t) (n := n)
  have e13 : remi Z t n 0 13 = Z 0 13 := by
    unfold remi
    split
    · rw [up2_k _ _ (show 13 ≠ 4 by decide), up2_a _ _ (show 0 ≠ 1 by decide)]
    · rfl
  unfold rtok
  rw [e13, f.2 12 (by decide) (by decide) (by decide) (by decide), f.1 5 (by decide) (by decide)]
theorem rw_mono {r : Nat} {P Pi : Int32 → Bool} (h : rwT r P Pi) {x : Int32} (hx : Pi x = true) : P x = true := by
  rcases h with ⟨-, e2, e3⟩ | ⟨-, e2, e3⟩
  · subst e3
    exact Bool.noConfusion hx
  · subst e2; subst e3
    unfold P1
    unfold P3 at hx
    rw [hx]
    rfl
theorem rw_top {r : Nat} {P Pi : Int32 → Bool} (h : rwT r P Pi) {x : Int32} (hx : P x = false) : Pi x = false := by
  cases hp : Pi x with
  | false => rfl
  | true => rw [rw_mono h hp] at hx; exact Bool.noConfusion hx
theorem cd_eq {M : mM} {tx : Nat → Nat} {L : Nat} {Z : rZ} {q q2 : pS} {ps : List Int32} (T : txM M tx L) (C : cur9 M tx L Z q) (C2 : cur9 M tx L (rnxt Z) q2) (D : cdI tx L Z q ps) (D2 : cdI tx L (rnxt Z) q2 []) : q2.2.2.2.2.1 = q.2.2.2.2.1 + ps.length := by
  have h1 := cnt_600 T C
  have h2 := cnt_600 T C2
  have h3 := D.2.1
  have h4 : q2.2.2.2.2.1 + 0 ≤ cnt tx L q2.1 := D2.2.1
  have e : rnxt Z 0 4 = nI (q2.2.2.2.2.1 + 0) := D2.1
  rw [show rnxt Z 0 4 = Z 0 4 from up2_k _ _ (by decide), D.1] at e
  have := nI_inj (by omega) (by omega) e
  omega
theorem rbd_ok {r : Bool × rZ} {k : rZ → Bool × rZ} (h : r.1 = true) : rbd r k = k r.2 := if_pos h
theorem rbd_no {r : Bool × rZ} {k : rZ → Bool × rZ} (h : r.1 = false) : rbd r k = (false, r.2) := if_neg (by rw [h]; exact fun z => Bool.noConfusion z)
theorem row_l {M : mM} {tx : Nat → Nat} {L o r : Nat} {P Pi : Int32 → Bool} {nxi : Int32 → Prop} {it : rZ → Bool × rZ} (T : txM M tx L) (hr : rwT r P Pi) (H : ∀ (Z : rZ) (q : pS), prI M tx L Z q o → cdI tx L Z q [] → bsQ q ≤ q.2.2.2.2.2.1 → (q.2.2.2.2.2.1 = 0 ∨ Pi (q.2.2.2.2.2.2.2.2.2 (q.2.2.2.2.2.1 - 1)) = false) → resP M tx L Z q o Pi nxi (sumF M L 700 q) (it Z)) {q : pS} (hb9 : bsQ q ≤ q.2.2.2.2.2.1) (h0 : q.2.2.2.2.2.1 = 0 ∨ P (q.2.2.2.2.2.2.2.2.2 (q.2.2.2.2.2.1 - 1)) = false) : ∀ (n : Nat) (Z : rZ) (q1 : pS) (ps : List Int32), prI M tx L Z q1 o → cdI tx L Z q1 ps → skI9 q1 q ps → (∀ j, j < ps.length → P (ps.getD j 0) = true) → q1.2.2.2.2.1 + ps.length + cnt tx L q.1 ≤ q.2.2.2.2.1 + cnt tx L q1.1 → cnt tx L q.1 ≤ cnt tx L q1.1 → nxi (rtok Z) → cnt tx L L ≤ cnt tx L q1.1 + n → resP M tx L Z q o P (fun t => rjn r t = false ∧ nxi t) (goK9 M L q1) (rwL it r n Z)
  | 0, Z, q1, ps, I, D, S, hp, b1, b2, hx, hn => by
    have e : rwL it r 0 Z = (true, Z) := rfl
    rw [e]
    refine ⟨⟨fun _ _ _ => rfl, fun _ _ _ _ _ => rfl⟩, Or.inl ⟨rfl, q1, ps, rfl, I, D, S, hp, ⟨b1, b2⟩, ?_, hx⟩⟩
    have hk : rtok Z = 24 := by
      have c1 := cnt_600 T I.1
      have c2 := cnt_le (tx := tx) (L := L) L
      have c3 := T.1
      unfold rtok
      rw [I.1.2.1, I.1.1.2.2.1]
      exact if_neg (fun z => by
        have := (nI_ltI (by omega) (by omega)).mp z
        omega)
    rw [hk]
    exact rjn_24 r
  | n + 1, Z, q1, ps, I, D, S, hp, b1, b2, hx, hn => by
    have e : rwL it r (n + 1) Z = if rjn r (rtok Z) = true then rbd (it (rnxt Z)) (fun Y => rwL it r n (remi Y (rtok Z) 0)) else (true, Z) := rfl
    rw [e]
    by_cases y : rjn r (rtok Z) = true
    · rw [if_pos y]
      obtain ⟨c, v, ec, hc, hj, hv, hvi, hcd⟩ := rw_jn hr y
      obtain ⟨q2, hg, I2, D2, S2⟩ := jn_pr T I D S hj ec hp h0
      have eg : goK9 M L q1 = sumF M L 700 q2 := by
        unfold goK9
        rw [hg]
        exact if_pos rfl
      have k1 := jn_cnt T I.1 I2.1
      have k2 := cd_eq T I.1 I2.1 D D2
      have w2 : q2.2.2.2.2.2.1 = q.2.2.2.2.2.1 + 1 := S2.1
      have top : q2.2.2.2.2.2.2.2.2.2 (q2.2.2.2.2.2.1 - 1) = v := by
        rw [w2]
        exact S2.2.2.2 0 (Nat.lt_succ_self 0)
      obtain ⟨f3, h3⟩ := H (rnxt Z) q2 I2 D2 (by rw [S2.2.1, w2]; omega) (Or.inr (by rw [top]; exact hvi))
      rw [eg]
      rcases h3 with ⟨ok, q3, ps3, g3, I3, D3, S3, p3, ⟨b3, b4⟩, n3⟩ | ⟨no, st⟩
      · rw [rbd_ok ok, ec]
        have d2 := D.2.1
        obtain ⟨I4, D4⟩ := em_wait (v := v) (t := nI c) I3 D3 (by omega) (cnt_600 T I3.1) hcd
        have hl : (ps3 ++ [v]).length = ps3.length + 1 := List.length_append
        have ih := row_l T hr H hb9 h0 n (remi (it (rnxt Z)).2 (nI c) 0) q3 (ps3 ++ [v]) I4 D4 (skI_t S3 S2) (fun j hj => by
          rw [hl] at hj
          by_cases w : j < ps3.length
          · rw [gI_lo ps3 [v] j w]
            exact rw_mono hr (p3 j w)
          · have ej : j = ps3.length + 0 := by omega
            rw [ej, gI_hi ps3 [v] 0]
            exact hv) (by rw [hl]; omega) (by omega) (by rw [rtok_e]; exact n3) (by omega)
        rw [← g3] at ih
        exact ⟨frZ_t frZ_n (frZ_t f3 (frZ_t frZ_e ih.1)), ih.2⟩
      · rw [rbd_no no]
        exact ⟨frZ_t frZ_n f3, Or.inr ⟨rfl, st⟩⟩
    · rw [if_neg y]
      refine ⟨⟨fun _ _ _ => rfl, fun _ _ _ _ _ => rfl⟩, Or.inl ⟨rfl, q1, ps, rfl, I, D, S, hp, ⟨b1, b2⟩, ?_, hx⟩⟩
      cases hh : rjn r (rtok Z) with
      | false => rfl
      | true => exact absurd hh y
theorem row_a {M : mM} {tx : Nat → Nat} {L o r : Nat} {P Pi : Int32 → Bool} {nxi : Int32 → Prop} {it : rZ → Bool × rZ} (T : txM M tx L) (hr : rwT r P Pi) (H : ∀ (Z : rZ) (q : pS), prI M tx L Z q o → cdI tx L Z q [] → bsQ q ≤ q.2.2.2.2.2.1 → (q.2.2.2.2.2.1 = 0 ∨ Pi (q.2.2.2.2.2.2.2.2.2 (q.2.2.2.2.2.1 - 1)) = false) → resP M tx L Z q o Pi nxi (sumF M L 700 q) (it Z)) {Z : rZ} {q : pS} (I : prI M tx L Z q o) (D : cdI tx L Z q []) (hb9 : bsQ q ≤ q.2.2.2.2.2.1) (h0 : q.2.2.2.2.2.1 = 0 ∨ P (q.2.2.2.2.2.2.2.2.2 (q.2.2.2.2.2.1 - 1)) = false) : resP M tx L Z q o P (fun t => rjn r t = false ∧ nxi t) (sumF M L 700 q) (rowS it r Z) := by
  unfold rowS
  obtain ⟨f3, h3⟩ := H Z q I D hb9 (Or.elim h0 Or.inl (fun h => Or.inr (rw_top hr h)))
  rcases h3 with ⟨ok, q3, ps3, g3, I3, D3, S3, p3, ⟨b3, b4⟩, n3⟩ | ⟨no, st⟩
  · rw [rbd_ok ok, g3]
    have c2 := cnt_le (tx := tx) (L := L) L
    have c3 := T.1
    have ih := row_l T hr H hb9 h0 600 (it Z).2 q3 ps3 I3 D3 S3 (fun j hj => rw_mono hr (p3 j hj)) b3 b4 n3 (by omega)
    exact ⟨frZ_t f3 ih.1, ih.2⟩
  · rw [rbd_no no]
    exact ⟨f3, Or.inr ⟨rfl, st⟩⟩
