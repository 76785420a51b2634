/-! ===== the parsers agree: a row ===== -/
theorem gI_lo : ∀ (w v : List Int32) (j : Nat), j < w.length → (w ++ v).getD j 0 = w.getD j 0
  | [], _, _, h => absurd h (Nat.not_lt_zero _)
  | _ :: _, _, 0, _ => rfl
  | _ :: w, v, j + 1, h => gI_lo w v j (Nat.lt_of_succ_lt_succ h)
theorem gI_hi : ∀ (w v : List Int32) (j : Nat), (w ++ v).getD (w.length + j) 0 = v.getD j 0
  | [], v, j => by rw [show ([] : List Int32).length + j = j from Nat.zero_add j]; rfl
  | c :: w, v, j => by
    rw [show (c :: w).length + j = (w.length + j) + 1 by show w.length + 1 + j = _; omega]
    exact gI_hi w v j
theorem skI_t {a b c : pS} {ps qs : List Int32} (h1 : skI9 a b ps) (h2 : skI9 b c qs) : skI9 a c (ps ++ qs) := by
  obtain ⟨a1, a2, a3, a4⟩ := h1
  obtain ⟨b1, b2, b3, b4⟩ := h2
  have hl : (ps ++ qs).length = ps.length + qs.length := List.length_append
  refine ⟨by rw [a1, b1, hl]; omega, a2.trans b2, fun i hi => (a3 i (by omega)).trans (b3 i hi), fun j hj => ?_⟩
  rw [hl] at hj ⊢
  by_cases y : j < ps.length
  · rw [gI_lo ps qs j y, show c.2.2.2.2.2.1 + (ps.length + qs.length - 1 - j) = b.2.2.2.2.2.1 + (ps.length - 1 - j) by omega]
    exact a4 j y
  · obtain ⟨i, ei⟩ : ∃ i, j = ps.length + i := ⟨j - ps.length, by omega⟩
    subst ei
    rw [gI_hi ps qs i, show c.2.2.2.2.2.1 + (ps.length + qs.length - 1 - (ps.length + i)) = c.2.2.2.2.2.1 + (qs.length - 1 - i) by omega, a3 _ (by omega)]
    exact b4 i (by omega)
/-- what a reader of the class has to show for it -/
def goodP (M : mM) (tx : Nat → Nat) (L : Nat) (Z : rZ) (q : pS) (o : Nat) (PS : Int32 → Bool) (nx : Int32 → Prop) (R : pS) (Y : rZ) : Prop := ∃ q1 ps, R = goK9 M L q1 ∧ prI M tx L Y q1 o ∧ cdI tx L Y q1 ps ∧ skI9 q1 q ps ∧ (∀ j, j < ps.length → PS (ps.getD j 0) = true) ∧ (q1.2.2.2.2.1 + ps.length + cnt tx L q.1 ≤ q.2.2.2.2.1 + cnt tx L q1.1 ∧ cnt tx L q.1 ≤ cnt tx L q1.1) ∧ nx (rtok Y)
def resP (M : mM) (tx : Nat → Nat) (L : Nat) (Z : rZ) (q : pS) (o : Nat) (PS : Int32 → Bool) (nx : Int32 → Prop) (R : pS) (r : Bool × rZ) : Prop := frZ Z r.2 ∧ ((r.1 = true ∧ goodP M tx L Z q o PS nx R r.2) ∨ (r.1 = false ∧ stp9 R r.2))
theorem cnt_600 {M : mM} {tx : Nat → Nat} {L : Nat} {q : pS} {Z : rZ} (T : txM M tx L) (C : cur9 M tx L Z q) : cnt tx L q.1 ≤ 600 := by
  have h1 := cnt_le (tx := tx) (L := L) q.1
  have h2 := C.2.2.1
  have h3 := T.1
  omega
theorem jn_cnt {M : mM} {tx : Nat → Nat} {L : Nat} {Z : rZ} {q q2 : pS} (T : txM M tx L) (C : cur9 M tx L Z q) (C2 : cur9 M tx L (rnxt Z) q2) : cnt tx L q2.1 = cnt tx L q.1 + 1 := by
  have h1 := cnt_600 T C
  have h2 := cnt_600 T C2
  have e := C2.2.1
  unfold rnxt at e
  rw [up2_s, C.2.1, nI_1] at e
  exact (nI_inj (by omega) (by omega) e).symm
/-- an emitted join waits on the other side -/
theorem em_wait {M : mM} {tx : Nat → Nat} {L o : Nat} {Y : rZ} {q : pS} {ps : List Int32} {v t : Int32} (I : prI M tx L Y q o) (D : cdI tx L Y q ps) (h : q.2.2.2.2.1 + ps.length + 1 ≤ cnt tx L q.1) (h6 : cnt tx L q.1 ≤ 600) (hc : cdR v (t + (0 : Int32) <<< (7 &&& 31))) : prI M tx L (remi Y t 0) q o ∧ cdI tx L (remi Y t 0) q (ps ++ [v]) := by
  obtain ⟨c1, c2, c3, c4⟩ := D
  obtain ⟨e1, e2, e3, e4, e5⟩ := emi_at (tx := tx) (L := L) (t := t) (n := 0) c1 (by omega)
  have hl : (ps ++ [v]).length = ps.length + 1 := List.length_append
  refine ⟨⟨cur_em I.1, ⟨I.2.1.1, e4.trans I.2.1.2⟩, I.2.2⟩, ?_, by rw [hl]; omega, fun i hi => by rw [e3 i (by omega)]; exact c3 i hi, fun j hj => ?_⟩
  · rw [hl, e1]
    exact congrArg nI (by omega)
  · rw [hl] at hj
    by_cases y : j < ps.length
    · rw [gI_lo ps [v] j y, e3 _ (by omega)]
      exact c4 j y
    · have ej : j = ps.length + 0 := by omega
      rw [ej, gI_hi ps [v] 0, Nat.add_zero, e2]
      exact hc
theorem cdR_7 : cdR 7 (nI 0) := Or.inr (Or.inr (Or.inl ⟨rfl, rfl⟩))
theorem cdR_8 : cdR 8 (nI 1) := Or.inr (Or.inr (Or.inr (Or.inl ⟨rfl, rfl⟩)))
theorem cdR_9 : cdR 9 (nI 2) := Or.inr (Or.inr (Or.inr (Or.inr (Or.inl ⟨rfl, rfl⟩))))
theorem cdR_10 : cdR 10 (nI 3) := Or.inr (Or.inr (Or.inr (Or.inr (Or.inr (Or.inl ⟨rfl, rfl⟩)))))
theorem cdR_18 : cdR 18 (nI 4) := Or.inr (Or.inr (Or.inr (Or.inr (Or.inr (Or.inr (Or.inl ⟨rfl, rfl⟩))))))
theorem cdR_19 : cdR 19 (nI 5) := Or.inr (Or.inr (Or.inr (Or.inr (Or.inr (Or.inr (Or.inr (Or.inl ⟨rfl, rfl⟩)))))))
theorem cdR_30 : cdR 30 (nI 6) := Or.inr (Or.inr (Or.inr (Or.inr (Or.inr (Or.inr (Or.inr (Or.inr (Or.inl ⟨rfl, rfl⟩))))))))
theorem cdR_17 : cdR 17 (nI 9) := Or.inr (Or.inr (Or.inr (Or.inr (Or.inr (Or.inr (Or.inr (Or.inr (Or.inr (Or.inl ⟨rfl, rfl⟩)))))))))
theorem cdR_16 : cdR 16 (nI 11) := Or.inr (Or.inr (Or.inr (Or.inr (Or.inr (Or.inr (Or.inr (Or.inr (Or.inr (Or.inr (Or.inl ⟨rfl, rfl⟩))))))))))
theorem cdR_1 : cdR 1 (nI 43) := Or.inr (Or.inr (Or.inr (Or.inr (Or.inr (Or.inr (Or.inr (Or.inr (Or.inr (Or.inr (Or.inr (Or.inl ⟨rfl, rfl⟩)))))))))))
theorem cdR_2 : cdR 2 (nI 45) := Or.inr (Or.inr (Or.inr (Or.inr (Or.inr (Or.inr (Or.inr (Or.inr (Or.inr (Or.inr (Or.inr (Or.inr (Or.inl ⟨rfl, rfl⟩))))))))))))
theorem cdR_3 : cdR 3 (nI 42) := Or.inr (Or.inr (Or.inr (Or.inr (Or.inr (Or.inr (Or.inr (Or.inr (Or.inr (Or.inr (Or.inr (Or.inr (Or.inr (Or.inl ⟨rfl, rfl⟩)))))))))))))
theorem cdR_4 : cdR 4 (nI 47) := Or.inr (Or.inr (Or.inr (Or.inr (Or.inr (Or.inr (Or.inr (Or.inr (Or.inr (Or.inr (Or.inr (Or.inr (Or.inr (Or.inr (Or.inl ⟨rfl, rfl⟩))))))))))))))
theorem cdR_5 : cdR 5 (nI 7) := Or.inr (Or.inr (Or.inr (Or.inr (Or.inr (Or.inr (Or.inr (Or.inr (Or.inr (Or.inr (Or.inr (Or.inr (Or.inr (Or.inr (Or.inr (Or.inl ⟨rfl, rfl⟩)))))))))))))))
theorem cdR_6 : cdR 6 (nI 8) := Or.inr (Or.inr (Or.inr (Or.inr (Or.inr (Or.inr (Or.inr (Or.inr (Or.inr (Or.inr (Or.inr (Or.inr (Or.inr (Or.inr (Or.inr (Or.inr (Or.inl ⟨rfl, rfl⟩))))))))))))))))
theorem cdR_11 : cdR 11 (nI 60) := Or.inr (Or.inr (Or.inr (Or.inr (Or.inr (Or.inr (Or.inr (Or.inr (Or.inr (Or.inr (Or.inr (Or.inr (Or.inr (Or.inr (Or.inr (Or.inr (Or.inr (Or.inl ⟨rfl, rfl⟩)))))))))))))))))
theorem cdR_12 : cdR 12 (nI 62) := Or.inr (Or.inr (Or.inr (Or.inr (Or.inr (Or.inr (Or.inr (Or.inr (Or.inr (Or.inr (Or.inr (Or.inr (Or.inr (Or.inr (Or.inr (Or.inr (Or.inr (Or.inr (Or.inl ⟨rfl, rfl⟩))))))))))))))))))
theorem cdR_13 : cdR 13 (nI 61) := Or.inr (Or.inr (Or.inr (Or.inr (Or.inr (Or.inr (Or.inr (Or.inr (Or.inr (Or.inr (Or.inr (Or.inr (Or.inr (Or.inr (Or.inr (Or.inr (Or.inr (Or.inr (Or.inr (Or.inl ⟨rfl, rfl⟩)))))))))))))))))))
theorem cdR_14 : cdR 14 (nI 12) := Or.inr (Or.inr (Or.inr (Or.inr (Or.inr (Or.inr (Or.inr (Or.inr (Or.inr (Or.inr (Or.inr (Or.inr (Or.inr (Or.inr (Or.inr (Or.inr (Or.inr (Or.inr (Or.inr (Or.inr (Or.inl ⟨rfl, rfl⟩))))))))))))))))))))
theorem cdR_15 : cdR 15 (nI 13) := Or.inr (Or.inr (Or.inr (Or.inr (Or.inr (Or.inr (Or.inr (Or.inr (Or.inr (Or.inr (Or.inr (Or.inr (Or.inr (Or.inr (Or.inr (Or.inr (Or.inr (Or.inr (Or.inr (Or.inr (Or.inr (⟨rfl, rfl⟩)))))))))))))))))))))
theorem rjn_3 {t : Int32} (h : rjn 3 t = true) : t = nI 42 ∨ t = nI 47 := by
  unfold rjn at h
  rw [if_neg (by decide), if_neg (by decide), if_neg (by decide)] at h
  exact of_decide_eq_true h
theorem rjn_2 {t : Int32} (h : rjn 2 t = true) : t = nI 43 ∨ t = nI 45 := by
  unfold rjn at h
  rw [if_neg (by decide), if_neg (by decide), if_pos rfl] at h
  exact of_decide_eq_true h
/-- the rows of sums: what they drop, what their pieces leave -/
def rwT (r : Nat) (P Pi : Int32 → Bool) : Prop := (r = 3 ∧ P = P3 ∧ Pi = fun _ => false) ∨ (r = 2 ∧ P = P1 ∧ Pi = P3)
theorem rw_jn {r : Nat} {P Pi : Int32 → Bool} {t : Int32} (h : rwT r P Pi) (hj : rjn r t = true) : ∃ c v, t = nI c ∧ c < 128 ∧ jnT c v P ∧ P v = true ∧ Pi v = false ∧ cdR v (nI c + (0 : Int32) <<< (7 &&& 31)) := by
  have c0 : ∀ c, nI c + (0 : Int32) <<< (7 &&& 31) = nI c := fun c => by
    rw [show (0 : Int32) <<< (7 &&& 31) = 0 from by decide, Int32.add_zero]
  rcases h with ⟨e1, e2, e3⟩ | ⟨e1, e2, e3⟩
  · subst e1; subst e2; subst e3
    rcases rjn_3 hj with e | e
    · exact ⟨42, 3, e, by decide, Or.inl ⟨rfl, rfl, rfl⟩, by decide, rfl, by rw [c0]; exact cdR_3⟩
    · exact ⟨47, 4, e, by decide, Or.inr (Or.inl ⟨rfl, rfl, rfl⟩), by decide, rfl, by rw [c0]; exact cdR_4⟩
  · subst e1; subst e2; subst e3
    rcases rjn_2 hj with e | e
    · exact ⟨43, 1, e, by decide, Or.inr (Or.inr (Or.inl ⟨rfl, rfl, rfl⟩)), by decide, by decide, by rw [c0]; exact cdR_1⟩
    · exact ⟨45, 2, e, by decide, Or.inr (Or.inr (Or.inr ⟨rfl, rfl, rfl⟩)), by decide, by decide, by rw [c0]; exact cdR_2⟩
