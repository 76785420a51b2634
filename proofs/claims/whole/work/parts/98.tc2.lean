/-! ===== the parsers agree: min and max, a part ===== -/
theorem cdR_m {k : Nat} {v y : Int32} (h : (k = 7 ∧ v = 23 ∧ y = 5) ∨ (k = 8 ∧ v = 24 ∧ y = 6)) : cdR y (nI k + (0 : Int32) <<< (7 &&& 31)) := by
  rw [show (0 : Int32) <<< (7 &&& 31) = 0 from by decide, Int32.add_zero]
  rcases h with ⟨e, -, ey⟩ | ⟨e, -, ey⟩
  · subst e; subst ey
    exact cdR_5
  · subst e; subst ey
    exact cdR_6
theorem par_m {M : mM} {tx : Nat → Nat} {L o k : Nat} {v y : Int32} {Z : rZ} {q : pS} {r2 : rZ → Bool × rZ} (T : txM M tx L) (R : rV M) (I : prI M tx L Z q o) (D : cdI tx L Z q []) (hb : bsQ q ≤ q.2.2.2.2.2.1) (HS : o < 6 → sumH M tx L (o + 1) r2) (hk : (k = 7 ∧ v = 21 ∧ y = 5) ∨ (k = 8 ∧ v = 22 ∧ y = 6)) (h : rtok Z = nI k) : resP M tx L Z q o (fun _ => false) (fun _ => True) (sumF M L 700 q) (rbd (rpas Z (nI k)) (fun Y => rbd (rent Y 40 (nI o)) (fun Y => rbd (r2 Y) (fun Y => rbd (rpas Y 44) (fun Y => rbd (r2 Y) (fun Y => rbd (rpas Y 41) (fun Y => (true, remi Y (nI k) 0)))))))) := by
  have hk1 : (k = 7 ∧ v = 21) ∨ (k = 8 ∧ v = 22) := by
    rcases hk with ⟨a, b, -⟩ | ⟨a, b, -⟩
    · exact Or.inl ⟨a, b⟩
    · exact Or.inr ⟨a, b⟩
  have hv9 : v = 21 ∨ v = 22 := by
    rcases hk1 with ⟨-, b⟩ | ⟨-, b⟩
    · exact Or.inl b
    · exact Or.inr b
  have hk23 : k < 23 := by
    rcases hk1 with ⟨a, -⟩ | ⟨a, -⟩ <;> omega
  have hm : isMk v := by rcases hv9 with b | b <;> subst b <;> decide
  have hm2 : isMk (v + 2) := by rcases hv9 with b | b <;> subst b <;> decide
  have hP : P1 v = false := by rcases hv9 with b | b <;> subst b <;> decide
  have hP2 : P1 (v + 2) = false := by rcases hv9 with b | b <;> subst b <;> decide
  have C9 : cur9 M tx L Z (skb M L q.1, q.2) := cur_sk T I.1 rfl rfl
  have C1 := wk_cur T R C9 I.2.1.1 hk23 h
  obtain ⟨I1, D1, k1, -⟩ := adv_pr T I D C1 rfl
  obtain ⟨o1, o2, o3⟩ := op_m T R I hk1 h rfl I1
  have w1 : (wkQ M L k (skb M L q.1, q.2)).2.2 = q.2.2 := rfl
  rw [rpas_ok h, rbd_ok rfl]
  show resP _ _ _ _ _ _ _ _ _ (rbd (rent (rnxt Z) 40 (nI o)) _)
  generalize wkQ M L k (skb M L q.1, q.2) = q1 at I1 D1 k1 o1 o2 o3 w1
  by_cases h40 : rtok (rnxt Z) = nI 40
  · have h40' : rtok (rnxt Z) = 40 := h40
    by_cases ho : o < 6
    · rw [rent_ok h40' ho, rbd_ok rfl, o1 h40 ho]
      show resP _ _ _ _ _ _ _ _ _ (rbd (r2 (rnxt (rnxt Z))) _)
      obtain ⟨I2, D2, S2⟩ := psh_pr (v := v) T I1 D1 (by decide) sg_ok.1 h40 ho
      have k2 := jn_cnt T I1.1 I2.1
      have e5 : (pshQ (skb M L q1.1) v q1).2.2.2.2.1 = q1.2.2.2.2.1 := rfl
      generalize pshQ (skb M L q1.1) v q1 = q2 at I2 D2 S2 k2 e5 ⊢
      have S2' : skI9 q2 q [v] := by
        unfold skI9 at S2 ⊢
        rw [show bsQ q1 = q1.2.2.2.2.2.2.2.1 from rfl, w1] at S2
        exact S2
      have s1 : q2.2.2.2.2.2.1 = q.2.2.2.2.2.1 + 1 := S2'.1
      have c1 : q2.2.2.2.2.1 = q.2.2.2.2.1 := by rw [e5, w1]
      obtain ⟨f3, h3⟩ := HS ho (rnxt (rnxt Z)) q2 I2 D2 (by rw [S2'.2.1, s1]; omega) (Or.inr (by rw [psh_top S2']; exact hP))
      rcases h3 with ⟨ok, q3, ps3, g3, I3, D3, S3, p3, ⟨b3, b4⟩, n2, n3, -⟩ | ⟨no, st⟩
      · rw [rbd_ok ok, g3]
        have K := psh_mk S2' S3 hb hm p3
        obtain ⟨x1, x2⟩ := go_cm T I3 K hv9 n3 n2
        by_cases h44 : rtok (r2 (rnxt (rnxt Z))).2 = nI 44
        · have h44' : rtok (r2 (rnxt (rnxt Z))).2 = 44 := h44
          rw [rpas_ok h44', rbd_ok rfl, x1 h44]
          show resP _ _ _ _ _ _ _ _ _ (rbd (r2 (rnxt (r2 (rnxt (rnxt Z))).2)) _)
          obtain ⟨⟨I4, D4⟩, ⟨w4, t4, u4⟩, c4, k4⟩ := cm_b T I3 D3 K h44
          have hbs4 : bsQ (cmQ (skb M L q3.1) q3) = bsQ q := (show bsQ q3 = bsQ q from S3.2.1.trans S2'.2.1)
          generalize cmQ (skb M L q3.1) q3 = q4 at I4 D4 w4 t4 u4 c4 k4 hbs4 ⊢
          have S4 : skI9 q4 q [v + 2] := ⟨w4, hbs4, fun i hi => (u4 i hi).trans ((S3.2.2.1 i (by omega)).trans (S2'.2.2.1 i hi)), fun j hj => by
            have e0 : j = 0 := by
              have : j < 1 := hj
              omega
            subst e0
            exact t4⟩
          obtain ⟨f5, h5⟩ := HS ho (rnxt (r2 (rnxt (rnxt Z))).2) q4 I4 D4 (by rw [hbs4, w4]; omega) (Or.inr (by rw [psh_top S4]; exact hP2))
          rcases h5 with ⟨ok5, q5, ps5, g5, I5, D5, S5, p5, ⟨b5, b6⟩, n52, n53, -⟩ | ⟨no5, st5⟩
          · rw [rbd_ok ok5, g5]
            have K5 := psh_mk S4 S5 hb hm2 p5
            have fr : ∀ Y, frZ (r2 (rnxt (r2 (rnxt (rnxt Z))).2)).2 Y → frZ Z Y := fun Y f => frZ_t frZ_n (frZ_t frZ_n (frZ_t f3 (frZ_t frZ_n (frZ_t f5 f))))
            generalize (r2 (rnxt (r2 (rnxt (rnxt Z))).2)).2 = Y5 at fr I5 D5 n52 n53 ⊢
            by_cases h41 : rtok Y5 = nI 41
            · have h41' : rtok Y5 = 41 := h41
              rw [rpas_ok h41', rbd_ok rfl]
              have eg : gcB M L q5 = (true, cdS (clQ (skb M L q5.1) q5) y) := by
                rcases hk with ⟨-, ev9, ey⟩ | ⟨-, ev9, ey⟩
                · subst ev9; subst ey
                  exact (gc_k T I5 K5 h41).2.1 (by decide)
                · subst ev9; subst ey
                  exact (gc_k T I5 K5 h41).2.2 (by decide)
              have e4 := go_gc T.1 I5.2.2.1 (by rw [eg])
              rw [eg] at e4
              obtain ⟨⟨I6, D6⟩, w6, c6, k6⟩ := cl_b T I5 D5 K5 h41
              have hle := (skb_le (M := M) (L := L) (a := q5.1)).1
              have e1 : (clQ (skb M L q5.1) q5).1 = skb M L q5.1 + 1 := rfl
              have i5 : q5.2.2.2.2.1 + q5.2.2.2.2.2.1 ≤ q5.1 + 2 := I5.2.2.1.2
              have s5' := S5.1
              have d5 := D5.2.1
              have hc : cdR y (nI k + (0 : Int32) <<< (7 &&& 31)) := cdR_m (v := v + 2) (by
                rcases hk with ⟨a, b, c⟩ | ⟨a, b, c⟩
                · exact Or.inl ⟨a, by rw [b]; decide, c⟩
                · exact Or.inr ⟨a, by rw [b]; decide, c⟩)
              have hws : ∀ i, i < q.2.2.2.2.2.1 → (clQ (skb M L q5.1) q5).2.2.2.2.2.2.2.2.2 i = q.2.2.2.2.2.2.2.2.2 i := fun i hi => (S5.2.2.1 i (by omega)).trans (S4.2.2.1 i hi)
              have hbs : bsQ (clQ (skb M L q5.1) q5) = bsQ q := (show bsQ q5 = bsQ q from S5.2.1.trans hbs4)
              generalize clQ (skb M L q5.1) q5 = q6 at I6 D6 w6 c6 k6 e1 e4 hws hbs ⊢
              obtain ⟨I7, D7⟩ := cw_at (y := y) (t := nI k) (n := 0) T I6 D6 (by omega) (by omega) hc
              refine ⟨fr _ (frZ_t frZ_n frZ_e), Or.inl ⟨rfl, cdS q6 y, [], e4, I7, D7, ⟨w6, hbs, hws, fun j hj => absurd hj (Nat.not_lt_zero j)⟩, fun j hj => absurd hj (Nat.not_lt_zero j), ⟨?_, ?_⟩, trivial⟩⟩
              · show q6.2.2.2.2.1 + 1 + 0 + cnt tx L q.1 ≤ q.2.2.2.2.1 + cnt tx L q6.1
                omega
              · show cnt tx L q.1 ≤ cnt tx L q6.1
                omega
            · have h41' : ¬ rtok Y5 = 41 := h41
              rw [rpas_no h41', rbd_no rfl]
              exact ⟨fr _ frZ_r, Or.inr ⟨rfl, bad_k T I5 K5 (by rcases hv9 with b | b <;> subst b <;> decide) h41 n53 n52⟩⟩
          · rw [rbd_no no5]
            exact ⟨frZ_t frZ_n (frZ_t frZ_n (frZ_t f3 (frZ_t frZ_n f5))), Or.inr ⟨rfl, st5⟩⟩
        · have h44' : ¬ rtok (r2 (rnxt (rnxt Z))).2 = 44 := h44
          rw [rpas_no h44', rbd_no rfl]
          exact ⟨frZ_t frZ_n (frZ_t frZ_n (frZ_t f3 frZ_r)), Or.inr ⟨rfl, x2 h44⟩⟩
      · rw [rbd_no no]
        exact ⟨frZ_t frZ_n (frZ_t frZ_n f3), Or.inr ⟨rfl, st⟩⟩
    · have h6 : o = 6 := by
        have := I.2.2.2.2
        omega
      have st := o2 h40 h6
      subst h6
      rw [rent_6 h40', rbd_no rfl]
      exact ⟨frZ_t frZ_n frZ_r, Or.inr ⟨rfl, st⟩⟩
  · have h40' : ¬ rtok (rnxt Z) = 40 := h40
    rw [rent_no h40', rbd_no rfl]
    exact ⟨frZ_t frZ_n frZ_r, Or.inr ⟨rfl, o3 h40⟩⟩
/-- a part, whole -/
theorem par_a {M : mM} {tx : Nat → Nat} {L o : Nat} {Z : rZ} {q : pS} {r2 : rZ → Bool × rZ} (T : txM M tx L) (R : rV M) (I : prI M tx L Z q o) (D : cdI tx L Z q []) (hb : bsQ q ≤ q.2.2.2.2.2.1) (HS : o < 6 → sumH M tx L (o + 1) r2) : resP M tx L Z q o (fun _ => false) (fun _ => True) (sumF M L 700 q) (parS r2 o Z) := by
  obtain ⟨t, ht, et⟩ := rt_nat T I.1
  unfold parS
  by_cases t23 : t = 23
  · subst t23
    rw [if_pos (show rtok Z = 23 from et)]
    exact par_n T R I D (by decide) (by decide) (by decide) et
  rw [if_neg (show ¬ rtok Z = 23 by rw [et, show (23 : Int32) = nI 23 from rfl]; exact nI_ne (b := 23) (by omega) (by decide) t23)]
  by_cases t6 : t ≤ 6
  · have h6 : rtok Z ≤ 6 := by
      rw [et, show (6 : Int32) = nI 6 from rfl]
      exact (nI_leq (a := t) (b := 6) (by omega) (by decide)).mpr t6
    rw [if_pos h6, rpas_ok rfl, rbd_ok rfl, et]
    obtain ⟨f, g⟩ := par_w T R I D t6 et
    exact ⟨f, Or.inl ⟨rfl, g⟩⟩
  have h6 : ¬ rtok Z ≤ 6 := by
    rw [et, show (6 : Int32) = nI 6 from rfl]
    exact fun z => t6 ((nI_leq (a := t) (b := 6) (by omega) (by decide)).mp z)
  rw [if_neg h6]
  by_cases t7 : t = 7
  · subst t7
    rw [if_pos (show rtok Z = 7 ∨ rtok Z = 8 from Or.inl et), et]
    exact par_m T R I D hb HS (Or.inl ⟨rfl, rfl, rfl⟩) et
  by_cases t8 : t = 8
  · subst t8
    rw [if_pos (show rtok Z = 7 ∨ rtok Z = 8 from Or.inr et), et]
    exact par_m T R I D hb HS (Or.inr ⟨rfl, rfl, rfl⟩) et
  have h78 : ¬ (rtok Z = 7 ∨ rtok Z = 8) := by
    rw [et, show (7 : Int32) = nI 7 from rfl, show (8 : Int32) = nI 8 from rfl]
    exact fun z => z.elim (nI_ne (a := t) (b := 7) (by omega) (by decide) t7) (nI_ne (a := t) (b := 8) (by omega) (by decide) t8)
  rw [if_neg h78]
  by_cases t40 : t = 40
  · subst t40
    exact par_b T I D hb HS et
  have h40 : ¬ rtok Z = 40 := by
    rw [et, show (40 : Int32) = nI 40 from rfl]
    exact nI_ne (a := t) (b := 40) (by omega) (by decide) t40
  have h23 : ¬ rtok Z = 23 := by
    rw [et, show (23 : Int32) = nI 23 from rfl]
    exact nI_ne (a := t) (b := 23) (by omega) (by decide) t23
  rw [rent_no h40, rbd_no rfl, ← rnum_no (u := 23) (m := nI 99999) h23]
  exact par_n T R I D (by omega) ht t40 et
