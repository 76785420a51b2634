/-! ===== the parsers agree: a join is taken ===== -/
theorem wt_at {ws : Nat → Int32} {w0 : Nat} {ps : List Int32} (h : wtI ws w0 ps) {j : Nat} (hj : j < ps.length) : ∃ i, i < ps.length ∧ ws (w0 + j) = ps.getD i 0 := by
  refine ⟨ps.length - 1 - j, by omega, ?_⟩
  have := h (ps.length - 1 - j) (by omega)
  rw [show ps.length - 1 - (ps.length - 1 - j) = j by omega] at this
  exact this
/-- what drops ps and no more -/
theorem dq_at {q q0 : pS} {ps : List Int32} {p : Nat → Bool} (S : skI9 q q0 ps) (hp : ∀ j, j < ps.length → p (q0.2.2.2.2.2.1 + j) = true) (h0 : q0.2.2.2.2.2.1 = 0 ∨ p (q0.2.2.2.2.2.1 - 1) = false) : (dwQ q p).2.2.2.2.2.1 = q0.2.2.2.2.2.1 ∧ (dwQ q p).2.2.2.2.1 = q.2.2.2.2.1 + ps.length ∧ (∀ i, i < q.2.2.2.2.1 → (dwQ q p).2.2.2.2.2.2.2.2.1 i = q.2.2.2.2.2.2.2.2.1 i) ∧ ∀ j, j < ps.length → (dwQ q p).2.2.2.2.2.2.2.2.1 (q.2.2.2.2.1 + j) = ps.getD j 0 := by
  obtain ⟨s1, -, -, s4⟩ := S
  have h := dw_ps (p := p) h0 ps q.2.2.2.2.1 q.2.2.2.2.2.2.2.2.1 s4 hp
  rw [← s1] at h
  exact h
/-- the same for a predicate on what waits -/
theorem dP_at {q q0 : pS} {ps : List Int32} {P : Int32 → Bool} (S : skI9 q q0 ps) (hp : ∀ j, j < ps.length → P (ps.getD j 0) = true) (h0 : q0.2.2.2.2.2.1 = 0 ∨ P (q0.2.2.2.2.2.2.2.2.2 (q0.2.2.2.2.2.1 - 1)) = false) : (dwQ q (fun i => P (q.2.2.2.2.2.2.2.2.2 i))).2.2.2.2.2.1 = q0.2.2.2.2.2.1 ∧ (dwQ q (fun i => P (q.2.2.2.2.2.2.2.2.2 i))).2.2.2.2.1 = q.2.2.2.2.1 + ps.length ∧ (∀ i, i < q.2.2.2.2.1 → (dwQ q (fun i => P (q.2.2.2.2.2.2.2.2.2 i))).2.2.2.2.2.2.2.2.1 i = q.2.2.2.2.2.2.2.2.1 i) ∧ ∀ j, j < ps.length → (dwQ q (fun i => P (q.2.2.2.2.2.2.2.2.2 i))).2.2.2.2.2.2.2.2.1 (q.2.2.2.2.1 + j) = ps.getD j 0 := by
  refine dq_at S (fun j hj => ?_) ?_
  · obtain ⟨i, hi, e⟩ := wt_at S.2.2.2 hj
    show P _ = true
    rw [e]
    exact hp i hi
  · rcases Nat.eq_zero_or_pos q0.2.2.2.2.2.1 with z | z
    · exact Or.inl z
    · rcases h0 with h | h
      · exact Or.inl h
      · refine Or.inr ?_
        show P _ = false
        rw [S.2.2.1 _ (by omega)]
        exact h
/-- a join v is put over what is left -/
def jnQ (P : Int32 → Bool) (v : Int32) (q : pS) : pS := s9 (s5 (dwQ q (fun i => P (q.2.2.2.2.2.2.2.2.2 i))) ((dwQ q (fun i => P (q.2.2.2.2.2.2.2.2.2 i))).2.2.2.2.2.1 + 1)) (va_up (dwQ q (fun i => P (q.2.2.2.2.2.2.2.2.2 i))).2.2.2.2.2.2.2.2.2 (dwQ q (fun i => P (q.2.2.2.2.2.2.2.2.2 i))).2.2.2.2.2.1 v)
def P3 : Int32 → Bool := fun x => decide (x = 3) || decide (x = 4)
def P1 : Int32 → Bool := fun x => decide (x = 3) || decide (x = 4) || decide (x = 1) || decide (x = 2)
theorem lk_sk {M : mM} {tx : Nat → Nat} {L a : Nat} (T : txM M tx L) (ha : a ≤ L) : lkV M L (skb M L a) = lkV M L a := by
  unfold lkV
  rw [skb_id T ha]
theorem tg_e {M : mM} {tx : Nat → Nat} {L c : Nat} {Z : rZ} {q : pS} (T : txM M tx L) (C : cur9 M tx L Z q) (h0 : q.2.2.1 = 0) (hc : c < 256) (hs : isSg c) : tgQ M L (skb M L q.1, q.2) (nI c) = decide (rtok Z = nI c) := by
  have h := (tok_c T C hc hs).1
  unfold tgQ
  rw [if_pos h0, lk_sk T C.2.2.1]
  by_cases y : rtok Z = nI c
  · rw [decide_eq_true y, decide_eq_true (h.mpr y)]
  · rw [decide_eq_false y, decide_eq_false (fun z => y (h.mp z))]
theorem sg_ok : isSg 40 ∧ isSg 41 ∧ isSg 42 ∧ isSg 43 ∧ isSg 44 ∧ isSg 45 ∧ isSg 47 ∧ isSg 59 ∧ isSg 60 ∧ isSg 61 ∧ isSg 62 ∧ isSg 91 ∧ isSg 93 := by decide +kernel
theorem gc_no {M : mM} {tx : Nat → Nat} {L : Nat} {Z : rZ} {q : pS} (T : txM M tx L) (C : cur9 M tx L Z q) (h : ¬ rtok Z = nI 41) : gcB M L q = (false, (skb M L q.1, q.2)) := by
  have h1 := (tok_c T C (c := 41) (by decide) sg_ok.2.1).1
  obtain ⟨aT, eN, bD, bP, cD, wT, oP, bS, cS, wS⟩ := q
  exact if_neg (fun z => h (h1.mp z))
theorem gon_sg {M : mM} {tx : Nat → Nat} {L o : Nat} {Z : rZ} {q : pS} (T : txM M tx L) (I : prI M tx L Z q o) (h : ¬ rtok Z = nI 41) : gonQ M L q = gsR M L (skb M L q.1, q.2) := by
  have e := gc_no T I.1 h
  rw [gon_no T.1 I.2.2.1 (by rw [e]; exact fun z => Bool.noConfusion z), e]
/-- the joins of sums: sign, code, what they drop -/
def jnT (c : Nat) (v : Int32) (P : Int32 → Bool) : Prop := (c = 42 ∧ v = 3 ∧ P = P3) ∨ (c = 47 ∧ v = 4 ∧ P = P3) ∨ (c = 43 ∧ v = 1 ∧ P = P1) ∨ (c = 45 ∧ v = 2 ∧ P = P1)
theorem nI_ne {a b : Nat} (ha : a < 2147483648) (hb : b < 2147483648) (h : a ≠ b) : ¬ nI a = nI b := fun z => h (nI_inj ha hb z)
theorem gon_jn {M : mM} {tx : Nat → Nat} {L o c : Nat} {v : Int32} {P : Int32 → Bool} {Z : rZ} {q : pS} (T : txM M tx L) (I : prI M tx L Z q o) (hj : jnT c v P) (h : rtok Z = nI c) : gonQ M L q = (true, jnQ P v (skb M L q.1 + 1, q.2)) := by
  have C := I.1
  have h0 := I.2.1.1
  obtain ⟨s40, s41, s42, s43, s44, s45, s47, -⟩ := sg_ok
  have t42 := tg_e T C h0 (c := 42) (by decide) s42
  have t47 := tg_e T C h0 (c := 47) (by decide) s47
  have t43 := tg_e T C h0 (c := 43) (by decide) s43
  have t45 := tg_e T C h0 (c := 45) (by decide) s45
  rcases hj with ⟨ec, ev9, eP⟩ | ⟨ec, ev9, eP⟩ | ⟨ec, ev9, eP⟩ | ⟨ec, ev9, eP⟩
  · subst ec; subst ev9; subst eP
    rw [gon_sg T I (by rw [h]; exact nI_ne (by decide) (by decide) (by decide))]
    rw [h, decide_eq_true rfl] at t42
    obtain ⟨aT, eN, bD, bP, cD, wT, oP, bS, cS, wS⟩ := q
    exact if_neg (by rw [show (42 : Int32) = nI 42 from rfl, t42]; decide)
  · subst ec; subst ev9; subst eP
    rw [gon_sg T I (by rw [h]; exact nI_ne (by decide) (by decide) (by decide))]
    rw [h, decide_eq_false (nI_ne (by decide) (by decide) (by decide))] at t42
    rw [h, decide_eq_true rfl] at t47
    obtain ⟨aT, eN, bD, bP, cD, wT, oP, bS, cS, wS⟩ := q
    exact (if_pos (by rw [show (42 : Int32) = nI 42 from rfl, t42]; rfl)).trans (if_neg (by rw [show (47 : Int32) = nI 47 from rfl, t47]; decide))
  · subst ec; subst ev9; subst eP
    rw [gon_sg T I (by rw [h]; exact nI_ne (by decide) (by decide) (by decide))]
    rw [h, decide_eq_false (nI_ne (by decide) (by decide) (by decide))] at t42 t47
    rw [h, decide_eq_true rfl] at t43
    obtain ⟨aT, eN, bD, bP, cD, wT, oP, bS, cS, wS⟩ := q
    exact (if_pos (by rw [show (42 : Int32) = nI 42 from rfl, t42]; rfl)).trans ((if_pos (by rw [show (47 : Int32) = nI 47 from rfl, t47]; rfl)).trans (if_neg (by rw [show (43 : Int32) = nI 43 from rfl, t43]; decide)))
  · subst ec; subst ev9; subst eP
    rw [gon_sg T I (by rw [h]; exact nI_ne (by decide) (by decide) (by decide))]
    rw [h, decide_eq_false (nI_ne (by decide) (by decide) (by decide))] at t42 t47 t43
    rw [h, decide_eq_true rfl] at t45
    obtain ⟨aT, eN, bD, bP, cD, wT, oP, bS, cS, wS⟩ := q
    exact (if_pos (by rw [show (42 : Int32) = nI 42 from rfl, t42]; rfl)).trans ((if_pos (by rw [show (47 : Int32) = nI 47 from rfl, t47]; rfl)).trans ((if_pos (by rw [show (43 : Int32) = nI 43 from rfl, t43]; rfl)).trans (if_neg (by rw [show (45 : Int32) = nI 45 from rfl, t45]; decide))))
/-- behind a join -/
theorem jn_pr {M : mM} {tx : Nat → Nat} {L o c : Nat} {v : Int32} {P : Int32 → Bool} {Z : rZ} {q q0 : pS} {ps : List Int32} (T : txM M tx L) (I : prI M tx L Z q o) (D : cdI tx L Z q ps) (S : skI9 q q0 ps) (hj : jnT c v P) (h : rtok Z = nI c) (hp : ∀ j, j < ps.length → P (ps.getD j 0) = true) (h0 : q0.2.2.2.2.2.1 = 0 ∨ P (q0.2.2.2.2.2.2.2.2.2 (q0.2.2.2.2.2.1 - 1)) = false) : ∃ q2, gonQ M L q = (true, q2) ∧ prI M tx L (rnxt Z) q2 o ∧ cdI tx L (rnxt Z) q2 [] ∧ skI9 q2 q0 [v] := by
  have hcs : c < 256 ∧ isSg c := by
    obtain ⟨s40, s41, s42, s43, s44, s45, s47, -⟩ := sg_ok
    rcases hj with ⟨ec, -⟩ | ⟨ec, -⟩ | ⟨ec, -⟩ | ⟨ec, -⟩ <;> subst ec
    · exact ⟨by decide, s42⟩
    · exact ⟨by decide, s47⟩
    · exact ⟨by decide, s43⟩
    · exact ⟨by decide, s45⟩
  refine ⟨_, gon_jn T I hj h, ?_⟩
  have S2 : skI9 (skb M L q.1 + 1, q.2) q0 ps := S
  obtain ⟨d1, d2, d3, d4⟩ := dP_at S2 hp h0
  obtain ⟨C, ⟨z0, z1⟩, ⟨i1, i2⟩, i3, i4⟩ := I
  obtain ⟨-, g, -, e13, -⟩ := cur_at T C
  have hcur := (tok_c T C hcs.1 hcs.2).2 h (jnQ P v (skb M L q.1 + 1, q.2)) rfl rfl
  have hle := (skb_le (M := M) (L := L) (a := q.1)).1
  have e1 : (jnQ P v (skb M L q.1 + 1, q.2)).1 = skb M L q.1 + 1 := rfl
  have e6 : (jnQ P v (skb M L q.1 + 1, q.2)).2.2.2.2.2.1 = q0.2.2.2.2.2.1 + 1 := congrArg (· + 1) d1
  have e5 : (jnQ P v (skb M L q.1 + 1, q.2)).2.2.2.2.1 = q.2.2.2.2.1 + ps.length := d2
  obtain ⟨c1, c2, c3, c4⟩ := D
  have s1 := S.1
  refine ⟨⟨hcur, ⟨z0, (up2_k _ _ (show 1 ≠ 13 by decide)).trans z1⟩, ⟨?_, ?_⟩, i3, i4⟩, ⟨?_, ?_, fun i hi => ?_, fun j hj => absurd hj (Nat.not_lt_zero j)⟩, ⟨e6, S.2.1, fun i hi => ?_, fun j hj => ?_⟩⟩
  · exact hcur.2.2.1
  · show (jnQ P v (skb M L q.1 + 1, q.2)).2.2.2.2.1 + (jnQ P v (skb M L q.1 + 1, q.2)).2.2.2.2.2.1 ≤ (jnQ P v (skb M L q.1 + 1, q.2)).1 + 2
    rw [e5, e6, e1]
    have : q.2.2.2.2.1 + q.2.2.2.2.2.1 ≤ q.1 + 2 := i2
    omega
  · show rnxt Z 0 4 = nI ((jnQ P v (skb M L q.1 + 1, q.2)).2.2.2.2.1 + 0)
    rw [e5, Nat.add_zero]
    exact (up2_k _ _ (show 4 ≠ 13 by decide)).trans c1
  · show (jnQ P v (skb M L q.1 + 1, q.2)).2.2.2.2.1 + 0 ≤ cnt tx L (jnQ P v (skb M L q.1 + 1, q.2)).1
    rw [e5, e1]
    have := cnt_mono (tx := tx) (L := L) (i := q.1) (skb M L q.1 + 1 - q.1)
    rw [show q.1 + (skb M L q.1 + 1 - q.1) = skb M L q.1 + 1 by omega] at this
    omega
  · rw [e5] at hi
    have er : rnxt Z 1 = Z 1 := up2_row (by decide)
    rw [er]
    by_cases y : i < q.2.2.2.2.1
    · have := d3 i y
      show cdR ((jnQ P v (skb M L q.1 + 1, q.2)).2.2.2.2.2.2.2.2.1 i) _
      rw [show (jnQ P v (skb M L q.1 + 1, q.2)).2.2.2.2.2.2.2.2.1 i = q.2.2.2.2.2.2.2.2.1 i from this]
      exact c3 i y
    · obtain ⟨j, hj, ej⟩ : ∃ j, j < ps.length ∧ i = q.2.2.2.2.1 + j := ⟨i - q.2.2.2.2.1, by omega, by omega⟩
      subst ej
      rw [show (jnQ P v (skb M L q.1 + 1, q.2)).2.2.2.2.2.2.2.2.1 (q.2.2.2.2.1 + j) = ps.getD j 0 from d4 j hj]
      exact c4 j hj
  · show va_up q.2.2.2.2.2.2.2.2.2 (dwQ (skb M L q.1 + 1, q.2) (fun i => P (q.2.2.2.2.2.2.2.2.2 i))).2.2.2.2.2.1 v i = _
    rw [show (dwQ (skb M L q.1 + 1, q.2) (fun i => P (q.2.2.2.2.2.2.2.2.2 i))).2.2.2.2.2.1 = q0.2.2.2.2.2.1 from d1, va_n (show i ≠ q0.2.2.2.2.2.1 by omega)]
    exact S.2.2.1 i hi
  · have e0 : j = 0 := by
      have : j < 1 := hj
      omega
    subst e0
    show va_up q.2.2.2.2.2.2.2.2.2 (dwQ (skb M L q.1 + 1, q.2) (fun i => P (q.2.2.2.2.2.2.2.2.2 i))).2.2.2.2.2.1 v (q0.2.2.2.2.2.1 + 0) = v
    rw [show (dwQ (skb M L q.1 + 1, q.2) (fun i => P (q.2.2.2.2.2.2.2.2.2 i))).2.2.2.2.2.1 = q0.2.2.2.2.2.1 from d1]
    exact va_s
