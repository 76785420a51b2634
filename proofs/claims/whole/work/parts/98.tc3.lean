/-! ===== the parsers agree: sums ===== -/
theorem sum_H {M : mM} {tx : Nat → Nat} {L : Nat} (T : txM M tx L) (R : rV M) : ∀ (d o f : Nat), o + d = 6 → 5 + 11 * d ≤ f → sumH M tx L o (rdr f 2 o)
  | d, o, f, ho, hf => by
    obtain ⟨f5, ef⟩ : ∃ f5, f = f5 + 1 + 1 + 1 + 1 + 1 := ⟨f - 5, by omega⟩
    subst ef
    have HS : o < 6 → sumH M tx L (o + 1) (rdr f5 2 (o + 1)) := fun h => by
      obtain ⟨d1, ed⟩ : ∃ d1, d = d1 + 1 := ⟨d - 1, by omega⟩
      subst ed
      exact sum_H T R d1 (o + 1) f5 (by omega) (by omega)
    intro Z q I D hb top
    have H3 : ∀ (Z : rZ) (q : pS), prI M tx L Z q o → cdI tx L Z q [] → bsQ q ≤ q.2.2.2.2.2.1 → (q.2.2.2.2.2.1 = 0 ∨ (fun _ : Int32 => false) (q.2.2.2.2.2.2.2.2.2 (q.2.2.2.2.2.1 - 1)) = false) → resP M tx L Z q o (fun _ => false) (fun _ => True) (sumF M L 700 q) (rdr (f5 + 1 + 1) 7 o Z) := fun Z q I D hb _ => par_a T R I D hb HS
    have H2 : ∀ (Z : rZ) (q : pS), prI M tx L Z q o → cdI tx L Z q [] → bsQ q ≤ q.2.2.2.2.2.1 → (q.2.2.2.2.2.1 = 0 ∨ P3 (q.2.2.2.2.2.2.2.2.2 (q.2.2.2.2.2.1 - 1)) = false) → resP M tx L Z q o P3 (fun t => rjn 3 t = false ∧ True) (sumF M L 700 q) (rdr (f5 + 1 + 1 + 1 + 1) 6 o Z) := fun Z q I D hb top => row_a (it := rdr (f5 + 1 + 1) 7 o) T (Or.inl ⟨rfl, rfl, rfl⟩) H3 I D hb top
    exact row_a (it := rdr (f5 + 1 + 1 + 1 + 1) 6 o) T (Or.inr ⟨rfl, rfl, rfl⟩) H2 I D hb top
/-- no mark over the base -/
theorem mk_no {ws : Nat → Int32} {w0 : Nat} : ∀ (ps : List Int32), wtI ws w0 ps → (∀ j, j < ps.length → ¬ isMk (ps.getD j 0)) → mkF ws w0 (w0 + ps.length) = -1
  | [], _, _ => by
    show mkF ws w0 w0 = -1
    cases w0 with
    | zero => rfl
    | succ w =>
      have e : mkF ws (w + 1) (w + 1) = if w < w + 1 then -1 else if isMk (ws w) then ws w else mkF ws (w + 1) w := rfl
      rw [e, if_pos (Nat.lt_succ_self w)]
  | v :: ps, hw, hn => by
    obtain ⟨a1, a2⟩ := wtI_c hw
    have hl : (v :: ps).length = ps.length + 1 := rfl
    have e : mkF ws w0 (w0 + (v :: ps).length) = if w0 + ps.length < w0 then -1 else if isMk (ws (w0 + ps.length)) then ws (w0 + ps.length) else mkF ws w0 (w0 + ps.length) := rfl
    have h0 : ¬ isMk v := hn 0 (by omega)
    rw [e, if_neg (by omega), a1, if_neg h0]
    exact mk_no ps a2 (fun j hj => hn (j + 1) (by omega))
/-- a sum ends where no join comes -/
theorem go_end {M : mM} {tx : Nat → Nat} {L o : Nat} {Y : rZ} {q qm : pS} {ps : List Int32} (T : txM M tx L) (I : prI M tx L Y q o) (S : skI9 q qm ps) (hb : bsQ qm = qm.2.2.2.2.2.1) (hp : ∀ j, j < ps.length → P1 (ps.getD j 0) = true) (h3 : rjn 3 (rtok Y) = false) (h2 : rjn 2 (rtok Y) = false) : goK9 M L q = (skb M L q.1, q.2) := by
  obtain ⟨t1, t2, t3, t4⟩ := skQ_e T I.1 I.2.1.1 h3 h2
  have hmk : mkV (skb M L q.1, q.2) = -1 := by
    obtain ⟨s1, s2, s3, s4⟩ := S
    show mkF q.2.2.2.2.2.2.2.2.2 (bsQ q) q.2.2.2.2.2.1 = -1
    rw [s2, hb, s1]
    exact mk_no ps s4 (fun j hj => P1_mk (hp j hj))
  have h41 := (tok_c T I.1 (c := 41) (by decide) sg_ok.2.1).1
  have h0 := I.2.1.1
  have eg : gcB M L q = (false, (skb M L q.1, q.2)) := by
    by_cases y : rtok Y = nI 41
    · have lk := h41.mpr y
      obtain ⟨aT, eN, bD, bP, cD, wT, oP, bS, cS, wS⟩ := q
      exact (if_pos lk).trans ((if_neg (by rw [hmk]; decide)).trans ((if_neg (by rw [hmk]; decide)).trans (if_neg (by rw [hmk]; decide))))
    · exact gc_no T I.1 y
  have es : gsR M L (skb M L q.1, q.2) = (false, (skb M L q.1, q.2)) := by
    obtain ⟨aT, eN, bD, bP, cD, wT, oP, bS, cS, wS⟩ := q
    exact (if_pos t1).trans ((if_pos t2).trans ((if_pos t3).trans ((if_pos t4).trans ((if_neg (by rw [hmk]; decide)).trans ((if_neg (by rw [hmk]; decide)).trans (if_pos hmk))))))
  unfold goK9
  rw [gon_no T.1 I.2.2.1 (by rw [eg]; exact fun z => Bool.noConfusion z), eg, es]
  rfl
/-- a whole sum on both sides: nothing waits behind it -/
def endP (M : mM) (tx : Nat → Nat) (L : Nat) (Z : rZ) (q : pS) (o : Nat) (nx : Int32 → Prop) (R : pS) (r : Bool × rZ) : Prop := frZ Z r.2 ∧ ((r.1 = true ∧ prI M tx L r.2 R o ∧ cdI tx L r.2 R [] ∧ skI9 R q [] ∧ (R.2.2.2.2.1 + cnt tx L q.1 ≤ q.2.2.2.2.1 + cnt tx L R.1 ∧ cnt tx L q.1 ≤ cnt tx L R.1) ∧ skb M L R.1 = R.1 ∧ nx (rtok r.2)) ∨ (r.1 = false ∧ stp9 R r.2))
theorem sumS_at {M : mM} {tx : Nat → Nat} {L o : Nat} {Z : rZ} {q : pS} {r2 : rZ → Bool × rZ} (T : txM M tx L) (H : sumH M tx L o r2) (I : prI M tx L Z q o) (D : cdI tx L Z q []) (h0 : q.2.2.2.2.2.1 = 0 ∨ P1 (q.2.2.2.2.2.2.2.2.2 (q.2.2.2.2.2.1 - 1)) = false) : endP M tx L Z q o nxS (sumS M L q) (r2 Z) := by
  obtain ⟨f3, h3⟩ := H Z (s7 q q.2.2.2.2.2.1) I D (Nat.le_refl _) h0
  unfold sumS
  rcases h3 with ⟨ok, q1, ps, g1, I1, D1, S1, p1, ⟨b1, b2⟩, n2, n3, -⟩ | ⟨no, st⟩
  · have ge := go_end T I1 S1 rfl p1 n3 n2
    rw [g1, ge]
    have hf0 : ((skb M L q1.1, q1.2) : pS).2.2.1 = 0 := I1.2.1.1
    have ed : dtB (skb M L q1.1, q1.2) = dwQ (skb M L q1.1, q1.2) (fun i => decide (bsQ (skb M L q1.1, q1.2) ≤ i)) := if_pos hf0
    have hbs : bsQ (skb M L q1.1, q1.2) = q.2.2.2.2.2.1 := S1.2.1
    have S9 : skI9 (skb M L q1.1, q1.2) (s7 q q.2.2.2.2.2.1) ps := S1
    obtain ⟨d1, d2, d3, d4⟩ := dq_at (p := fun i => decide (bsQ (skb M L q1.1, q1.2) ≤ i)) S9 (fun j hj => decide_eq_true (by rw [hbs]; exact Nat.le_add_right _ _)) (by
      rcases Nat.eq_zero_or_pos q.2.2.2.2.2.1 with z | z
      · exact Or.inl z
      · refine Or.inr (decide_eq_false ?_)
        rw [hbs]
        show ¬ (q.2.2.2.2.2.1 ≤ q.2.2.2.2.2.1 - 1)
        omega)
    rw [← ed] at d1 d2 d3 d4
    have e1 : (dtB (skb M L q1.1, q1.2)).1 = skb M L q1.1 := by rw [ed]; rfl
    have e2 : (dtB (skb M L q1.1, q1.2)).2.1 = q1.2.1 := by rw [ed]; rfl
    have e3 : (dtB (skb M L q1.1, q1.2)).2.2.1 = 0 := by rw [ed]; exact hf0
    have e7 : (dtB (skb M L q1.1, q1.2)).2.2.2.2.2.2.1 = q1.2.2.2.2.2.2.1 := by rw [ed]; rfl
    have e9 : (dtB (skb M L q1.1, q1.2)).2.2.2.2.2.2.2.2.2 = q1.2.2.2.2.2.2.2.2.2 := by rw [ed]; rfl
    have hle := (skb_le (M := M) (L := L) (a := q1.1)).1
    have k1 := (sk_pl T I1.1.2.2).2.1
    have hid := skb_id T I1.1.2.2.1
    generalize dtB (skb M L q1.1, q1.2) = q2 at d1 d2 d3 d4 e1 e2 e3 e7 e9 ⊢
    have hcur : cur9 M tx L (r2 Z).2 (s7 q2 (bsQ q)) := cur_sk T I1.1 e1 e2
    have d1' : q2.2.2.2.2.2.1 = q.2.2.2.2.2.1 := d1
    have d2' : q2.2.2.2.2.1 = q1.2.2.2.2.1 + ps.length := d2
    have i2 : q1.2.2.2.2.1 + q1.2.2.2.2.2.1 ≤ q1.1 + 2 := I1.2.2.1.2
    have s1 : q1.2.2.2.2.2.1 = q.2.2.2.2.2.1 + ps.length := S1.1
    obtain ⟨c1, c2, c3, c4⟩ := D1
    have b1' : q1.2.2.2.2.1 + ps.length + cnt tx L q.1 ≤ q.2.2.2.2.1 + cnt tx L q1.1 := b1
    have b2' : cnt tx L q.1 ≤ cnt tx L q1.1 := b2
    refine ⟨f3, Or.inl ⟨ok, ⟨hcur, ⟨e3, I1.2.1.2⟩, ⟨hcur.2.2.1, ?_⟩, e7.trans I1.2.2.2.1, I1.2.2.2.2⟩, ⟨?_, ?_, fun i hi => ?_, fun j hj => absurd hj (Nat.not_lt_zero j)⟩, ⟨d1', rfl, fun i hi => ?_, fun j hj => absurd hj (Nat.not_lt_zero j)⟩, ⟨?_, ?_⟩, ?_, n2, n3, trivial⟩⟩
    · show q2.2.2.2.2.1 + q2.2.2.2.2.2.1 ≤ q2.1 + 2
      omega
    · show (r2 Z).2 0 4 = nI (q2.2.2.2.2.1 + 0)
      rw [d2', Nat.add_zero]
      exact c1
    · show q2.2.2.2.2.1 + 0 ≤ cnt tx L q2.1
      rw [e1, k1]
      omega
    · have hi' : i < q2.2.2.2.2.1 := hi
      show cdR (q2.2.2.2.2.2.2.2.2.1 i) _
      by_cases y : i < q1.2.2.2.2.1
      · rw [d3 i y]
        exact c3 i y
      · obtain ⟨j, hj, ej⟩ : ∃ j, j < ps.length ∧ i = q1.2.2.2.2.1 + j := ⟨i - q1.2.2.2.2.1, by omega, by omega⟩
        subst ej
        rw [show q2.2.2.2.2.2.2.2.2.1 (q1.2.2.2.2.1 + j) = ps.getD j 0 from d4 j hj]
        exact c4 j hj
    · show q2.2.2.2.2.2.2.2.2.2 i = _
      rw [e9]
      exact S1.2.2.1 i hi
    · show q2.2.2.2.2.1 + cnt tx L q.1 ≤ q.2.2.2.2.1 + cnt tx L q2.1
      rw [e1, k1]
      omega
    · show cnt tx L q.1 ≤ cnt tx L q2.1
      rw [e1, k1]
      exact b2'
    · show skb M L q2.1 = q2.1
      rw [e1]
      exact hid
  · refine ⟨f3, Or.inr ⟨no, ?_⟩⟩
    unfold dtB
    rw [if_neg st.1]
    exact st
