/-! ===== the parsers agree: and, or ===== -/
theorem jnQ_pr {M : mM} {tx : Nat → Nat} {L o a : Nat} {e v : Int32} {P : Int32 → Bool} {Z : rZ} {q q0 : pS} {ps : List Int32} (T : txM M tx L) (I : prI M tx L Z q o) (D : cdI tx L Z q ps) (S : skI9 q q0 ps) (C2 : cur9 M tx L (rnxt Z) (jnQ P v (a, e, q.2.2))) (hp : ∀ j, j < ps.length → P (ps.getD j 0) = true) (h0 : q0.2.2.2.2.2.1 = 0 ∨ P (q0.2.2.2.2.2.2.2.2.2 (q0.2.2.2.2.2.1 - 1)) = false) : prI M tx L (rnxt Z) (jnQ P v (a, e, q.2.2)) o ∧ cdI tx L (rnxt Z) (jnQ P v (a, e, q.2.2)) [] ∧ skI9 (jnQ P v (a, e, q.2.2)) q0 [v] := by
  have S2 : skI9 (a, e, q.2.2) q0 ps := S
  obtain ⟨d1, d2, d3, d4⟩ := dP_at S2 hp h0
  have k1 := jn_cnt T I.1 C2
  have hlt := cnt_up (show cnt tx L q.1 < cnt tx L (jnQ P v (a, e, q.2.2)).1 by omega)
  obtain ⟨C, ⟨z0, z1⟩, ⟨i1, i2⟩, i3, i4⟩ := I
  have e1 : (jnQ P v (a, e, q.2.2)).1 = a := rfl
  have e6 : (jnQ P v (a, e, q.2.2)).2.2.2.2.2.1 = q0.2.2.2.2.2.1 + 1 := congrArg (· + 1) d1
  have e5 : (jnQ P v (a, e, q.2.2)).2.2.2.2.1 = q.2.2.2.2.1 + ps.length := d2
  obtain ⟨c1, c2, c3, c4⟩ := D
  have s1 := S.1
  rw [e1] at hlt
  refine ⟨⟨C2, ⟨z0, (up2_k _ _ (show 1 ≠ 13 by decide)).trans z1⟩, ⟨C2.2.2.1, ?_⟩, i3, i4⟩, ⟨?_, ?_, fun i hi => ?_, fun j hj => absurd hj (Nat.not_lt_zero j)⟩, ⟨e6, S.2.1, fun i hi => ?_, fun j hj => ?_⟩⟩
  · show (jnQ P v (a, e, q.2.2)).2.2.2.2.1 + (jnQ P v (a, e, q.2.2)).2.2.2.2.2.1 ≤ (jnQ P v (a, e, q.2.2)).1 + 2
    rw [e5, e6, e1]
    have : q.2.2.2.2.1 + q.2.2.2.2.2.1 ≤ q.1 + 2 := i2
    omega
  · show rnxt Z 0 4 = nI ((jnQ P v (a, e, q.2.2)).2.2.2.2.1 + 0)
    rw [e5, Nat.add_zero]
    exact (up2_k _ _ (show 4 ≠ 13 by decide)).trans c1
  · show (jnQ P v (a, e, q.2.2)).2.2.2.2.1 + 0 ≤ cnt tx L (jnQ P v (a, e, q.2.2)).1
    rw [e5, k1]
    omega
  · rw [e5] at hi
    have er : rnxt Z 1 = Z 1 := up2_row (by decide)
    rw [er]
    by_cases y : i < q.2.2.2.2.1
    · rw [show (jnQ P v (a, e, q.2.2)).2.2.2.2.2.2.2.2.1 i = q.2.2.2.2.2.2.2.2.1 i from d3 i y]
      exact c3 i y
    · obtain ⟨j, hj, ej⟩ : ∃ j, j < ps.length ∧ i = q.2.2.2.2.1 + j := ⟨i - q.2.2.2.2.1, by omega, by omega⟩
      subst ej
      rw [show (jnQ P v (a, e, q.2.2)).2.2.2.2.2.2.2.2.1 (q.2.2.2.2.1 + j) = ps.getD j 0 from d4 j hj]
      exact c4 j hj
  · show va_up q.2.2.2.2.2.2.2.2.2 (dwQ (a, e, q.2.2) (fun i => P (q.2.2.2.2.2.2.2.2.2 i))).2.2.2.2.2.1 v i = _
    rw [show (dwQ (a, e, q.2.2) (fun i => P (q.2.2.2.2.2.2.2.2.2 i))).2.2.2.2.2.1 = q0.2.2.2.2.2.1 from d1, va_n (show i ≠ q0.2.2.2.2.2.1 by omega)]
    exact S.2.2.1 i hi
  · have e0 : j = 0 := by
      have : j < 1 := hj
      omega
    subst e0
    show va_up q.2.2.2.2.2.2.2.2.2 (dwQ (a, e, q.2.2) (fun i => P (q.2.2.2.2.2.2.2.2.2 i))).2.2.2.2.2.1 v (q0.2.2.2.2.2.1 + 0) = v
    rw [show (dwQ (a, e, q.2.2) (fun i => P (q.2.2.2.2.2.2.2.2.2 i))).2.2.2.2.2.1 = q0.2.2.2.2.2.1 from d1]
    exact va_s
def PA : Int32 → Bool := fun x => decide (x = 14)
def PO : Int32 → Bool := fun x => decide (x = 14) || decide (x = 15)
theorem gt_no {M : mM} {tx : Nat → Nat} {L : Nat} {Z : rZ} {q : pS} (T : txM M tx L) (C : cur9 M tx L Z q) (h : ¬ rtok Z = nI 93) : gtB M L q = (false, (skb M L q.1, q.2)) := by
  have h1 := (tok_c T C (c := 93) (by decide) sg_ok.2.2.2.2.2.2.2.2.2.2.2.2).1
  obtain ⟨aT, eN, bD, bP, cD, wT, oP, bS, cS, wS⟩ := q
  exact if_neg (fun z => h (h1.mp z))
theorem dn_id {q : pS} (h : q.2.2.2.2.2.1 = 0 ∨ ¬ q.2.2.2.2.2.2.2.2.2 (q.2.2.2.2.2.1 - 1) = 16) : dnQ q = q := by
  obtain ⟨aT, eN, bD, bP, cD, wT, oP, bS, cS, wS⟩ := q
  have e : dnF wS wT cD oP cS = (wT, cD, oP, cS) := by
    cases wT with
    | zero => rfl
    | succ w => exact if_neg (h.resolve_left (Nat.succ_ne_zero w))
  by_cases z : bD = 0
  · have l : dnQ (aT, eN, bD, bP, cD, wT, oP, bS, cS, wS) = (aT, eN, bD, bP, (dnF wS wT cD oP cS).2.1, (dnF wS wT cD oP cS).1, (dnF wS wT cD oP cS).2.2.1, bS, (dnF wS wT cD oP cS).2.2.2, wS) := if_pos z
    rw [l, e]
  · exact if_neg z
/-- and / or is taken -/
theorem jt_pr {M : mM} {tx : Nat → Nat} {L o k : Nat} {v : Int32} {P : Int32 → Bool} {Z : rZ} {q q0 : pS} {ps : List Int32} (T : txM M tx L) (R : rV M) (I : prI M tx L Z q o) (D : cdI tx L Z q ps) (S : skI9 q q0 ps) (hk : (k = 12 ∧ v = 14 ∧ P = PA) ∨ (k = 13 ∧ v = 15 ∧ P = PO)) (h : rtok Z = nI k) (hp : ∀ j, j < ps.length → P (ps.getD j 0) = true) (h0 : q0.2.2.2.2.2.1 = 0 ∨ P (q0.2.2.2.2.2.2.2.2.2 (q0.2.2.2.2.2.1 - 1)) = false) (h16 : q.2.2.2.2.2.1 = 0 ∨ ¬ q.2.2.2.2.2.2.2.2.2 (q.2.2.2.2.2.1 - 1) = 16) : ∃ q2, tsC M L q = (true, q2) ∧ prI M tx L (rnxt Z) q2 o ∧ cdI tx L (rnxt Z) q2 [] ∧ skI9 q2 q0 [v] := by
  have C9 : cur9 M tx L Z (skb M L q.1, q.2) := cur_sk T I.1 rfl rfl
  have hid := skb_id T I.1.2.2.1
  have n93 : ¬ rtok Z = nI 93 := by
    rw [h]
    rcases hk with ⟨a, -⟩ | ⟨a, -⟩ <;> subst a <;> decide
  have eb := gt_no T I.1 n93
  have ec : tsC M L q = gtR M L (skb M L q.1, q.2) := by
    unfold tsC
    rw [dn_id h16, if_pos I.2.1.1, got_no T.1 I.2.2.1 (by rw [eb]; exact fun z => Bool.noConfusion z), eb]
  rw [ec]
  rcases hk with ⟨a, b, c⟩ | ⟨a, b, c⟩
  · subst a; subst b; subst c
    obtain ⟨e1, -⟩ := (hqW (k := 12) (l := 3) (r := 12) T R C9 I.2.1.1 (by decide) rfl rfl).1 h
    refine ⟨jnQ PA 14 (skb M L q.1 + 3, nI (skb M L q.1 + 3), q.2.2), ?_, jnQ_pr T I D S (adv_w T I.1 (show 12 < 23 by decide) ((tok_w T I.1 I.2.1.1 (by decide) (rV_K R (show 12 < 23 by decide))).2 h) _ rfl rfl) hp h0⟩
    obtain ⟨aT, eN, bD, bP, cD, wT, oP, bS, cS, wS⟩ := q
    have hid' : skb M L (skb M L aT) = skb M L aT := hid
    refine (if_neg (by rw [e1]; decide)).trans ?_
    rw [hid']
    rfl
  · subst a; subst b; subst c
    have e0 := (hqW (k := 12) (l := 3) (r := 12) T R C9 I.2.1.1 (by decide) rfl rfl).2 (by rw [h]; decide)
    obtain ⟨e1, -⟩ := (hqW (k := 13) (l := 2) (r := 11) T R C9 I.2.1.1 (by decide) rfl rfl).1 h
    refine ⟨jnQ PO 15 (skb M L q.1 + 2, nI (skb M L q.1 + 2), q.2.2), ?_, jnQ_pr T I D S (adv_w T I.1 (show 13 < 23 by decide) ((tok_w T I.1 I.2.1.1 (by decide) (rV_K R (show 13 < 23 by decide))).2 h) _ rfl rfl) hp h0⟩
    obtain ⟨aT, eN, bD, bP, cD, wT, oP, bS, cS, wS⟩ := q
    have hid' : skb M L (skb M L aT) = skb M L aT := hid
    refine (if_pos (by rw [e0]; rfl)).trans ((if_neg (by rw [e1]; decide)).trans ?_)
    rw [hid']
    rfl
