/-! ===== the parsers agree: a number ===== -/
theorem dgt {q : Nat} : srt q = 2 ↔ 48 ≤ q ∧ q ≤ 57 := by
  unfold srt
  repeat' split
  all_goals omega
theorem dg_iff {M : mM} {tx : Nat → Nat} {L a : Nat} (T : txM M tx L) (ha : a < L) : dgP M a ↔ srt (tx a) = 2 := by
  obtain ⟨e, hb⟩ := T.2 a ha
  rw [dgt]
  unfold dgP
  rw [e, show (48 : Int32) = nI 48 from rfl, show (57 : Int32) = nI 57 from rfl, nI_leq (by omega) (by omega), nI_leq (by omega) (by omega)]
theorem nu_0 {M : mM} {b a : Nat} {v : Int32} : nuF M b 0 a v = (false, a, v) := rfl
theorem nu_s {M : mM} {b k a : Nat} {v : Int32} : nuF M b (k + 1) a v = if dgP M a then (if nI (a - b) = 5 then (true, a, v) else nuF M b k (a + 1) (10 * v + M 1 a - 48)) else (false, a, v) := rfl
theorem nm_s {tx : Nat → Nat} {L b r v : Nat} : nmR tx L b (r + 1) v = if b + (5 - r) < L ∧ srt (tx (b + (5 - r))) = 2 then (if r = 0 then -1 else nmR tx L b r (v * 10 + tx (b + (5 - r)) - 48)) else nI v := rfl
theorem nu_nm {M : mM} {tx : Nat → Nat} {L b : Nat} (T : txM M tx L) : ∀ (r a v k : Nat), r ≤ 5 → a = b + (5 - r) → a + k = L → (v + 1) * 10 ^ r ≤ 100000 → ((nuF M b k a (nI v)).1 = true → nmR tx L b (r + 1) v = -1 ∧ (nuF M b k a (nI v)).2.1 = b + 5) ∧ ((nuF M b k a (nI v)).1 = false → ∃ V, V < 100000 ∧ nmR tx L b (r + 1) v = nI V ∧ (nuF M b k a (nI v)).2.2 = nI V ∧ a ≤ (nuF M b k a (nI v)).2.1 ∧ (nuF M b k a (nI v)).2.1 ≤ L ∧ (∀ j, a ≤ j → j < (nuF M b k a (nI v)).2.1 → srt (tx j) = 2) ∧ ((nuF M b k a (nI v)).2.1 < L → ¬ srt (tx (nuF M b k a (nI v)).2.1) = 2)) := by
  have hL := T.1
  have stop : ∀ (r a v : Nat), a = b + (5 - r) → ¬ (a < L ∧ srt (tx a) = 2) → a ≤ L → (v + 1) * 10 ^ r ≤ 100000 → ((false, a, nI v) : Bool × Nat × Int32).1 = false ∧ ∃ V, V < 100000 ∧ nmR tx L b (r + 1) v = nI V ∧ nI v = nI V ∧ a ≤ a ∧ a ≤ L ∧ (∀ j, a ≤ j → j < a → srt (tx j) = 2) ∧ (a < L → ¬ srt (tx a) = 2) := fun r a v ha hn hal hv => by
    have h1 : 1 ≤ 10 ^ r := Nat.pow_pos (by decide)
    have h2 : (v + 1) * 1 ≤ (v + 1) * 10 ^ r := Nat.mul_le_mul_left _ h1
    refine ⟨rfl, v, by omega, ?_, rfl, Nat.le_refl _, hal, fun j z1 z2 => absurd z2 (by omega), fun z1 z2 => hn ⟨z1, z2⟩⟩
    rw [nm_s, ← ha, if_neg hn]
  intro r
  induction r with
  | zero =>
    intro a v k h5 ha hk hv
    by_cases q : a < L ∧ srt (tx a) = 2
    · obtain ⟨k', e⟩ : ∃ k', k = k' + 1 := ⟨k - 1, by omega⟩
      subst e
      have e1 : nuF M b (k' + 1) a (nI v) = (true, a, nI v) := by
        rw [nu_s, if_pos ((dg_iff T q.1).mpr q.2), show a - b = 5 by omega]
        exact if_pos rfl
      rw [e1]
      refine ⟨fun _ => ⟨?_, ha⟩, fun z => Bool.noConfusion z⟩
      rw [nm_s, ← ha, if_pos q, if_pos rfl]
    · have e1 : nuF M b k a (nI v) = (false, a, nI v) := by
        cases k with
        | zero => rfl
        | succ k' =>
          rw [nu_s, if_neg (fun z => q ⟨by omega, (dg_iff T (by omega)).mp z⟩)]
      rw [e1]
      exact ⟨fun z => Bool.noConfusion z, fun _ => (stop 0 a v ha q (by omega) hv).2⟩
  | succ r ih =>
    intro a v k h5 ha hk hv
    by_cases q : a < L ∧ srt (tx a) = 2
    · obtain ⟨k', e⟩ : ∃ k', k = k' + 1 := ⟨k - 1, by omega⟩
      subst e
      obtain ⟨t1, t2⟩ := T.2 a q.1
      have hd := dgt.mp q.2
      have ev9 : 10 * nI v + M 1 a - 48 = nI (v * 10 + tx a - 48) := by
        rw [t1, show (10 : Int32) = nI 10 from rfl, show (48 : Int32) = nI 48 from rfl, pk_mul, nI_add, nI_sub (by omega), Nat.mul_comm]
      have e1 : nuF M b (k' + 1) a (nI v) = nuF M b k' (a + 1) (nI (v * 10 + tx a - 48)) := by
        rw [nu_s, if_pos ((dg_iff T q.1).mpr q.2), if_neg (fun z => by
          rw [show (5 : Int32) = nI 5 from rfl, nI_q (by omega) (by omega)] at z
          omega), ev9]
      have hp : (v * 10 + tx a - 48 + 1) * 10 ^ r ≤ 100000 := by
        have h1 : (v * 10 + tx a - 48 + 1) * 10 ^ r ≤ ((v + 1) * 10) * 10 ^ r := Nat.mul_le_mul_right _ (by omega)
        have h2 : (v + 1) * 10 ^ (r + 1) = ((v + 1) * 10) * 10 ^ r := by
          rw [Nat.pow_succ, Nat.mul_comm (10 ^ r) 10, Nat.mul_assoc]
        omega
      obtain ⟨i1, i2⟩ := ih (a + 1) (v * 10 + tx a - 48) k' (by omega) (by omega) (by omega) hp
      have em : nmR tx L b (r + 1 + 1) v = nmR tx L b (r + 1) (v * 10 + tx a - 48) := by
        rw [nm_s, ← ha, if_pos q, if_neg (by omega)]
      rw [e1, em]
      refine ⟨i1, fun z => ?_⟩
      obtain ⟨V, v1, v2, v3, v4, v5, v6, v7⟩ := i2 z
      refine ⟨V, v1, v2, v3, by omega, v5, fun j z1 z2 => ?_, v7⟩
      by_cases y : j = a
      · rw [y]; exact q.2
      · exact v6 j (by omega) z2
    · have e1 : nuF M b k a (nI v) = (false, a, nI v) := by
        cases k with
        | zero => rfl
        | succ k' =>
          rw [nu_s, if_neg (fun z => q ⟨by omega, (dg_iff T (by omega)).mp z⟩)]
      rw [e1]
      exact ⟨fun z => Bool.noConfusion z, fun _ => (stop (r + 1) a v ha q (by omega) hv).2⟩
theorem rnum_ok {Z : rZ} {u m : Int32} (h1 : rtok Z = 23) (h2 : ¬ rval Z = -1) (h3 : ¬ m < rval Z) : rnum Z u m = (true, remi (rnxt Z) u (rval Z)) := by
  unfold rnum rpas rbd
  rw [if_neg (fun z => h2 z.2), if_neg (fun z => h3 z.2), if_pos h1]
  rfl
theorem rnum_no {Z : rZ} {u m : Int32} (h1 : ¬ rtok Z = 23) : rnum Z u m = (false, rref Z 1 (rher Z)) := by
  unfold rnum rpas rbd
  rw [if_neg (fun z => h1 z.1), if_neg (fun z => h1 z.1), if_neg h1]
  rfl
theorem fl_0 {q : pS} {k p : Int32} (h : q.2.2.1 = 0) : flS9 q k p = (q.1, q.2.1, k, p, q.2.2.2.2) := if_pos h
theorem tok_n {M : mM} {tx : Nat → Nat} {L m : Nat} {Z : rZ} {q : pS} (T : txM M tx L) (C : cur9 M tx L Z q) (h0 : q.2.2.1 = 0) (hm : m < 2147483648) : (∃ v e, v ≤ m ∧ v < 100000 ∧ nbV M L q 0 (nI m) = (nI v, (e, nI e, q.2.2)) ∧ rtok Z = 23 ∧ (∀ u, rnum Z u (nI m) = (true, remi (rnxt Z) u (nI v))) ∧ ∀ r : pS, r.1 = e → r.2.1 = nI e → cur9 M tx L (rnxt Z) r) ∨ ∃ x y k p val, ¬ k = 0 ∧ nbV M L q 0 (nI m) = (val, (x, y, k, p, q.2.2.2.2)) ∧ ∀ u, rnum Z u (nI m) = (false, rref Z k p) := by
  obtain ⟨⟨e1, e2, e3⟩, g, s3, -, s5⟩ := cur_at T C
  have hL := T.1
  have hno : ¬ rtok Z = 23 → (48 ≤ lkV M L q.1 ∧ lkV M L q.1 ≤ 57 → nI (skb M L q.1) = q.2.1) → ∃ x y k p val, ¬ k = 0 ∧ nbV M L q 0 (nI m) = (val, (x, y, k, p, q.2.2.2.2)) ∧ ∀ u, rnum Z u (nI m) = (false, rref Z k p) := fun z1 z2 => by
    refine ⟨skb M L q.1, q.2.1, 1, nI (skb M L q.1), 0, by decide, ?_, fun u => by rw [rnum_no z1, e2]⟩
    unfold nbV
    rw [if_pos h0]
    have ef : flS9 (skb M L q.1, q.2) 1 (nI (skb M L q.1)) = (skb M L q.1, q.2.1, 1, nI (skb M L q.1), q.2.2.2.2) := fl_0 h0
    by_cases y : 48 ≤ lkV M L q.1 ∧ lkV M L q.1 ≤ 57
    · rw [if_pos y, if_pos (z2 y), ef]
    · rw [if_neg y, ef]
  by_cases q1 : skb M L q.1 < L
  · obtain ⟨l1, l2⟩ := lk_in T q1
    have hl : (48 ≤ lkV M L q.1 ∧ lkV M L q.1 ≤ 57) ↔ srt (tx (skb M L q.1)) = 2 := by
      rw [l1, dgt, show (48 : Int32) = nI 48 from rfl, show (57 : Int32) = nI 57 from rfl, nI_leq (by omega) (by omega), nI_leq (by omega) (by omega)]
    have h3 := srt_3 (tx (skb M L q.1))
    have hz := s5 q1
    by_cases c : srt (tx (skb M L q.1)) = 2
    · have hb := g.2.1 q1 (Or.inr c)
      rw [c] at hb
      have hk := tk_2 q1 c hb
      by_cases c1 : bf tx (skb M L q.1) = 1
      · refine Or.inr (hno ?_ (fun _ => (g.2.2 _ (Nat.le_refl _) g.1).mpr ⟨rfl, Or.inl c1⟩))
        rw [e1, hk, if_pos c1]
        exact (show ¬ (25 : Int32) = 23 by decide)
      · have e23 : rtok Z = 23 := by rw [e1, hk, if_neg c1]
        have ev9 : rval Z = nmS tx L (skb M L q.1) := by rw [e3, hk]
        have hne : ¬ nI (skb M L q.1) = q.2.1 := fun z => by
          have := ((g.2.2 _ (Nat.le_refl _) g.1).mp z).2
          omega
        have hnu := nu_nm (b := skb M L q.1) T 5 (skb M L q.1) 0 (L - skb M L q.1) (by omega) (by omega) (by omega) (by decide)
        have en : nuF M (skb M L q.1) (L - skb M L q.1) (skb M L q.1) (nI 0) = nuS M L (skb M L q.1) := rfl
        have em : nmR tx L (skb M L q.1) (5 + 1) 0 = nmS tx L (skb M L q.1) := rfl
        rw [en, em, ← ev9] at hnu
        have enb : nbV M L q 0 (nI m) = (if (nuS M L (skb M L q.1)).1 = true then (0, flS9 ((nuS M L (skb M L q.1)).2.1, q.2) 1 (nI (nuS M L (skb M L q.1)).2.1)) else if (0 : Int32).toInt64 ≤ (nuS M L (skb M L q.1)).2.2.toInt64 ∧ (nuS M L (skb M L q.1)).2.2.toInt64 ≤ (nI m).toInt64 then ((nuS M L (skb M L q.1)).2.2, ((nuS M L (skb M L q.1)).2.1, nI (nuS M L (skb M L q.1)).2.1, q.2.2)) else ((nuS M L (skb M L q.1)).2.2, flS9 ((nuS M L (skb M L q.1)).2.1, nI (nuS M L (skb M L q.1)).2.1, q.2.2) 2 (nI (skb M L q.1)))) := by
          unfold nbV
          rw [if_pos h0, if_pos (hl.mpr c), if_neg hne]
        rw [enb]
        generalize nuS M L (skb M L q.1) = R at hnu
        obtain ⟨x1, x2, x3⟩ := R
        obtain ⟨n1, n2⟩ := hnu
        dsimp only at n1 n2 ⊢
        cases x1 with
        | true =>
          obtain ⟨n3, n4⟩ := n1 rfl
          refine Or.inr ⟨x2, q.2.1, 1, nI x2, 0, by decide, ?_, fun u => ?_⟩
          · rw [if_pos rfl]
            exact congrArg (Prod.mk 0) (fl_0 h0)
          · unfold rnum
            rw [if_pos ⟨e23, n3⟩, e2, n4, show (5 : Int32) = nI 5 from rfl, nI_add]
        | false =>
          obtain ⟨V, v1, v2, v3, v4, v5, v6, v7⟩ := n2 rfl
          have hV1 : ¬ rval Z = -1 := fun z => by
            have h := congrArg Int32.toInt (v2.symm.trans z)
            rw [nI_toInt (by omega), show (-1 : Int32).toInt = -1 from by decide] at h
            omega
          have hle : ((0 : Int32).toInt64 ≤ x3.toInt64 ∧ x3.toInt64 ≤ (nI m).toInt64) ↔ V ≤ m := by
            rw [v3, nL_w (by omega), nL_w hm, show (0 : Int32).toInt64 = nL 0 from by decide, fa_le64, fa_le64, nL_i (by omega), nL_i (by omega), nL_i (by omega)]
            omega
          have hgt : nI m < rval Z ↔ m < V := by
            rw [v2]
            exact nI_ltI (by omega) (by omega)
          rw [if_neg (fun z => Bool.noConfusion z)]
          by_cases y : V ≤ m
          · rw [if_pos (hle.mpr y), v3]
            obtain ⟨a1, a2⟩ := run_adv (tx := tx) (p := skb M L q.1) (l := x2 - skb M L q.1) (s := 2) hL (Or.inr rfl) (by
              rcases Nat.lt_or_ge (skb M L q.1) x2 with w | w
              · omega
              · have : x2 = skb M L q.1 := by omega
                rw [this] at v7
                exact absurd c (v7 q1)) (fun j hj => ⟨by omega, v6 _ (by omega) (by omega)⟩) (by
              rw [show skb M L q.1 + (x2 - skb M L q.1) = x2 by omega]
              exact fun z => v7 z.1 z.2) (s3 q1)
            rw [show skb M L q.1 + (x2 - skb M L q.1) = x2 by omega] at a1 a2
            refine Or.inl ⟨V, x2, y, v1, rfl, e23, fun u => ?_, fun r h1 h2 => cur_nx (b := 0) T C (by rw [h1]; exact a1) (by rw [h1, h2]; exact a2)⟩
            rw [rnum_ok e23 hV1 (fun z => by have := hgt.mp z; omega), v2]
          · rw [if_neg (fun z => y (hle.mp z))]
            refine Or.inr ⟨x2, nI x2, 2, nI (skb M L q.1), x3, by decide, congrArg (Prod.mk x3) (fl_0 h0), fun u => ?_⟩
            unfold rnum
            rw [if_neg (fun z => hV1 z.2), if_pos ⟨e23, hgt.mpr (by omega)⟩, e2]
    · refine Or.inr (hno ?_ (fun z => absurd (hl.mp z) c))
      rw [e1]
      rcases (show srt (tx (skb M L q.1)) = 1 ∨ srt (tx (skb M L q.1)) = 3 by omega) with d | d
      · have hb := g.2.1 q1 (Or.inl d)
        rw [d] at hb
        rw [tk_1 q1 d hb]
        split
        · decide
        · have hw := wrd_le (tx := tx) (L := L) (a := skb M L q.1)
          intro z
          have z2 : nI (wrd tx L (skb M L q.1)) = nI 23 := z
          rw [nI_q (by omega) (by omega)] at z2
          omega
      · rw [tk_3 q1 d]
        split
        · rename_i y
          have := (sg_t _ l2 y).1
          intro z
          have z2 : nI (tx (skb M L q.1)) = nI 23 := z
          rw [nI_q (by omega) (by omega)] at z2
          omega
        · decide
  · refine Or.inr (hno ?_ (fun z => ?_))
    · rw [e1, tk_L q1]
      decide
    · rw [lk_out q1] at z
      exact absurd z (by decide)
