/-! ===== the parsers agree: what a part begins with ===== -/
theorem if_bI {α : Type} {b : Bool} {x y : α} : (if bI b = 0 then x else y) = if b = true then y else x := by
  cases b with
  | false => exact (if_pos (show bI false = 0 from rfl)).trans (if_neg (fun z => Bool.noConfusion z)).symm
  | true => exact (if_neg (show ¬ bI true = 0 from by decide)).trans (if_pos rfl).symm
theorem skb_id {M : mM} {tx : Nat → Nat} {L a : Nat} (T : txM M tx L) (ha : a ≤ L) : skb M L (skb M L a) = skb M L a := by
  obtain ⟨-, s2⟩ := sk_at T (L - a) a (by omega)
  have e : skF M (L - a) a = skb M L a := rfl
  rw [e] at s2
  obtain ⟨-, l2⟩ := skb_le (M := M) (L := L) (a := a)
  generalize skb M L a = p at s2 l2
  by_cases q : p < L
  · have hn : ¬ bkP M p := fun z => s2 q ((bk_iff T q).mp z)
    unfold skb
    rw [show L - p = (L - p - 1) + 1 by omega]
    exact if_neg hn
  · have e2 : L - p = 0 := by omega
    unfold skb
    rw [e2]
    rfl
/-- the row of the reference that holds the word k of the class -/
def rowW (k : Nat) : Nat := [16, 17, 18, 19, 20, 21, 22, 23, 24, 14, 15, 13, 12, 11, 2, 3, 4, 5, 6, 7, 8, 9, 10].getD k 0
theorem rowW_ok : ∀ k, k < 23 → ∃ j, j < 23 ∧ rowW k = 2 + j ∧ wdT.getD j [] = wdC.getD k [] := by decide +kernel
theorem rV_K {M : mM} (R : rV M) {k : Nat} (hk : k < 23) : wrK (M (rowW k)) k := by
  obtain ⟨j, h1, h2, h3⟩ := rowW_ok k hk
  intro i hi
  rw [h2, ← h3]
  exact R j h1 i (by rw [h3]; exact hi)
theorem hq_e {M : mM} {tx : Nat → Nat} {L k : Nat} {Z : rZ} {q : pS} (T : txM M tx L) (R : rV M) (C : cur9 M tx L Z q) (h0 : q.2.2.1 = 0) (hk : k < 23) : hrQ M L q (wdC.getD k []).length (M (rowW k)) = decide (rtok Z = nI k) := by
  have h := (tok_w T C h0 hk (rV_K R hk)).1
  cases hq : hrQ M L q (wdC.getD k []).length (M (rowW k)) with
  | true => exact (decide_eq_true (h.mp hq)).symm
  | false => exact (decide_eq_false (fun z => by rw [h.mpr z] at hq; exact Bool.noConfusion hq)).symm
/-- behind the word k -/
def wkQ (M : mM) (L k : Nat) (q : pS) : pS := (skb M L q.1 + (wdC.getD k []).length, nI (skb M L q.1 + (wdC.getD k []).length), q.2.2)
theorem tk_at {M : mM} {L k : Nat} {q : pS} (h : hrQ M L q (wdC.getD k []).length (M (rowW k)) = true) : tkS9 M L q (wdC.getD k []).length (M (rowW k)) = wkQ M L k q := if_pos h
theorem wk_cur {M : mM} {tx : Nat → Nat} {L k : Nat} {Z : rZ} {q : pS} (T : txM M tx L) (R : rV M) (C : cur9 M tx L Z q) (h0 : q.2.2.1 = 0) (hk : k < 23) (h : rtok Z = nI k) : cur9 M tx L (rnxt Z) (wkQ M L k q) := adv_w T C hk ((tok_w T C h0 hk (rV_K R hk)).2 h) _ rfl rfl
theorem opE_at {M : mM} {tx : Nat → Nat} {L : Nat} {Z : rZ} {q : pS} (T : txM M tx L) (R : rV M) (C : cur9 M tx L Z q) (h0 : q.2.2.1 = 0) (hs : skb M L q.1 = q.1) : opE M L q = if rtok Z = nI 0 then cdS (wkQ M L 0 q) 7 else if rtok Z = nI 1 then cdS (wkQ M L 1 q) 8 else if rtok Z = nI 2 then cdS (wkQ M L 2 q) 9 else if rtok Z = nI 3 then cdS (wkQ M L 3 q) 10 else if rtok Z = nI 4 then cdS (wkQ M L 4 q) 18 else if rtok Z = nI 5 then cdS (wkQ M L 5 q) 19 else if rtok Z = nI 6 then cdS (wkQ M L 6 q) 30 else npS M L q := by
  have hq := fun (k : Nat) (hk : k < 23) => hq_e T R C h0 hk
  have tk := fun (k : Nat) (h : hrQ M L q (wdC.getD k []).length (M (rowW k)) = true) => tk_at (M := M) (L := L) (q := q) h
  obtain ⟨aT, eN, bD, bP, cD, wT, oP, bS, cS, wS⟩ := q
  have e : opE M L (aT, eN, bD, bP, cD, wT, oP, bS, cS, wS) = (if bD = 0 then (if (bI (hrQ M L (aT, eN, bD, bP, cD, wT, oP, bS, cS, wS) 4 (M 16))) = 0 then (if (bI (hrQ M L ((skb M L aT), eN, bD, bP, cD, wT, oP, bS, cS, wS) 5 (M 17))) = 0 then (if (bI (hrQ M L ((skb M L aT), eN, bD, bP, cD, wT, oP, bS, cS, wS) 5 (M 18))) = 0 then (if (bI (hrQ M L ((skb M L aT), eN, bD, bP, cD, wT, oP, bS, cS, wS) 3 (M 19))) = 0 then (if (bI (hrQ M L ((skb M L aT), eN, bD, bP, cD, wT, oP, bS, cS, wS) 4 (M 20))) = 0 then (if (bI (hrQ M L ((skb M L aT), eN, bD, bP, cD, wT, oP, bS, cS, wS) 6 (M 21))) = 0 then (if (bI (hrQ M L ((skb M L aT), eN, bD, bP, cD, wT, oP, bS, cS, wS) 4 (M 22))) = 0 then (npS M L ((skb M L aT), eN, bD, bP, cD, wT, oP, bS, cS, wS)) else (cdS (tkS9 M L ((skb M L aT), eN, bD, bP, cD, wT, oP, bS, cS, wS) 4 (M 22)) 30)) else (cdS (tkS9 M L ((skb M L aT), eN, bD, bP, cD, wT, oP, bS, cS, wS) 6 (M 21)) 19)) else (cdS (tkS9 M L ((skb M L aT), eN, bD, bP, cD, wT, oP, bS, cS, wS) 4 (M 20)) 18)) else (cdS (tkS9 M L ((skb M L aT), eN, bD, bP, cD, wT, oP, bS, cS, wS) 3 (M 19)) 10)) else (cdS (tkS9 M L ((skb M L aT), eN, bD, bP, cD, wT, oP, bS, cS, wS) 5 (M 18)) 9)) else (cdS (tkS9 M L ((skb M L aT), eN, bD, bP, cD, wT, oP, bS, cS, wS) 5 (M 17)) 8)) else (cdS (tkS9 M L (aT, eN, bD, bP, cD, wT, oP, bS, cS, wS) 4 (M 16)) 7)) else (aT, eN, bD, bP, cD, wT, oP, bS, cS, wS)) := rfl
  have hs' : skb M L aT = aT := hs
  have h0' : bD = 0 := h0
  rw [e, hs', if_pos h0', if_bI, if_bI, if_bI, if_bI, if_bI, if_bI, if_bI]
  have g : ∀ (k : Nat) (hk : k < 23) (l : Nat) (r : Nat), (wdC.getD k []).length = l → rowW k = r → (hrQ M L (aT, eN, bD, bP, cD, wT, oP, bS, cS, wS) l (M r) = true ↔ rtok Z = nI k) ∧ (rtok Z = nI k → tkS9 M L (aT, eN, bD, bP, cD, wT, oP, bS, cS, wS) l (M r) = wkQ M L k (aT, eN, bD, bP, cD, wT, oP, bS, cS, wS)) := fun k hk l r el er => by
    subst el
    subst er
    have h1 := hq k hk
    refine ⟨by rw [h1]; exact decide_eq_true_iff, fun z => tk k ?_⟩
    rw [h1]
    exact decide_eq_true z
  obtain ⟨a1, a2⟩ := g 0 (by decide) 4 16 rfl rfl
  obtain ⟨b1, b2⟩ := g 1 (by decide) 5 17 rfl rfl
  obtain ⟨c1, c2⟩ := g 2 (by decide) 5 18 rfl rfl
  obtain ⟨d1, d2⟩ := g 3 (by decide) 3 19 rfl rfl
  obtain ⟨f1, f2⟩ := g 4 (by decide) 4 20 rfl rfl
  obtain ⟨i1, i2⟩ := g 5 (by decide) 6 21 rfl rfl
  obtain ⟨j1, j2⟩ := g 6 (by decide) 4 22 rfl rfl
  by_cases y0 : rtok Z = nI 0
  · rw [if_pos (a1.mpr y0), if_pos y0, a2 y0]
  rw [if_neg (fun z => y0 (a1.mp z)), if_neg y0]
  by_cases y1 : rtok Z = nI 1
  · rw [if_pos (b1.mpr y1), if_pos y1, b2 y1]
  rw [if_neg (fun z => y1 (b1.mp z)), if_neg y1]
  by_cases y2 : rtok Z = nI 2
  · rw [if_pos (c1.mpr y2), if_pos y2, c2 y2]
  rw [if_neg (fun z => y2 (c1.mp z)), if_neg y2]
  by_cases y3 : rtok Z = nI 3
  · rw [if_pos (d1.mpr y3), if_pos y3, d2 y3]
  rw [if_neg (fun z => y3 (d1.mp z)), if_neg y3]
  by_cases y4 : rtok Z = nI 4
  · rw [if_pos (f1.mpr y4), if_pos y4, f2 y4]
  rw [if_neg (fun z => y4 (f1.mp z)), if_neg y4]
  by_cases y5 : rtok Z = nI 5
  · rw [if_pos (i1.mpr y5), if_pos y5, i2 y5]
  rw [if_neg (fun z => y5 (i1.mp z)), if_neg y5]
  by_cases y6 : rtok Z = nI 6
  · rw [if_pos (j1.mpr y6), if_pos y6, j2 y6]
  rw [if_neg (fun z => y6 (j1.mp z)), if_neg y6]
