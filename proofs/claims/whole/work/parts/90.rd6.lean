/-! ===== the reference's reader: bounds, progress ===== -/
/-- the base -/
abbrev bsQ (q : pS) : Nat := q.2.2.2.2.2.2.2.1
/-- codes and waiting ones -/
abbrev cwQ (q : pS) : Nat := q.2.2.2.2.1 + q.2.2.2.2.2.1
/-- within bounds, not back, the same base, no more codes than bytes -/
def okT (L : Nat) (q q' : pS) : Prop := rI L q' ∧ q.1 ≤ q'.1 ∧ bsQ q' = bsQ q ∧ cwQ q' + q.1 ≤ cwQ q + q'.1
theorem okT_r {L : Nat} {q : pS} (I : rI L q) : okT L q q := ⟨I, Nat.le_refl _, rfl, Nat.le_refl _⟩
theorem okT_t {L : Nat} {q a b : pS} (h1 : okT L q a) (h2 : okT L a b) : okT L q b := ⟨h2.1, Nat.le_trans h1.2.1 h2.2.1, h2.2.2.1.trans h1.2.2.1, by have e1 := h1.2.2.2; have e2 := h2.2.2.2; omega⟩
theorem skb_T {M : mM} {L : Nat} {q : pS} (I : rI L q) : okT L q (skb M L q.1, q.2) := ⟨skb_I I, (skb_le (M := M) (L := L) (a := q.1)).1, rfl, Nat.add_le_add_left (skb_le (M := M) (L := L) (a := q.1)).1 _⟩
theorem flS_T {L : Nat} {q : pS} {k p : Int32} (I : rI L q) : okT L q (flS9 q k p) := ⟨flS_I I, Nat.le_of_eq (flS_c _ _ _).1.symm, congrArg (fun z => z.2.2.2.1) (flS_c q k p).2, by show (flS9 q k p).2.2.2.2.1 + (flS9 q k p).2.2.2.2.2.1 + q.1 ≤ _; rw [(flS_c q k p).2, (flS_c q k p).1]; exact Nat.le_refl _⟩
theorem hrS_T {M : mM} {L : Nat} {q : pS} (I : rI L q) : okT L q (hrS M L q) := by
  unfold hrS
  split
  · exact skb_T I
  · exact okT_r I
theorem tkS_T {M : mM} {L : Nat} {q : pS} {l : Nat} {f : Nat → Int32} (I : rI L q) : okT L q (tkS9 M L q l f) := by
  have h0 := skb_le (M := M) (L := L) (a := q.1)
  have hI := tkS_I (M := M) (l := l) (f := f) I
  unfold tkS9 at hI ⊢
  split
  · rename_i h
    rw [if_pos h] at hI
    exact ⟨hI, by show q.1 ≤ skb M L q.1 + l; omega, rfl, by show q.2.2.2.2.1 + q.2.2.2.2.2.1 + q.1 ≤ q.2.2.2.2.1 + q.2.2.2.2.2.1 + (skb M L q.1 + l); omega⟩
  · exact hrS_T I
theorem asS_T {M : mM} {L : Nat} {q : pS} {l : Nat} {f : Nat → Int32} (I : rI L q) : okT L q (asS9 M L q l f) := by
  unfold asS9
  split
  · split
    · exact tkS_T I
    · exact okT_t (hrS_T I) (flS_T (hrS_I I))
  · exact okT_r I
theorem tgS_T {M : mM} {L : Nat} {q : pS} {c : Int32} (hc : ¬ c = -1) (I : rI L q) : okT L q (tgS M L q c) := by
  have h0 := skb_le (M := M) (L := L) (a := q.1)
  have hI := tgS_I (M := M) hc I
  unfold tgS at hI ⊢
  split
  · rename_i h1
    rw [if_pos h1] at hI
    split
    · rename_i h2
      rw [if_pos h2] at hI
      exact ⟨hI, by show q.1 ≤ skb M L q.1 + 1; omega, rfl, by show q.2.2.2.2.1 + q.2.2.2.2.2.1 + q.1 ≤ q.2.2.2.2.1 + q.2.2.2.2.2.1 + (skb M L q.1 + 1); omega⟩
    · exact skb_T I
  · exact okT_r I
theorem agS_T {M : mM} {L : Nat} {q : pS} {c : Int32} (hc : ¬ c = -1) (I : rI L q) : okT L q (agS M L q c) := by
  unfold agS
  split
  · split
    · exact tgS_T hc I
    · exact okT_t (tgS_T hc I) (flS_T (tgS_I hc I))
  · exact okT_r I
/-- a sign that was asked and stood there -/
theorem agS_1 {M : mM} {L : Nat} {q : pS} {c : Int32} (h0 : q.2.2.1 = 0) (h : (agS M L q c).2.2.1 = 0) : q.1 + 1 ≤ (agS M L q c).1 := by
  revert h
  unfold agS
  rw [if_pos h0]
  split
  · rename_i h1
    intro _
    rw [(tgS_P h1).1]
    show q.1 + 1 ≤ skb M L q.1 + 1
    have := (tgS_P h1).2
    omega
  · intro h
    exact absurd (flS_b (by decide) h) id
theorem opS_bs {q : pS} {v p : Int32} : bsQ (opS q v p) = bsQ q := by
  unfold opS
  split
  · exact congrArg (fun z => z.2.2.2.1) (flS_c q 3 p).2
  · rfl
theorem opn_T {L : Nat} {q : pS} {v p : Int32} (I : rI L q) (hl : q.1 < L) : okT L q ((opS q v p).1 + 1, (opS q v p).2) ∧ q.1 + 1 ≤ (opS q v p).1 + 1 := by
  have h := (opS_r (q := q) (v := v) (p := p)).1
  have h4 := (opS_r (q := q) (v := v) (p := p)).2
  exact ⟨⟨opS_I I hl, by show q.1 ≤ (opS q v p).1 + 1; omega, opS_bs, by show (opS q v p).2.2.2.2.1 + (opS q v p).2.2.2.2.2.1 + q.1 ≤ q.2.2.2.2.1 + q.2.2.2.2.2.1 + ((opS q v p).1 + 1); omega⟩, by omega⟩
theorem nbV_T {M : mM} {L : Nat} {q : pS} {lo hi : Int32} (I : rI L q) : okT L q (nbV M L q lo hi).2 := by
  suffices hge : q.1 ≤ (nbV M L q lo hi).2.1 from ⟨nbV_I I, hge, congrArg (fun z => z.2.2.2.1) nbV_r, by show (nbV M L q lo hi).2.2.2.2.2.1 + (nbV M L q lo hi).2.2.2.2.2.2.1 + q.1 ≤ _; rw [nbV_c, nbV_w]; exact Nat.add_le_add_left hge _⟩
  have h0 := skb_le (M := M) (L := L) (a := q.1)
  have h3 := nuS_le (M := M) (h0.2 I.1)
  have h4 : q.1 ≤ (nuS M L (skb M L q.1)).2.1 := Nat.le_trans h0.1 h3.1
  have f : ∀ {q' : pS} {k p : Int32}, q.1 ≤ q'.1 → q.1 ≤ (flS9 q' k p).1 := fun {q' k p} h => by rw [(flS_c q' k p).1]; exact h
  unfold nbV
  split
  · split
    · split
      · exact f h0.1
      · split
        · exact f h4
        · split
          · exact h4
          · exact f h4
    · exact f h0.1
  · exact Nat.le_refl _
theorem npS_T {M : mM} {L : Nat} {q : pS} (I : rI L q) : okT L q (npS M L q) := by
  have hI := npS_I (M := M) I
  unfold npS at hI ⊢
  split
  · rename_i h
    rw [if_pos h] at hI
    have h1 := (nbV_1 (M := M) I h).1
    have h2 := nbV_T (M := M) (lo := 0) (hi := 99999) I
    refine ⟨hI, h2.2.1, h2.2.2.1, ?_⟩
    show (nbV M L q 0 99999).2.2.2.2.2.1 + 1 + (nbV M L q 0 99999).2.2.2.2.2.2.1 + q.1 ≤ q.2.2.2.2.1 + q.2.2.2.2.2.1 + (nbV M L q 0 99999).2.1
    rw [nbV_c, nbV_w]
    omega
  · exact nbV_T I
theorem cdT_T {M : mM} {L : Nat} {q : pS} {l : Nat} {f : Nat → Int32} {v : Int32} (I : rI L q) (hl : 1 ≤ l) (h : hrQ M L q l f = true) : okT L q (cdS (tkS9 M L q l f) v) := by
  have h0 := tkS_P h
  refine ⟨cdT_I I hl h, (tkS_T I).2.1, (tkS_T I).2.2.1, ?_⟩
  rw [h0.1]
  show q.2.2.2.2.1 + 1 + q.2.2.2.2.2.1 + q.1 ≤ q.2.2.2.2.1 + q.2.2.2.2.2.1 + (skb M L q.1 + l)
  have := h0.2
  omega
theorem tk3_T {M : mM} {L : Nat} {q : pS} {f : Nat → Int32} (I : rI L q) (h : hrQ M L q 3 f = true) : (∀ v p, okT L q (agS M L (opS (skb M L (tkS9 M L q 3 f).1, (tkS9 M L q 3 f).2) v p) 40) ∧ q.1 + 1 ≤ (agS M L (opS (skb M L (tkS9 M L q 3 f).1, (tkS9 M L q 3 f).2) v p) 40).1) ∧ okT L q (agS M L (skb M L (tkS9 M L q 3 f).1, (tkS9 M L q 3 f).2) 40) ∧ q.1 + 1 ≤ (agS M L (skb M L (tkS9 M L q 3 f).1, (tkS9 M L q 3 f).2) 40).1 := by
  have h1 := tkS_T (M := M) (l := 3) (f := f) I
  have h2 := skb_T (M := M) h1.1
  have h3 := tk3_I (v := 0) I h
  have h4 : okT L q (skb M L (tkS9 M L q 3 f).1, (tkS9 M L q 3 f).2) := okT_t h1 h2
  refine ⟨fun v p => ?_, okT_t h4 (agS_T (by decide) h4.1), Nat.le_trans h3.2.1 (agS_T (M := M) (c := 40) (by decide) h4.1).2.1⟩
  have h5 := (tk3_I (v := v) I h).2.2 p
  have r9 := (opS_r (q := (skb M L (tkS9 M L q 3 f).1, (tkS9 M L q 3 f).2)) (v := v) (p := p)).1.symm
  have h0 := tkS_P h
  have ro := (opS_r (q := (skb M L (tkS9 M L q 3 f).1, (tkS9 M L q 3 f).2)) (v := v) (p := p))
  have e4 : (tkS9 M L q 3 f).2.2.2.2.1 = q.2.2.2.2.1 := congrArg (fun z => z.2.2.2.2.1) h0.1
  have e5 : (tkS9 M L q 3 f).2.2.2.2.2.1 = q.2.2.2.2.2.1 := congrArg (fun z => z.2.2.2.2.2.1) h0.1
  have h6 : okT L q (opS (skb M L (tkS9 M L q 3 f).1, (tkS9 M L q 3 f).2) v p) := ⟨h5, Nat.le_trans h4.2.1 (Nat.le_of_eq r9), opS_bs.trans h4.2.2.1, by
    have h7 := h3.2.1
    have r4 := ro.2.1
    have r5 := ro.2.2
    dsimp only at r4 r5 r9
    rw [e4] at r4
    rw [e5] at r5
    show (opS _ v p).2.2.2.2.1 + (opS _ v p).2.2.2.2.2.1 + q.1 ≤ q.2.2.2.2.1 + q.2.2.2.2.2.1 + (opS _ v p).1
    omega⟩
  exact ⟨okT_t h6 (agS_T (by decide) h5), Nat.le_trans (Nat.le_trans h3.2.1 (Nat.le_of_eq r9)) (agS_T (M := M) (c := 40) (by decide) h5).2.1⟩
theorem opE_T {M : mM} {L : Nat} {q : pS} (I : rI L q) : okT L q (opE M L q) := by
  obtain ⟨aT, eN, bD, bP, cD, wT, oP, bS, cS, wS⟩ := q
  have hS : rI L (skb M L aT, eN, bD, bP, cD, wT, oP, bS, cS, wS) := skb_I (M := M) I
  unfold opE
  dsimp only
  split
  · rename_i zt1
    split
    · rename_i zt2
      split
      · rename_i zt3
        split
        · rename_i zt4
          split
          · rename_i zt5
            split
            · rename_i zt6
              split
              · rename_i zt7
                split
                · rename_i zt8
                  exact okT_t (skb_T I) (npS_T hS)
                · rename_i zt9
                  exact okT_t (skb_T I) (cdT_T hS (by decide) (bI_t zt9))
              · rename_i zt10
                exact okT_t (skb_T I) (cdT_T hS (by decide) (bI_t zt10))
            · rename_i zt11
              exact okT_t (skb_T I) (cdT_T hS (by decide) (bI_t zt11))
          · rename_i zt12
            exact okT_t (skb_T I) (cdT_T hS (by decide) (bI_t zt12))
        · rename_i zt13
          exact okT_t (skb_T I) (cdT_T hS (by decide) (bI_t zt13))
      · rename_i zt14
        exact okT_t (skb_T I) (cdT_T hS (by decide) (bI_t zt14))
    · rename_i zt15
      exact cdT_T I (by decide) (bI_t zt15)
  · rename_i zt16
    exact okT_r I
theorem opB_T {M : mM} {L : Nat} {q : pS} (I : rI L q) : okT L q (opB M L q).2 ∧ ((opB M L q).1 = true → q.1 + 1 ≤ (opB M L q).2.1) := by
  obtain ⟨aT, eN, bD, bP, cD, wT, oP, bS, cS, wS⟩ := q
  have hS : rI L (skb M L aT, eN, bD, bP, cD, wT, oP, bS, cS, wS) := skb_I (M := M) I
  have hk : aT ≤ skb M L aT := (skb_le (M := M) (L := L) (a := aT)).1
  unfold opB
  dsimp only
  split
  · rename_i zt17
    exact ⟨okT_t (skb_T I) (opn_T hS (lkV_lt (by decide) zt17)).1, fun _ => Nat.le_trans (Nat.succ_le_succ hk) (opn_T hS (lkV_lt (by decide) zt17)).2⟩
  · rename_i zt18
    split
    · rename_i zt19
      split
      · rename_i zt20
        exact ⟨skb_T I, fun h => Bool.noConfusion h⟩
      · rename_i zt21
        split
        · rename_i zt22
          exact ⟨okT_t (skb_T I) ((tk3_T hS (bI_t zt21)).1 _ _).1, fun _ => Nat.le_trans (Nat.succ_le_succ hk) ((tk3_T hS (bI_t zt21)).1 _ _).2⟩
        · rename_i zt23
          exact ⟨okT_t (skb_T I) (tk3_T hS (bI_t zt21)).2.1, fun _ => Nat.le_trans (Nat.succ_le_succ hk) (tk3_T hS (bI_t zt21)).2.2⟩
    · rename_i zt24
      split
      · rename_i zt25
        exact ⟨okT_t (skb_T I) ((tk3_T hS (bI_t zt24)).1 _ _).1, fun _ => Nat.le_trans (Nat.succ_le_succ hk) ((tk3_T hS (bI_t zt24)).1 _ _).2⟩
      · rename_i zt26
        exact ⟨okT_t (skb_T I) (tk3_T hS (bI_t zt24)).2.1, fun _ => Nat.le_trans (Nat.succ_le_succ hk) (tk3_T hS (bI_t zt24)).2.2⟩
theorem opF_T {M : mM} {L : Nat} : ∀ (k : Nat) {q : pS}, rI L q → okT L q (opF M L k q)
  | 0, _, I => okT_r I
  | k + 1, q, I => by
    unfold opF
    split
    · split
      · exact okT_t (opB_T I).1 (opF_T k (opB_T I).1.1)
      · exact (opB_T I).1
    · exact okT_r I
theorem oneS_T {M : mM} {L : Nat} {q : pS} (I : rI L q) : okT L q (oneS M L q) := okT_t (opF_T 700 I) (opE_T (opF_T 700 I).1)
/-- a closing mark dropped -/
theorem gcl_T {M : mM} {L aT : Nat} {eN bD bP : Int32} {cD wT : Nat} {oP : Int32} {bS : Nat} {cS wS : Nat → Int32} {v : Int32} (I : rI L (aT, eN, bD, bP, cD, wT, oP, bS, cS, wS)) (h1 : lkV M L aT = 41) (hv : ¬ v = -1) (h2 : mkV (skb M L aT, eN, bD, bP, cD, wT, oP, bS, cS, wS) = v) (o : Int32) : okT L (aT, eN, bD, bP, cD, wT, oP, bS, cS, wS) (s6 (s5 (dwQ (skb M L aT + 1, eN, bD, bP, cD, wT, oP, bS, cS, wS) (tmP bS wS)) ((dwQ (skb M L aT + 1, eN, bD, bP, cD, wT, oP, bS, cS, wS) (tmP bS wS)).2.2.2.2.2.1 - 1)) o) ∧ ∀ u, okT L (aT, eN, bD, bP, cD, wT, oP, bS, cS, wS) (cdS (s6 (s5 (dwQ (skb M L aT + 1, eN, bD, bP, cD, wT, oP, bS, cS, wS) (tmP bS wS)) ((dwQ (skb M L aT + 1, eN, bD, bP, cD, wT, oP, bS, cS, wS) (tmP bS wS)).2.2.2.2.2.1 - 1)) o) u) := by
  have hk : aT ≤ skb M L aT := (skb_le (M := M) (L := L) (a := aT)).1
  have hB : cD + wT ≤ aT + 2 := I.2
  have hl := lkV_lt (by decide) h1
  obtain ⟨m9, hm1, -, -, -⟩ := mk_dw (ws := wS) (b := bS) hv wT cD cS h2
  have hd := dwS_le wS (tmP bS wS) wT cD cS
  have e4 : (dwQ (skb M L aT + 1, eN, bD, bP, cD, wT, oP, bS, cS, wS) (tmP bS wS)).2.2.2.2.1 = (dwS wS (tmP bS wS) wT cD cS).2.1 := rfl
  have e5 : (dwQ (skb M L aT + 1, eN, bD, bP, cD, wT, oP, bS, cS, wS) (tmP bS wS)).2.2.2.2.2.1 = (dwS wS (tmP bS wS) wT cD cS).1 := rfl
  refine ⟨⟨⟨hl, ?_⟩, Nat.le_succ_of_le hk, rfl, ?_⟩, fun u => ⟨⟨hl, ?_⟩, Nat.le_succ_of_le hk, rfl, ?_⟩⟩
  · show (dwS wS (tmP bS wS) wT cD cS).2.1 + ((dwS wS (tmP bS wS) wT cD cS).1 - 1) ≤ skb M L aT + 1 + 2
    omega
  · show (dwS wS (tmP bS wS) wT cD cS).2.1 + ((dwS wS (tmP bS wS) wT cD cS).1 - 1) + aT ≤ cD + wT + (skb M L aT + 1)
    omega
  · show (dwS wS (tmP bS wS) wT cD cS).2.1 + 1 + ((dwS wS (tmP bS wS) wT cD cS).1 - 1) ≤ skb M L aT + 1 + 2
    omega
  · show (dwS wS (tmP bS wS) wT cD cS).2.1 + 1 + ((dwS wS (tmP bS wS) wT cD cS).1 - 1) + aT ≤ cD + wT + (skb M L aT + 1)
    omega
theorem gcB_T {M : mM} {L : Nat} {q : pS} (I : rI L q) : okT L q (gcB M L q).2 ∧ (gcB M L q).2.2.2.1 = q.2.2.1 ∧ ((gcB M L q).1 = true → q.1 + 1 ≤ (gcB M L q).2.1) ∧ ((gcB M L q).1 = false → skb M L (gcB M L q).2.1 = (gcB M L q).2.1) := by
  obtain ⟨aT, eN, bD, bP, cD, wT, oP, bS, cS, wS⟩ := q
  have hS : rI L (skb M L aT, eN, bD, bP, cD, wT, oP, bS, cS, wS) := skb_I (M := M) I
  have hk : aT ≤ skb M L aT := (skb_le (M := M) (L := L) (a := aT)).1
  have hs : skb M L (skb M L aT) = skb M L aT := skb_skb I.1
  unfold gcB
  dsimp only
  split
  · rename_i zt27
    split
    · rename_i zt28
      split
      · rename_i zt29
        exact ⟨(gcl_T I zt27 (v := 20) (by decide) zt28 _).1, rfl, fun _ => Nat.succ_le_succ hk, fun h => Bool.noConfusion h⟩
      · rename_i zt30
        split
        · rename_i zt31
          exact ⟨(gcl_T I zt27 (v := 20) (by decide) zt28 _).2 _, rfl, fun _ => Nat.succ_le_succ hk, fun h => Bool.noConfusion h⟩
        · rename_i zt32
          exact ⟨(gcl_T I zt27 (v := 20) (by decide) zt28 _).2 _, rfl, fun _ => Nat.succ_le_succ hk, fun h => Bool.noConfusion h⟩
    · rename_i zt33
      split
      · rename_i zt34
        split
        · rename_i zt35
          exact ⟨(gcl_T I zt27 (v := 23) (by decide) zt34 _).1, rfl, fun _ => Nat.succ_le_succ hk, fun h => Bool.noConfusion h⟩
        · rename_i zt36
          split
          · rename_i zt37
            exact ⟨(gcl_T I zt27 (v := 23) (by decide) zt34 _).2 _, rfl, fun _ => Nat.succ_le_succ hk, fun h => Bool.noConfusion h⟩
          · rename_i zt38
            exact ⟨(gcl_T I zt27 (v := 23) (by decide) zt34 _).2 _, rfl, fun _ => Nat.succ_le_succ hk, fun h => Bool.noConfusion h⟩
      · rename_i zt39
        split
        · rename_i zt40
          split
          · rename_i zt41
            exact ⟨(gcl_T I zt27 (v := 24) (by decide) zt40 _).1, rfl, fun _ => Nat.succ_le_succ hk, fun h => Bool.noConfusion h⟩
          · rename_i zt42
            split
            · rename_i zt43
              exact ⟨(gcl_T I zt27 (v := 24) (by decide) zt40 _).2 _, rfl, fun _ => Nat.succ_le_succ hk, fun h => Bool.noConfusion h⟩
            · rename_i zt44
              exact ⟨(gcl_T I zt27 (v := 24) (by decide) zt40 _).2 _, rfl, fun _ => Nat.succ_le_succ hk, fun h => Bool.noConfusion h⟩
        · rename_i zt45
          exact ⟨skb_T I, rfl, fun h => Bool.noConfusion h, fun _ => hs⟩
  · rename_i zt46
    exact ⟨skb_T I, rfl, fun h => Bool.noConfusion h, fun _ => hs⟩
theorem gcF_T {M : mM} {L : Nat} : ∀ (k : Nat) {q : pS}, rI L q → okT L q (gcF M L k q) ∧ (gcF M L k q).2.2.1 = q.2.2.1 ∧ (L - q.1 < k → skb M L (gcF M L k q).1 = (gcF M L k q).1)
  | 0, _, I => ⟨okT_r I, rfl, fun h => absurd h (Nat.not_lt_zero _)⟩
  | k + 1, q, I => by
    have h := gcB_T (M := M) I
    unfold gcF
    split
    · rename_i e
      have h2 := gcF_T (M := M) k h.1.1
      have h3 := h.2.2.1 e
      have h4 := h.1.1.1
      exact ⟨okT_t h.1 h2.1, h2.2.1.trans h.2.1, fun w => h2.2.2 (by omega)⟩
    · rename_i e
      exact ⟨h.1, h.2.1, fun _ => h.2.2.2 (by cases hh : (gcB M L q).1 with | true => exact absurd hh e | false => rfl)⟩
theorem gpu_T {L aT : Nat} {eN bD bP : Int32} {cD wT : Nat} {oP : Int32} {bS : Nat} {cS wS : Nat → Int32} (I : rI L (aT, eN, bD, bP, cD, wT, oP, bS, cS, wS)) (hl : aT < L) (p : Nat → Bool) (f : Nat → Int32) : okT L (aT, eN, bD, bP, cD, wT, oP, bS, cS, wS) (s9 (s5 (dwQ (aT + 1, eN, bD, bP, cD, wT, oP, bS, cS, wS) p) ((dwQ (aT + 1, eN, bD, bP, cD, wT, oP, bS, cS, wS) p).2.2.2.2.2.1 + 1)) f) := by
  have hB : cD + wT ≤ aT + 2 := I.2
  have hd := dwS_le wS p wT cD cS
  refine ⟨⟨hl, ?_⟩, Nat.le_succ aT, rfl, ?_⟩
  · show (dwS wS p wT cD cS).2.1 + ((dwS wS p wT cD cS).1 + 1) ≤ aT + 1 + 2
    omega
  · show (dwS wS p wT cD cS).2.1 + ((dwS wS p wT cD cS).1 + 1) + aT ≤ cD + wT + (aT + 1)
    omega
theorem sgn_lt {M : mM} {L aT : Nat} {eN bD bP : Int32} {cD wT : Nat} {oP : Int32} {bS : Nat} {cS wS : Nat → Int32} {c : Int32} (h0 : bD = 0) (hs : skb M L aT = aT) (hc : ¬ c = -1) (h : ¬ bI (tgQ M L (aT, eN, bD, bP, cD, wT, oP, bS, cS, wS) c) = 0) : aT < L := by
  have h2 : lkV M L aT = c := of_decide_eq_true ((if_pos h0).symm.trans (bI_t h))
  have := lkV_lt hc h2
  omega
theorem s9_T {L : Nat} {q a : pS} {f : Nat → Int32} (h : okT L q a) : okT L q (s9 a f) := h
theorem dwQ_T {L : Nat} {q : pS} {p : Nat → Bool} (I : rI L q) : okT L q (dwQ q p) := ⟨dwQ_I I, Nat.le_refl _, rfl, by have h := dwS_le q.2.2.2.2.2.2.2.2.2 p q.2.2.2.2.2.1 q.2.2.2.2.1 q.2.2.2.2.2.2.2.2.1; show (dwS _ p _ _ _).2.1 + (dwS _ p _ _ _).1 + q.1 ≤ q.2.2.2.2.1 + q.2.2.2.2.2.1 + q.1; omega⟩
theorem gsR_T {M : mM} {L : Nat} {q : pS} (I : rI L q) (h0 : q.2.2.1 = 0) (hs : skb M L q.1 = q.1) : okT L q (gsR M L q).2 ∧ ((gsR M L q).1 = true → q.1 + 1 ≤ (gsR M L q).2.1) := by
  obtain ⟨aT, eN, bD, bP, cD, wT, oP, bS, cS, wS⟩ := q
  unfold gsR
  dsimp only
  split
  · rename_i zt47
    split
    · rename_i zt48
      split
      · rename_i zt49
        split
        · rename_i zt50
          split
          · rename_i zt51
            split
            · rename_i zt52
              exact ⟨okT_t (agS_T (c := 44) (by decide) I) (s9_T (dwQ_T (agS_T (c := 44) (by decide) I).1)), fun _ => agS_1 (M := M) (c := 44) h0 zt52⟩
            · rename_i zt53
              exact ⟨agS_T (by decide) I, fun h => Bool.noConfusion h⟩
          · rename_i zt54
            split
            · rename_i zt55
              split
              · rename_i zt56
                exact ⟨okT_t (agS_T (c := 44) (by decide) I) (s9_T (dwQ_T (agS_T (c := 44) (by decide) I).1)), fun _ => agS_1 (M := M) (c := 44) h0 zt56⟩
              · rename_i zt57
                exact ⟨agS_T (by decide) I, fun h => Bool.noConfusion h⟩
            · rename_i zt58
              split
              · rename_i zt59
                exact ⟨okT_r I, fun h => Bool.noConfusion h⟩
              · rename_i zt60
                exact ⟨flS_T I, fun h => Bool.noConfusion h⟩
        · rename_i zt61
          exact ⟨gpu_T I (sgn_lt h0 hs (by decide) zt61) _ _, fun _ => Nat.le_refl _⟩
      · rename_i zt62
        exact ⟨gpu_T I (sgn_lt h0 hs (by decide) zt62) _ _, fun _ => Nat.le_refl _⟩
    · rename_i zt63
      exact ⟨gpu_T I (sgn_lt h0 hs (by decide) zt63) _ _, fun _ => Nat.le_refl _⟩
  · rename_i zt64
    exact ⟨gpu_T I (sgn_lt h0 hs (by decide) zt64) _ _, fun _ => Nat.le_refl _⟩
theorem gonQ_T {M : mM} {L : Nat} {q : pS} (hL6 : L ≤ 600) (I : rI L q) (h0 : q.2.2.1 = 0) : okT L q (gonQ M L q).2 ∧ ((gonQ M L q).1 = true → q.1 + 1 ≤ (gonQ M L q).2.1) := by
  have h := gcF_T (M := M) 700 I
  have h2 := gsR_T h.1.1 (h.2.1.trans h0) (h.2.2 (by omega))
  exact ⟨okT_t h.1 h2.1, fun e => Nat.le_trans (Nat.succ_le_succ h.1.2.1) (h2.2 e)⟩
