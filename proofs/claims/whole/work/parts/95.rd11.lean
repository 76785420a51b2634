/-! ===== the reference's reader: as a whole; terms ===== -/
theorem pM_f {k : Nat} (hk : k ≠ 2 ∧ k ≠ 4 ∧ k ≠ 5 ∧ k ≠ 6 ∧ k ≠ 37 ∧ k ≠ 39 ∧ k ≠ 40 ∧ k ≠ 41) {M : mM} {q : pS} {v : Int32} : up2 (pM M q) 0 k v = pM (up2 M 0 k v) q := by
  obtain ⟨h1, h2, h3, h4, h5, h6, h7, h8⟩ := hk
  funext x i
  by_cases hx : x = 0
  · subst hx
    by_cases hi : i = k
    · subst hi
      rw [up2_s]
      unfold pM
      rw [if_pos rfl, if_neg h1, if_neg h2, if_neg h3, if_neg h4, if_neg h5, if_neg h6, if_neg h7, if_neg h8, up2_s]
    · rw [up2_k _ _ hi]
      unfold pM
      rw [if_pos rfl, if_pos rfl, up2_k _ _ hi]
  · rw [up2_row hx]
    unfold pM
    rw [if_neg hx, if_neg hx, up2_row hx]
/-- the reader's places are numbers -/
def PI (M : mM) : Prop := ∃ a c w b : Nat, M 0 2 = nI a ∧ M 0 37 = nI c ∧ M 0 39 = nI w ∧ M 0 41 = nI b
def pQ (M : mM) (a c w b : Nat) : pS := (a, M 0 4, M 0 5, M 0 6, c, w, M 0 40, b, M 29, M 30)
theorem pM_id {M : mM} {a c w b : Nat} (h : M 0 2 = nI a ∧ M 0 37 = nI c ∧ M 0 39 = nI w ∧ M 0 41 = nI b) : pM M (pQ M a c w b) = M := by
  obtain ⟨h1, h2, h3, h4⟩ := h
  funext x i
  unfold pM pQ
  by_cases hx : x = 0
  · subst hx
    rw [if_pos rfl]
    split
    · rename_i e; rw [e, h1]
    · split
      · rename_i e; rw [e]
      · split
        · rename_i e; rw [e]
        · split
          · rename_i e; rw [e]
          · split
            · rename_i e; rw [e, h2]
            · split
              · rename_i e; rw [e, h3]
              · split
                · rename_i e; rw [e]
                · split
                  · rename_i e; rw [e, h4]
                  · rfl
  · rw [if_neg hx]
    split
    · rename_i e; rw [e]
    · split
      · rename_i e; rw [e]
      · rfl
/-- what a statement leaves of the base, its bounds, the number of statements -/
def stT (M : mM) (L j : Nat) (z : mM × pS) : Prop := (∀ r, r < 25 ∨ 28 < r → z.1 r = M r) ∧ rI L z.2 ∧ (z.1 25 0 = nI (j + 1) ∨ (z.1 25 0 = nI j ∧ ¬ z.2.2.2.1 = 0))
theorem stC_T {M : mM} {L j : Nat} {wh : Int32} {q : pS} (I : rI L q) : stT M L j (stC M L j wh q) := by
  obtain ⟨aT, eN, bD, bP, cD, wT, oP, bS, cS, wS⟩ := q
  unfold stC
  dsimp only
  split
  · rename_i zt1
    exact ⟨fun r hr => by dsimp only; rw [up2_row (by omega), up2_row (by omega)], (agS_T (c := 59) (by decide) I).1, Or.inl (by dsimp only; rw [up2_s])⟩
  · rename_i zt2
    exact ⟨fun r hr => by dsimp only; rw [up2_row (by omega), up2_row (by omega)], (agS_T (c := 59) (by decide) I).1, Or.inl (by dsimp only; rw [up2_s])⟩
theorem stT_x {M : mM} {L j : Nat} {z : mM × pS} {r k : Nat} {v : Int32} (hr : 26 ≤ r ∧ r ≤ 28) (h : stT (up2 M r k v) L j z) : stT M L j z := ⟨fun r' hr' => (h.1 r' hr').trans (up2_row (by omega)), h.2.1, h.2.2⟩
theorem stB_T {M : mM} {L j : Nat} {sv : Int32} {q : pS} (hL6 : L ≤ 600) (I : rI L q) : stT M L j (stB M L j sv q) := by
  obtain ⟨aT, eN, bD, bP, cD, wT, oP, bS, cS, wS⟩ := q
  unfold stB
  dsimp only
  split
  · rename_i zt3
    exact stT_x (by decide) (stC_T (flS_I I))
  · rename_i zt4
    split
    · rename_i zt5
      split
      · rename_i zt6
        split
        · rename_i zt7
          split
          · rename_i zt8
            exact stT_x (by decide) (stC_T (flS_I (skb_I I)))
          · rename_i zt9
            exact stT_x (by decide) (stC_T (tkS_I (skb_I I)))
        · rename_i zt10
          exact stT_x (by decide) (stC_T (tkS_I (skb_I I)))
      · rename_i zt11
        exact stT_x (by decide) (stC_T (tkS_I I))
    · rename_i zt12
      split
      · rename_i zt13
        exact stT_x (by decide) (stC_T (sumS_T hL6 I).1)
      · rename_i zt14
        exact stT_x (by decide) (stC_T (tesS_T hL6 I).1)
theorem stA_T {M : mM} {L j : Nat} {q : pS} (hL6 : L ≤ 600) (I : rI L q) : stT M L j (stA M L j q) := by
  obtain ⟨aT, eN, bD, bP, cD, wT, oP, bS, cS, wS⟩ := q
  unfold stA
  dsimp only
  split
  · rename_i zt15
    split
    · rename_i zt16
      split
      · rename_i zt17
        split
        · rename_i zt18
          split
          · rename_i zt19
            split
            · rename_i zt20
              exact stB_T hL6 I
            · rename_i zt21
              exact stB_T hL6 (tkS_I I)
          · rename_i zt22
            exact stB_T hL6 (tkS_I I)
        · rename_i zt23
          exact stB_T hL6 (tkS_I I)
      · rename_i zt24
        exact stB_T hL6 (tkS_I I)
    · rename_i zt25
      exact stB_T hL6 (tkS_I I)
  · rename_i zt26
    exact stB_T hL6 (tkS_I I)
/-- bounds before a statement -/
abbrev rJ (L : Nat) (q : pS) : Prop := q.1 ≤ L ∧ q.2.2.2.2.1 ≤ q.1 + 2
theorem sta_T {M : mM} {L j : Nat} {q : pS} (hL6 : L ≤ 600) (hj : M 25 0 = nI j) (I : rJ L q) (hb0 : q.2.2.1 = 0) : (∀ r, r < 25 ∨ 28 < r → (staS9 M L j q).1 r = M r) ∧ rJ L (staS9 M L j q).2 ∧ ((staS9 M L j q).1 25 0 = nI (j + 1) ∨ ((staS9 M L j q).1 25 0 = nI j ∧ ¬ (staS9 M L j q).2.2.2.1 = 0)) ∧ (¬ nI j = 24 → (staS9 M L j q).1 25 0 = nI (j + 1) ∨ ¬ (staS9 M L j q).2.2.2.1 = 0) ∧ (nI j = 24 → ¬ (staS9 M L j q).2.2.2.1 = 0 ∧ (staS9 M L j q).1 25 0 = nI j) := by
  obtain ⟨aT, eN, bD, bP, cD, wT, oP, bS, cS, wS⟩ := q
  have hk : aT ≤ skb M L aT ∧ (aT ≤ L → skb M L aT ≤ L) := skb_le
  have hA : aT ≤ L := I.1
  have hB : cD ≤ aT + 2 := I.2
  by_cases h24 : nI j = 24
  · rw [show staS9 M L j (aT, eN, bD, bP, cD, wT, oP, bS, cS, wS) = (M, flS9 (skb M L aT, eN, bD, bP, cD, wT, oP, bS, cS, wS) 4 (nI (skb M L aT))) from if_pos h24]
    have hb : ¬ (flS9 (skb M L aT, eN, bD, bP, cD, wT, oP, bS, cS, wS) 4 (nI (skb M L aT))).2.2.1 = 0 := fun z => flS_b (by decide) z
    have hc := flS_c (skb M L aT, eN, bD, bP, cD, wT, oP, bS, cS, wS) 4 (nI (skb M L aT))
    refine ⟨fun _ _ => rfl, ⟨?_, ?_⟩, Or.inr ⟨hj, hb⟩, fun z => absurd h24 z, fun _ => ⟨hb, hj⟩⟩
    · show (flS9 _ _ _).1 ≤ L; rw [hc.1]; exact hk.2 hA
    · show (flS9 _ _ _).2.2.2.2.1 ≤ (flS9 _ _ _).1 + 2; rw [hc.1, hc.2]; show cD ≤ skb M L aT + 2; omega
  · rw [show staS9 M L j (aT, eN, bD, bP, cD, wT, oP, bS, cS, wS) = stA (up2 M 27 j (nI cD)) L j (skb M L aT, eN, bD, bP, cD, 0, 0, 0, cS, wS) from if_neg h24]
    have hT := stT_x (r := 27) (by decide) (stA_T (M := up2 M 27 j (nI cD)) (L := L) (j := j) (q := (skb M L aT, eN, bD, bP, cD, 0, 0, 0, cS, wS)) hL6 ⟨hk.2 hA, by show cD + 0 ≤ skb M L aT + 2; omega⟩)
    refine ⟨hT.1, ⟨hT.2.1.1, ?_⟩, hT.2.2, fun _ => hT.2.2.imp id (fun z => z.2), fun z => absurd z h24⟩
    have := hT.2.1.2
    omega
/-- all statements -/
def rsF (L : Nat) : Nat → mM × pS → mM × pS
  | 0, z => z
  | k + 1, z => if z.2.2.2.1 = 0 then (if lkV z.1 L z.2.1 = -1 then (z.1, (skb z.1 L z.2.1, z.2.2)) else rsF L k (staS9 z.1 L (z.1 25 0).toNatClampNeg (skb z.1 L z.2.1, z.2.2))) else z
theorem l_rs (E : gE) {d : Nat} (hd : 9 ≤ d) {L : Nat} (h : hp_T) (hG : gr h) (N : mN) (hL6 : L ≤ 600) {v : Option Value} {hz : hp_T} {r : mM × pS} (K : gf E mX12_reads d 67 [(0, .ref (E.1 + 247))] [] (hm h (pM r.1 r.2) N) v hz) : ∀ (kz : Nat) (M : mM) (q : pS) (T : tpI M L) (j : Nat), rJ L q → j ≤ 24 → (M 25 0 = nI j ∨ ¬ q.2.2.1 = 0) → (25 - j < kz ∨ ¬ q.2.2.1 = 0) → rsF L (kz + 1) (M, q) = r → gf E mX12_reads d 45 [(0, .ref (E.1 + 247))] [] (hm h (pM M q) N) v hz := by
  intro kz
  induction kz with
  | zero =>
    intro M q T j I hj24 hj hm9 hr
    have zb0 : ¬ q.2.2.1 = 0 := hm9.resolve_left (by omega)
    obtain ⟨aT, eN, bD, bP, cD, wT, oP, bS, cS, wS⟩ := q
    rw [show rsF L (0 + 1) (M, aT, eN, bD, bP, cD, wT, oP, bS, cS, wS) = (M, aT, eN, bD, bP, cD, wT, oP, bS, cS, wS) from if_neg zb0] at hr
    subst hr
    refine gf_aload_n 0 dX12_reads_45 rfl rfl ?_
    refine gf_getI flX12_285 rfl dX12_reads_46 (gt_247 hG) ?_
    rw [show hp_i (hm h (pM M (aT, eN, bD, bP, cD, wT, oP, bS, cS, wS)) N) 247 5 = bD from rfl]
    refine gf_if_ne 67 dX12_reads_49 rfl (fun _ => ?_) (fun q => absurd q (zb0))
    exact gf_lw K ⟨rfl, trivial⟩
  | succ kz ih =>
    intro M q T j I hj24 hj hm9 hr
    obtain ⟨aT, eN, bD, bP, cD, wT, oP, bS, cS, wS⟩ := q
    by_cases zb0 : bD = 0
    · have hj : M 25 0 = nI j := hj.resolve_right (fun z => z zb0)
      have hm9 : 25 - j < kz + 1 := hm9.resolve_right (fun z => z zb0)
      have hA0 : aT ≤ L := I.1
      have hB0 : cD ≤ aT + 2 := I.2
      have hsk : aT ≤ skb M L aT ∧ (aT ≤ L → skb M L aT ≤ L) := skb_le
      have hJ : rJ L ((skb M L aT), eN, bD, bP, cD, wT, oP, bS, cS, wS) := ⟨hsk.2 hA0, by show cD ≤ skb M L aT + 2; omega⟩
      rw [show rsF L (kz + 1 + 1) (M, aT, eN, bD, bP, cD, wT, oP, bS, cS, wS) = _ from if_pos zb0] at hr
      refine gf_aload_n 0 dX12_reads_45 rfl rfl ?_
      refine gf_getI flX12_285 rfl dX12_reads_46 (gt_247 hG) ?_
      rw [show hp_i (hm h (pM M (aT, eN, bD, bP, cD, wT, oP, bS, cS, wS)) N) 247 5 = bD from rfl]
      refine gf_if_ne 67 dX12_reads_49 rfl (fun q => absurd (zb0) q) (fun _ => ?_)
      refine gf_aload_n 0 dX12_reads_52 rfl rfl ?_
      refine gf_callV cmX12_look lkX12_297 imX12_look seX12_look ⟨rfl, by decide⟩ dX12_reads_53 (d1 := d - 1) (by omega) (gt_247 hG) (e_X12_look E h hG M N T aT eN bD bP cD wT oP bS cS wS hA0) rfl rfl (Nat.le_of_ble_eq_true rfl) ?_
      refine gf_iconst (-1) dX12_reads_56 rfl ?_
      refine gf_icmp_eq 67 dX12_reads_57 rfl (fun zc57 => ?_) (fun zc57 => ?_)
      · rw [if_pos zc57] at hr
        subst hr
        exact gf_lw K ⟨rfl, trivial⟩
      · refine gf_aload_n 0 dX12_reads_60 rfl rfl ?_
        refine gf_callV cmX12_statement lkX12_403 imX12_statement seX12_statement ⟨rfl, by decide⟩ dX12_reads_61 (d1 := d - 1) (by omega) (gt_247 hG) (e_X12_statement E (by omega) h hG M N T hj hj24 ((skb M L aT), eN, bD, bP, cD, wT, oP, bS, cS, wS) hJ zb0) rfl rfl (Nat.le_of_ble_eq_true rfl) ?_
        refine gf_goto 45 dX12_reads_64 rfl ?_
        rw [if_neg zc57] at hr
        have hr : rsF L (kz + 1) (staS9 M L (M 25 0).toNatClampNeg ((skb M L aT), eN, bD, bP, cD, wT, oP, bS, cS, wS)) = r := hr
        rw [hj, nI_clamp (by omega)] at hr
        have hT := sta_T (M := M) (L := L) (j := j) (q := ((skb M L aT), eN, bD, bP, cD, wT, oP, bS, cS, wS)) hL6 hj hJ zb0
        have T' : tpI (staS9 M L j ((skb M L aT), eN, bD, bP, cD, wT, oP, bS, cS, wS)).1 L := by unfold tpI; rw [hT.1 0 (by omega), hT.1 1 (by omega)]; exact T
        rcases hT.2.2.1 with e | ⟨e, e2⟩
        · by_cases h24 : j = 24
          · exact gf_lw (ih (staS9 M L j ((skb M L aT), eN, bD, bP, cD, wT, oP, bS, cS, wS)).1 (staS9 M L j ((skb M L aT), eN, bD, bP, cD, wT, oP, bS, cS, wS)).2 T' j hT.2.1 (by omega) (Or.inr (hT.2.2.2.2 (by rw [h24]; rfl)).1) (Or.inr (hT.2.2.2.2 (by rw [h24]; rfl)).1) hr) ⟨rfl, trivial⟩
          · exact gf_lw (ih (staS9 M L j ((skb M L aT), eN, bD, bP, cD, wT, oP, bS, cS, wS)).1 (staS9 M L j ((skb M L aT), eN, bD, bP, cD, wT, oP, bS, cS, wS)).2 T' (j + 1) hT.2.1 (by omega) (Or.inl e) (Or.inl (by omega)) hr) ⟨rfl, trivial⟩
        · exact gf_lw (ih (staS9 M L j ((skb M L aT), eN, bD, bP, cD, wT, oP, bS, cS, wS)).1 (staS9 M L j ((skb M L aT), eN, bD, bP, cD, wT, oP, bS, cS, wS)).2 T' j hT.2.1 hj24 (Or.inr e2) (Or.inr e2) hr) ⟨rfl, trivial⟩
    · rw [show rsF L (kz + 1 + 1) (M, aT, eN, bD, bP, cD, wT, oP, bS, cS, wS) = (M, aT, eN, bD, bP, cD, wT, oP, bS, cS, wS) from if_neg zb0] at hr
      subst hr
      refine gf_aload_n 0 dX12_reads_45 rfl rfl ?_
      refine gf_getI flX12_285 rfl dX12_reads_46 (gt_247 hG) ?_
      rw [show hp_i (hm h (pM M (aT, eN, bD, bP, cD, wT, oP, bS, cS, wS)) N) 247 5 = bD from rfl]
      refine gf_if_ne 67 dX12_reads_49 rfl (fun _ => ?_) (fun q => absurd q (zb0))
      exact gf_lw K ⟨rfl, trivial⟩
