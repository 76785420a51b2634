/-! ===== the reference's reader: without a fault there is no place of one ===== -/
def gB (q : pS) : Prop := q.2.2.1 = 0 → q.2.2.2.1 = -1
theorem gB_fl {q : pS} {k p : Int32} (hk : ¬ k = 0) (h : gB q) : gB (flS9 q k p) := by
  unfold flS9
  split
  · exact fun z => absurd z hk
  · exact h
theorem gB_s0 {q : pS} {x : Nat} (h : gB q) : gB (s0 q x) := h
theorem gB_hr {M : mM} {L : Nat} {q : pS} (h : gB q) : gB (hrS M L q) := by
  unfold hrS
  split
  · exact h
  · exact h
theorem gB_tk {M : mM} {L : Nat} {q : pS} {l : Nat} {f : Nat → Int32} (h : gB q) : gB (tkS9 M L q l f) := by
  unfold tkS9
  split
  · exact h
  · exact gB_hr h
theorem gB_as {M : mM} {L : Nat} {q : pS} {l : Nat} {f : Nat → Int32} (h : gB q) : gB (asS9 M L q l f) := by
  unfold asS9
  split
  · split
    · exact gB_tk h
    · exact gB_fl (by decide) (gB_hr h)
  · exact h
theorem gB_tg {M : mM} {L : Nat} {q : pS} {c : Int32} (h : gB q) : gB (tgS M L q c) := by
  unfold tgS
  split
  · split
    · exact h
    · exact h
  · exact h
theorem gB_ag {M : mM} {L : Nat} {q : pS} {c : Int32} (h : gB q) : gB (agS M L q c) := by
  unfold agS
  split
  · split
    · exact gB_tg h
    · exact gB_fl (by decide) (gB_tg h)
  · exact h
theorem gB_op {q : pS} {v p : Int32} (h : gB q) : gB (opS q v p) := by
  unfold opS
  split
  · exact gB_fl (by decide) h
  · exact h
theorem gB_nb {M : mM} {L : Nat} {q : pS} {lo hi : Int32} (h : gB q) : gB (nbV M L q lo hi).2 := by
  unfold nbV
  split
  · split
    · split
      · exact gB_fl (q := (skb M L q.1, q.2)) (by decide) h
      · split
        · exact gB_fl (q := ((nuS M L (skb M L q.1)).2.1, q.2)) (by decide) h
        · split
          · exact h
          · exact gB_fl (q := ((nuS M L (skb M L q.1)).2.1, nI (nuS M L (skb M L q.1)).2.1, q.2.2)) (by decide) h
    · exact gB_fl (q := (skb M L q.1, q.2)) (by decide) h
  · exact h
theorem gB_cd {q : pS} {v : Int32} (h : gB q) : gB (cdS q v) := h
theorem gB_np {M : mM} {L : Nat} {q : pS} (h : gB q) : gB (npS M L q) := by
  unfold npS
  split
  · exact gB_cd (gB_nb h)
  · exact gB_nb h
theorem gB_opE {M : mM} {L : Nat} {q : pS} (h : gB q) : gB (opE M L q) := by
  obtain ⟨aT, eN, bD, bP, cD, wT, oP, bS, cS, wS⟩ := q
  have hS : gB (skb M L aT, eN, bD, bP, cD, wT, oP, bS, cS, wS) := h
  unfold opE
  dsimp only
  repeat' split
  · exact gB_np hS
  · exact gB_cd (gB_tk hS)
  · exact gB_cd (gB_tk hS)
  · exact gB_cd (gB_tk hS)
  · exact gB_cd (gB_tk hS)
  · exact gB_cd (gB_tk hS)
  · exact gB_cd (gB_tk hS)
  · exact gB_cd (gB_tk h)
  · exact h
theorem gB_opB {M : mM} {L : Nat} {q : pS} (h : gB q) : gB (opB M L q).2 := by
  obtain ⟨aT, eN, bD, bP, cD, wT, oP, bS, cS, wS⟩ := q
  have hS : gB (skb M L aT, eN, bD, bP, cD, wT, oP, bS, cS, wS) := h
  unfold opB
  dsimp only
  repeat' split
  · exact gB_s0 (gB_op hS)
  · exact hS
  · exact gB_ag (gB_op (gB_s0 (gB_tk hS)))
  · exact gB_ag (gB_s0 (gB_tk hS))
  · exact gB_ag (gB_op (gB_s0 (gB_tk hS)))
  · exact gB_ag (gB_s0 (gB_tk hS))
theorem gB_opF {M : mM} {L : Nat} : ∀ (k : Nat) {q : pS}, gB q → gB (opF M L k q)
  | 0, _, h => h
  | k + 1, q, h => by
    unfold opF
    split
    · split
      · exact gB_opF k (gB_opB h)
      · exact gB_opB h
    · exact h
theorem gB_one {M : mM} {L : Nat} {q : pS} (h : gB q) : gB (oneS M L q) := gB_opE (gB_opF 700 h)
theorem gB_gcB {M : mM} {L : Nat} {q : pS} (h : gB q) : gB (gcB M L q).2 := by
  obtain ⟨aT, eN, bD, bP, cD, wT, oP, bS, cS, wS⟩ := q
  have hS : gB (skb M L aT, eN, bD, bP, cD, wT, oP, bS, cS, wS) := h
  unfold gcB
  dsimp only
  repeat' split
  all_goals first | exact h
theorem gB_gcF {M : mM} {L : Nat} : ∀ (k : Nat) {q : pS}, gB q → gB (gcF M L k q)
  | 0, _, h => h
  | k + 1, q, h => by
    unfold gcF
    split
    · exact gB_gcF k (gB_gcB h)
    · exact gB_gcB h
theorem gB_gsR {M : mM} {L : Nat} {q : pS} (h : gB q) : gB (gsR M L q).2 := by
  obtain ⟨aT, eN, bD, bP, cD, wT, oP, bS, cS, wS⟩ := q
  have hS : gB (skb M L aT, eN, bD, bP, cD, wT, oP, bS, cS, wS) := h
  unfold gsR
  dsimp only
  repeat' split
  all_goals first | exact h | exact gB_ag (M := M) (L := L) (c := 44) h | exact gB_fl (by decide) h
theorem gB_gon {M : mM} {L : Nat} {q : pS} (h : gB q) : gB (gonQ M L q).2 := gB_gsR (gB_gcF 700 h)
theorem gB_dtB {q : pS} (h : gB q) : gB (dtB q) := by
  unfold dtB
  split
  · exact h
  · exact h
theorem gB_sumF {M : mM} {L : Nat} : ∀ (k : Nat) {q : pS}, gB q → gB (sumF M L k q)
  | 0, _, h => h
  | k + 1, q, h => by
    unfold sumF
    split
    · split
      · split
        · exact gB_sumF k (gB_gon (gB_one h))
        · exact gB_gon (gB_one h)
      · exact gB_one h
    · exact h
theorem gB_sum {M : mM} {L : Nat} {q : pS} (h : gB q) : gB (sumS M L q) := gB_dtB (gB_sumF (M := M) (L := L) 700 (q := s7 q q.2.2.2.2.2.1) h)
theorem gB_fac3 {q : pS} {c : Int32} (h : gB q) : gB (fac3 c q) := by
  obtain ⟨aT, eN, bD, bP, cD, wT, oP, bS, cS, wS⟩ := q
  unfold fac3
  dsimp only
  repeat' split
  all_goals first | exact h | exact gB_cd h
theorem gB_fac2 {M : mM} {L : Nat} {q : pS} (h : gB q) : gB (fac2 M L q) := by
  obtain ⟨aT, eN, bD, bP, cD, wT, oP, bS, cS, wS⟩ := q
  have hS : gB (skb M L aT, eN, bD, bP, cD, wT, oP, bS, cS, wS) := h
  unfold fac2
  dsimp only
  repeat' split
  all_goals first | exact h | exact gB_fac3 (gB_sum (q := (skb M L aT + 1, eN, bD, bP, cD, wT, oP, bS, cS, wS)) h) | exact gB_fl (by decide) hS
theorem gB_facS9 {M : mM} {L : Nat} {q : pS} (h : gB q) : gB (facS9 M L q) := by
  obtain ⟨aT, eN, bD, bP, cD, wT, oP, bS, cS, wS⟩ := q
  have hS : gB (skb M L aT, eN, bD, bP, cD, wT, oP, bS, cS, wS) := h
  unfold facS9
  dsimp only
  repeat' split
  · exact gB_fac2 (gB_sum h)
  · exact gB_cd (gB_nb (gB_tk h))
  · exact gB_cd (gB_tk h)
theorem gB_dn {q : pS} (h : gB q) : gB (dnQ q) := by
  unfold dnQ
  split
  · exact h
  · exact h
theorem gB_gtB {M : mM} {L : Nat} {q : pS} (h : gB q) : gB (gtB M L q).2 := by
  obtain ⟨aT, eN, bD, bP, cD, wT, oP, bS, cS, wS⟩ := q
  have hS : gB (skb M L aT, eN, bD, bP, cD, wT, oP, bS, cS, wS) := h
  unfold gtB
  dsimp only
  repeat' split
  all_goals first | exact h | exact gB_dn (q := s6 (s5 (dwQ ((skb M L aT + 1), eN, bD, bP, cD, wT, oP, bS, cS, wS) (nsP wS)) ((dwQ ((skb M L aT + 1), eN, bD, bP, cD, wT, oP, bS, cS, wS) (nsP wS)).2.2.2.2.2.1 - 1)) ((dwQ ((skb M L aT + 1), eN, bD, bP, cD, wT, oP, bS, cS, wS) (nsP wS)).2.2.2.2.2.2.1 - 1)) h
theorem gB_gtF {M : mM} {L : Nat} : ∀ (k : Nat) {q : pS}, gB q → gB (gtF M L k q)
  | 0, _, h => h
  | k + 1, q, h => by
    unfold gtF
    split
    · exact gB_gtF k (gB_gtB h)
    · exact gB_gtB h
theorem gB_gtR {M : mM} {L : Nat} {q : pS} (h : gB q) : gB (gtR M L q).2 := by
  obtain ⟨aT, eN, bD, bP, cD, wT, oP, bS, cS, wS⟩ := q
  have hS : gB (skb M L aT, eN, bD, bP, cD, wT, oP, bS, cS, wS) := h
  unfold gtR
  dsimp only
  repeat' split
  all_goals first | exact h | exact gB_fl (by decide) h
theorem gB_got {M : mM} {L : Nat} {q : pS} (h : gB q) : gB (gotQ M L q).2 := gB_gtR (gB_gtF 700 h)
theorem gB_tsC {M : mM} {L : Nat} {q : pS} (h : gB q) : gB (tsC M L q).2 := by
  unfold tsC
  split
  · exact gB_got (gB_dn h)
  · exact gB_dn h
theorem gB_tsB {M : mM} {L : Nat} {q : pS} (h : gB q) : gB (tsB M L q).2 := by
  obtain ⟨aT, eN, bD, bP, cD, wT, oP, bS, cS, wS⟩ := q
  have hS : gB (skb M L aT, eN, bD, bP, cD, wT, oP, bS, cS, wS) := h
  unfold tsB
  dsimp only
  repeat' split
  · exact gB_s0 (gB_op hS)
  · exact gB_tsC (gB_facS9 hS)
  · exact gB_as (gB_op hS)
theorem gB_tsF {M : mM} {L : Nat} : ∀ (k : Nat) {q : pS}, gB q → gB (tsF M L k q)
  | 0, _, h => h
  | k + 1, q, h => by
    unfold tsF
    split
    · split
      · exact gB_tsF k (gB_tsB h)
      · exact gB_tsB h
    · exact h
theorem gB_dtA {q : pS} (h : gB q) : gB (dtA q) := by
  unfold dtA
  split
  · exact h
  · exact h
theorem gB_tes {M : mM} {L : Nat} {q : pS} (h : gB q) : gB (tesS M L q) := gB_dtA (gB_tsF 700 h)
