/-! ===== the reference's reader: codes behind the last are not touched ===== -/
def gW (W : Nat → Int32) (q : pS) : Prop := ∀ i, q.2.2.2.2.1 ≤ i → q.2.2.2.2.2.2.2.2.1 i = W i
theorem upc_ne {f : Nat → Int32} {c i : Nat} {v : Int32} (h : c + 1 ≤ i) : va_up f c v i = f i := by
  unfold va_up
  rw [if_neg (by omega)]
theorem dwS_c {W : Nat → Int32} {ws : Nat → Int32} {p : Nat → Bool} : ∀ (w c : Nat) (s : Nat → Int32), (∀ i, c ≤ i → s i = W i) → ∀ i, (dwS ws p w c s).2.1 ≤ i → (dwS ws p w c s).2.2 i = W i
  | 0, _, _, h => h
  | w + 1, c, s, h => by
    unfold dwS
    split
    · exact dwS_c w (c + 1) _ (fun i hi => (upc_ne hi).trans (h i (by omega)))
    · exact h
theorem dnF_c {W : Nat → Int32} {ws : Nat → Int32} : ∀ (w c : Nat) (o : Int32) (s : Nat → Int32), (∀ i, c ≤ i → s i = W i) → ∀ i, (dnF ws w c o s).2.1 ≤ i → (dnF ws w c o s).2.2.2 i = W i
  | 0, _, _, _, h => h
  | w + 1, c, o, s, h => by
    unfold dnF
    split
    · exact dnF_c w (c + 1) _ _ (fun i hi => (upc_ne hi).trans (h i (by omega)))
    · exact h
theorem gW_dw {W : Nat → Int32} {q : pS} {p : Nat → Bool} (h : gW W q) : gW W (dwQ q p) := dwS_c _ _ _ h
theorem gW_s5 {W : Nat → Int32} {q : pS} {x : Nat} (h : gW W q) : gW W (s5 q x) := h
theorem gW_s6 {W : Nat → Int32} {q : pS} {x : Int32} (h : gW W q) : gW W (s6 q x) := h
theorem gW_s9 {W : Nat → Int32} {q : pS} {x : Nat → Int32} (h : gW W q) : gW W (s9 q x) := h
theorem gW_fl {W : Nat → Int32} {q : pS} {k p : Int32} (_hk : ¬ k = 0) (h : gW W q) : gW W (flS9 q k p) := by
  unfold flS9
  split
  · exact h
  · exact h
theorem gW_s0 {W : Nat → Int32} {q : pS} {x : Nat} (h : gW W q) : gW W (s0 q x) := h
theorem gW_hr {W : Nat → Int32} {M : mM} {L : Nat} {q : pS} (h : gW W q) : gW W (hrS M L q) := by
  unfold hrS
  split
  · exact h
  · exact h
theorem gW_tk {W : Nat → Int32} {M : mM} {L : Nat} {q : pS} {l : Nat} {f : Nat → Int32} (h : gW W q) : gW W (tkS9 M L q l f) := by
  unfold tkS9
  split
  · exact h
  · exact gW_hr h
theorem gW_as {W : Nat → Int32} {M : mM} {L : Nat} {q : pS} {l : Nat} {f : Nat → Int32} (h : gW W q) : gW W (asS9 M L q l f) := by
  unfold asS9
  split
  · split
    · exact gW_tk h
    · exact gW_fl (by decide) (gW_hr h)
  · exact h
theorem gW_tg {W : Nat → Int32} {M : mM} {L : Nat} {q : pS} {c : Int32} (h : gW W q) : gW W (tgS M L q c) := by
  unfold tgS
  split
  · split
    · exact h
    · exact h
  · exact h
theorem gW_ag {W : Nat → Int32} {M : mM} {L : Nat} {q : pS} {c : Int32} (h : gW W q) : gW W (agS M L q c) := by
  unfold agS
  split
  · split
    · exact gW_tg h
    · exact gW_fl (by decide) (gW_tg h)
  · exact h
theorem gW_op {W : Nat → Int32} {q : pS} {v p : Int32} (h : gW W q) : gW W (opS q v p) := by
  unfold opS
  split
  · exact gW_fl (by decide) h
  · exact h
theorem gW_nb {W : Nat → Int32} {M : mM} {L : Nat} {q : pS} {lo hi : Int32} (h : gW W q) : gW W (nbV M L q lo hi).2 := by
  unfold nbV
  split
  · split
    · split
      · exact gW_fl (q := (skb M L q.1, q.2)) (by decide) h
      · split
        · exact gW_fl (q := ((nuS M L (skb M L q.1)).2.1, q.2)) (by decide) h
        · split
          · exact h
          · exact gW_fl (q := ((nuS M L (skb M L q.1)).2.1, nI (nuS M L (skb M L q.1)).2.1, q.2.2)) (by decide) h
    · exact gW_fl (q := (skb M L q.1, q.2)) (by decide) h
  · exact h
theorem gW_cd {W : Nat → Int32} {q : pS} {v : Int32} (h : gW W q) : gW W (cdS q v) := fun i hi => (upc_ne hi).trans (h i (Nat.le_of_succ_le hi))
theorem gW_np {W : Nat → Int32} {M : mM} {L : Nat} {q : pS} (h : gW W q) : gW W (npS M L q) := by
  unfold npS
  split
  · exact gW_cd (gW_nb h)
  · exact gW_nb h
theorem gW_opE {W : Nat → Int32} {M : mM} {L : Nat} {q : pS} (h : gW W q) : gW W (opE M L q) := by
  obtain ⟨aT, eN, bD, bP, cD, wT, oP, bS, cS, wS⟩ := q
  have hS : gW W (skb M L aT, eN, bD, bP, cD, wT, oP, bS, cS, wS) := h
  unfold opE
  dsimp only
  repeat' split
  · exact gW_np hS
  · exact gW_cd (gW_tk hS)
  · exact gW_cd (gW_tk hS)
  · exact gW_cd (gW_tk hS)
  · exact gW_cd (gW_tk hS)
  · exact gW_cd (gW_tk hS)
  · exact gW_cd (gW_tk hS)
  · exact gW_cd (gW_tk h)
  · exact h
theorem gW_opB {W : Nat → Int32} {M : mM} {L : Nat} {q : pS} (h : gW W q) : gW W (opB M L q).2 := by
  obtain ⟨aT, eN, bD, bP, cD, wT, oP, bS, cS, wS⟩ := q
  have hS : gW W (skb M L aT, eN, bD, bP, cD, wT, oP, bS, cS, wS) := h
  unfold opB
  dsimp only
  repeat' split
  · exact gW_s0 (gW_op hS)
  · exact hS
  · exact gW_ag (gW_op (gW_s0 (gW_tk hS)))
  · exact gW_ag (gW_s0 (gW_tk hS))
  · exact gW_ag (gW_op (gW_s0 (gW_tk hS)))
  · exact gW_ag (gW_s0 (gW_tk hS))
theorem gW_opF {W : Nat → Int32} {M : mM} {L : Nat} : ∀ (k : Nat) {q : pS}, gW W q → gW W (opF M L k q)
  | 0, _, h => h
  | k + 1, q, h => by
    unfold opF
    split
    · split
      · exact gW_opF k (gW_opB h)
      · exact gW_opB h
    · exact h
theorem gW_one {W : Nat → Int32} {M : mM} {L : Nat} {q : pS} (h : gW W q) : gW W (oneS M L q) := gW_opE (gW_opF 700 h)
theorem gW_gcB {W : Nat → Int32} {M : mM} {L : Nat} {q : pS} (h : gW W q) : gW W (gcB M L q).2 := by
  obtain ⟨aT, eN, bD, bP, cD, wT, oP, bS, cS, wS⟩ := q
  have hS : gW W (skb M L aT, eN, bD, bP, cD, wT, oP, bS, cS, wS) := h
  unfold gcB
  dsimp only
  repeat' split
  all_goals first | exact h | exact gW_s6 (gW_s5 (gW_dw (q := (skb M L aT + 1, eN, bD, bP, cD, wT, oP, bS, cS, wS)) h)) | exact gW_cd (gW_s6 (gW_s5 (gW_dw (q := (skb M L aT + 1, eN, bD, bP, cD, wT, oP, bS, cS, wS)) h)))
theorem gW_gcF {W : Nat → Int32} {M : mM} {L : Nat} : ∀ (k : Nat) {q : pS}, gW W q → gW W (gcF M L k q)
  | 0, _, h => h
  | k + 1, q, h => by
    unfold gcF
    split
    · exact gW_gcF k (gW_gcB h)
    · exact gW_gcB h
theorem gW_gsR {W : Nat → Int32} {M : mM} {L : Nat} {q : pS} (h : gW W q) : gW W (gsR M L q).2 := by
  obtain ⟨aT, eN, bD, bP, cD, wT, oP, bS, cS, wS⟩ := q
  have hS : gW W (skb M L aT, eN, bD, bP, cD, wT, oP, bS, cS, wS) := h
  unfold gsR
  dsimp only
  repeat' split
  all_goals first | exact h | exact gW_ag (M := M) (L := L) (c := 44) h | exact gW_fl (by decide) h | exact gW_s9 (gW_dw (gW_ag (M := M) (L := L) (c := 44) h)) | exact gW_s9 (gW_s5 (gW_dw (q := (aT + 1, eN, bD, bP, cD, wT, oP, bS, cS, wS)) h))
theorem gW_gon {W : Nat → Int32} {M : mM} {L : Nat} {q : pS} (h : gW W q) : gW W (gonQ M L q).2 := gW_gsR (gW_gcF 700 h)
theorem gW_dtB {W : Nat → Int32} {q : pS} (h : gW W q) : gW W (dtB q) := by
  unfold dtB
  split
  · exact gW_dw h
  · exact h
theorem gW_sumF {W : Nat → Int32} {M : mM} {L : Nat} : ∀ (k : Nat) {q : pS}, gW W q → gW W (sumF M L k q)
  | 0, _, h => h
  | k + 1, q, h => by
    unfold sumF
    split
    · split
      · split
        · exact gW_sumF k (gW_gon (gW_one h))
        · exact gW_gon (gW_one h)
      · exact gW_one h
    · exact h
theorem gW_sum {W : Nat → Int32} {M : mM} {L : Nat} {q : pS} (h : gW W q) : gW W (sumS M L q) := gW_dtB (gW_sumF (M := M) (L := L) 700 (q := s7 q q.2.2.2.2.2.1) h)
theorem gW_fac3 {W : Nat → Int32} {q : pS} {c : Int32} (h : gW W q) : gW W (fac3 c q) := by
  obtain ⟨aT, eN, bD, bP, cD, wT, oP, bS, cS, wS⟩ := q
  unfold fac3
  dsimp only
  repeat' split
  all_goals first | exact h | exact gW_cd h
theorem gW_fac2 {W : Nat → Int32} {M : mM} {L : Nat} {q : pS} (h : gW W q) : gW W (fac2 M L q) := by
  obtain ⟨aT, eN, bD, bP, cD, wT, oP, bS, cS, wS⟩ := q
  have hS : gW W (skb M L aT, eN, bD, bP, cD, wT, oP, bS, cS, wS) := h
  unfold fac2
  dsimp only
  repeat' split
  all_goals first | exact h | exact gW_fac3 (gW_sum (q := (skb M L aT + 1, eN, bD, bP, cD, wT, oP, bS, cS, wS)) h) | exact gW_fl (by decide) hS
theorem gW_facS9 {W : Nat → Int32} {M : mM} {L : Nat} {q : pS} (h : gW W q) : gW W (facS9 M L q) := by
  obtain ⟨aT, eN, bD, bP, cD, wT, oP, bS, cS, wS⟩ := q
  have hS : gW W (skb M L aT, eN, bD, bP, cD, wT, oP, bS, cS, wS) := h
  unfold facS9
  dsimp only
  repeat' split
  · exact gW_fac2 (gW_sum h)
  · exact gW_cd (gW_nb (gW_tk h))
  · exact gW_cd (gW_tk h)
theorem gW_dn {W : Nat → Int32} {q : pS} (h : gW W q) : gW W (dnQ q) := by
  unfold dnQ
  split
  · exact dnF_c _ _ _ _ h
  · exact h
theorem gW_gtB {W : Nat → Int32} {M : mM} {L : Nat} {q : pS} (h : gW W q) : gW W (gtB M L q).2 := by
  obtain ⟨aT, eN, bD, bP, cD, wT, oP, bS, cS, wS⟩ := q
  unfold gtB
  dsimp only
  repeat' split
  all_goals first | exact h | exact gW_dn (gW_s6 (gW_s5 (gW_dw (q := (skb M L aT + 1, eN, bD, bP, cD, wT, oP, bS, cS, wS)) h)))
theorem gW_gtF {W : Nat → Int32} {M : mM} {L : Nat} : ∀ (k : Nat) {q : pS}, gW W q → gW W (gtF M L k q)
  | 0, _, h => h
  | k + 1, q, h => by
    unfold gtF
    split
    · exact gW_gtF k (gW_gtB h)
    · exact gW_gtB h
theorem gW_gtR {W : Nat → Int32} {M : mM} {L : Nat} {q : pS} (h : gW W q) : gW W (gtR M L q).2 := by
  obtain ⟨aT, eN, bD, bP, cD, wT, oP, bS, cS, wS⟩ := q
  unfold gtR
  dsimp only
  repeat' split
  all_goals first | exact h | exact gW_fl (by decide) h | exact gW_s9 (gW_s5 (gW_dw (q := (skb M L aT + 2, nI (skb M L aT + 2), bD, bP, cD, wT, oP, bS, cS, wS)) h)) | exact gW_s9 (gW_s5 (gW_dw (q := (skb M L aT + 3, nI (skb M L aT + 3), bD, bP, cD, wT, oP, bS, cS, wS)) h))
theorem gW_got {W : Nat → Int32} {M : mM} {L : Nat} {q : pS} (h : gW W q) : gW W (gotQ M L q).2 := gW_gtR (gW_gtF 700 h)
theorem gW_tsC {W : Nat → Int32} {M : mM} {L : Nat} {q : pS} (h : gW W q) : gW W (tsC M L q).2 := by
  unfold tsC
  split
  · exact gW_got (gW_dn h)
  · exact gW_dn h
theorem gW_tsB {W : Nat → Int32} {M : mM} {L : Nat} {q : pS} (h : gW W q) : gW W (tsB M L q).2 := by
  obtain ⟨aT, eN, bD, bP, cD, wT, oP, bS, cS, wS⟩ := q
  have hS : gW W (skb M L aT, eN, bD, bP, cD, wT, oP, bS, cS, wS) := h
  unfold tsB
  dsimp only
  repeat' split
  · exact gW_s0 (gW_op hS)
  · exact gW_tsC (gW_facS9 hS)
  · exact gW_as (gW_op hS)
theorem gW_tsF {W : Nat → Int32} {M : mM} {L : Nat} : ∀ (k : Nat) {q : pS}, gW W q → gW W (tsF M L k q)
  | 0, _, h => h
  | k + 1, q, h => by
    unfold tsF
    split
    · split
      · exact gW_tsF k (gW_tsB h)
      · exact gW_tsB h
    · exact h
theorem gW_dtA {W : Nat → Int32} {q : pS} (h : gW W q) : gW W (dtA q) := by
  unfold dtA
  split
  · exact gW_dw h
  · exact h
theorem gW_tes {W : Nat → Int32} {M : mM} {L : Nat} {q : pS} (h : gW W q) : gW W (tesS M L q) := gW_dtA (gW_tsF 700 h)
