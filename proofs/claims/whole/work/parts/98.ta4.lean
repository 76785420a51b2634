/-! ===== the parsers agree: one token ===== -/
def cur9 (M : mM) (tx : Nat → Nat) (L : Nat) (Z : rZ) (q : pS) : Prop := tokI Z tx L ∧ Z 0 13 = nI (cnt tx L q.1) ∧ glU tx L q.1 q.2.1
theorem sg_t : ∀ q, q < 256 → isSg q → 40 ≤ q ∧ srt q = 3 := by decide +kernel
theorem tk_3 {tx : Nat → Nat} {L p : Nat} (hp : p < L) (h : srt (tx p) = 3) : (tkA tx L p).1 = if isSg (tx p) then nI (tx p) else 25 := by
  have e : scT tx L (bf tx p) p = some ((if isSg (tx p) then nI (tx p) else 25), 0) := by
    unfold scT
    exact if_pos h
  unfold tkA
  rw [if_pos hp, e, Option.getD_some]
theorem tk_1 {tx : Nat → Nat} {L p : Nat} (hp : p < L) (h : srt (tx p) = 1) (hb : ¬ bf tx p = 1) : (tkA tx L p).1 = if bf tx p = 2 then 25 else nI (wrd tx L p) := by
  unfold tkA scT
  rw [if_pos hp, if_neg (show ¬ srt (tx p) = 3 by omega), if_pos h, if_neg hb]
  rfl
theorem tk_2 {tx : Nat → Nat} {L p : Nat} (hp : p < L) (h : srt (tx p) = 2) (hb : ¬ bf tx p = 2) : tkA tx L p = (if bf tx p = 1 then 25 else 23, nmS tx L p) := by
  unfold tkA scT
  rw [if_pos hp, if_neg (show ¬ srt (tx p) = 3 by omega), if_neg (show ¬ srt (tx p) = 1 by omega), if_pos h, if_neg hb]
  rfl
theorem tk_L {tx : Nat → Nat} {L p : Nat} (hp : ¬ p < L) : tkA tx L p = (24, 0) := if_neg hp
theorem cur_at {M : mM} {tx : Nat → Nat} {L : Nat} {Z : rZ} {q : pS} (T : txM M tx L) (C : cur9 M tx L Z q) : (rtok Z = (tkA tx L (skb M L q.1)).1 ∧ rher Z = nI (skb M L q.1) ∧ rval Z = (tkA tx L (skb M L q.1)).2) ∧ glU tx L (skb M L q.1) q.2.1 ∧ (skb M L q.1 < L → tkB9 tx L (skb M L q.1) = true) ∧ Z 0 13 = nI (cnt tx L (skb M L q.1)) ∧ (skb M L q.1 < L → ¬ srt (tx (skb M L q.1)) = 0) := by
  obtain ⟨c1, c2, c3⟩ := C
  obtain ⟨s1, s2, s3⟩ := sk_pl T c3
  have e13 : Z 0 13 = nI (cnt tx L (skb M L q.1)) := by rw [c2, s2]
  exact ⟨rtk c1 e13 s1.1 s3, s1, s3, e13, fun h h2 => tk_blank h2 (s3 h)⟩
/-- the class takes its token, the reference is at b -/
theorem cur_nx {M : mM} {tx : Nat → Nat} {L b : Nat} {Z : rZ} {q r : pS} (T : txM M tx L) (C : cur9 M tx L Z q) (hc : cnt tx L r.1 = cnt tx L (skb M L q.1) + 1) (G : glU tx L r.1 r.2.1) : cur9 M tx L (rnxt Z) r := by
  obtain ⟨-, -, -, e13, -⟩ := cur_at T C
  refine ⟨tokI_fr (up2_k _ _ (by decide)) (up2_k _ _ (by decide)) ⟨up2_row (by decide), up2_row (by decide), up2_row (by decide)⟩ C.1, ?_, G⟩
  unfold rnxt
  rw [up2_s, e13, hc, nI_1]
theorem cur_sk {M : mM} {tx : Nat → Nat} {L : Nat} {Z : rZ} {q r : pS} (T : txM M tx L) (C : cur9 M tx L Z q) (h1 : r.1 = skb M L q.1) (h2 : r.2.1 = q.2.1) : cur9 M tx L Z r := by
  obtain ⟨-, g, -, e13, -⟩ := cur_at T C
  exact ⟨C.1, by rw [h1]; exact e13, by rw [h1, h2]; exact g⟩
/-- a run is taken -/
theorem run_adv {tx : Nat → Nat} {L p l s : Nat} (hL : L ≤ 600) (hs : s = 1 ∨ s = 2) (hl : 1 ≤ l) (h : ∀ j, j < l → p + j < L ∧ srt (tx (p + j)) = s) (h2 : ¬ (p + l < L ∧ srt (tx (p + l)) = s)) (h3 : tkB9 tx L p = true) : cnt tx L (p + l) = cnt tx L p + 1 ∧ glU tx L (p + l) (nI (p + l)) := by
  have hb : ∀ j, j < l → bf tx (p + j + 1) = s := fun j hj => (h j hj).2
  have hbl : bf tx (p + l) = s := by
    have := hb (l - 1) (by omega)
    rw [show p + (l - 1) + 1 = p + l by omega] at this
    exact this
  have hle := (h (l - 1) (by omega)).1
  constructor
  · have e := cnt_same (tx := tx) (L := L) (i := p + 1) (l - 1) (fun j h1 h4 => by
      have e1 := (h (j - p) (by omega)).2
      have e2 := hb (j - p - 1) (by omega)
      rw [show p + (j - p) = j by omega] at e1
      rw [show p + (j - p - 1) + 1 = j by omega] at e2
      unfold tkB9 scT
      rw [e1, e2]
      rcases hs with hs | hs
      · subst hs
        exact fun z => Bool.noConfusion z
      · subst hs
        exact fun z => Bool.noConfusion z)
    rw [show p + 1 + (l - 1) = p + l by omega, cnt_s h3] at e
    exact e
  · refine ⟨by omega, fun z1 z2 => ?_, fun b hb1 hb2 => ?_⟩
    · rw [hbl]
      exact fun z => h2 ⟨z1, z.symm⟩
    · rw [nI_q (by omega) (by omega), hbl]
      exact ⟨fun z => ⟨z, hs⟩, fun z => z.1⟩
theorem sg_adv {tx : Nat → Nat} {L p : Nat} {eN : Int32} (hp : p < L) (h : srt (tx p) = 3) (G : glU tx L p eN) (h3 : tkB9 tx L p = true) : cnt tx L (p + 1) = cnt tx L p + 1 ∧ glU tx L (p + 1) eN := by
  have hb : bf tx (p + 1) = 3 := h
  refine ⟨cnt_s h3, by omega, fun z1 z2 => by rw [hb]; omega, fun b hb1 hb2 => ?_⟩
  rw [G.2.2 b (by omega) hb2, hb]
  exact ⟨fun z => absurd z.1 (by omega), fun z => absurd z.2 (by omega)⟩
/-- a row of the reference holds the word k of the class -/
def wrK (f : Nat → Int32) (k : Nat) : Prop := ∀ j, j < (wdC.getD k []).length → f j = nI ((wdC.getD k []).getD j 0)
theorem wd_ok : ∀ k, k < 23 → 1 ≤ (wdC.getD k []).length ∧ ∀ j, j < (wdC.getD k []).length → 97 ≤ (wdC.getD k []).getD j 0 ∧ (wdC.getD k []).getD j 0 ≤ 122 := by decide +kernel
theorem lk_in {M : mM} {tx : Nat → Nat} {L a : Nat} (T : txM M tx L) (h : skb M L a < L) : lkV M L a = nI (tx (skb M L a)) ∧ tx (skb M L a) < 256 := by
  obtain ⟨e, hb⟩ := T.2 _ h
  refine ⟨?_, hb⟩
  unfold lkV
  rw [if_pos h, e]
theorem lk_out {M : mM} {L a : Nat} (h : ¬ skb M L a < L) : lkV M L a = -1 := if_neg h
theorem tok_w {M : mM} {tx : Nat → Nat} {L k : Nat} {Z : rZ} {q : pS} {f : Nat → Int32} (T : txM M tx L) (C : cur9 M tx L Z q) (h0 : q.2.2.1 = 0) (hk : k < 23) (hf : wrK f k) : (hrQ M L q (wdC.getD k []).length f = true ↔ rtok Z = nI k) ∧ (rtok Z = nI k → isW tx L (skb M L q.1) (wdC.getD k []) = true) := by
  obtain ⟨⟨e1, -, -⟩, g, s3, -, s5⟩ := cur_at T C
  rw [e1]
  obtain ⟨w1, w2⟩ := wd_ok k hk
  unfold hrQ
  rw [if_pos h0]
  have hL := T.1
  by_cases q1 : skb M L q.1 < L
  · obtain ⟨l1, l2⟩ := lk_in T q1
    rw [l1]
    have h3 := srt_3 (tx (skb M L q.1))
    have hz := s5 q1
    rcases (show srt (tx (skb M L q.1)) = 1 ∨ srt (tx (skb M L q.1)) = 2 ∨ srt (tx (skb M L q.1)) = 3 by omega) with c | c | c
    · have hb := g.2.1 q1 (Or.inl c)
      rw [c] at hb
      have hl := letr.mp c
      rw [tk_1 q1 c hb, if_pos (show 97 ≤ nI (tx (skb M L q.1)) ∧ nI (tx (skb M L q.1)) ≤ 122 by
        rw [show (97 : Int32) = nI 97 from rfl, show (122 : Int32) = nI 122 from rfl, nI_leq (by omega) (by omega), nI_leq (by omega) (by omega)]
        exact hl)]
      by_cases c2 : bf tx (skb M L q.1) = 2
      · rw [if_pos ((g.2.2 _ (Nat.le_refl _) g.1).mpr ⟨rfl, Or.inr c2⟩), if_pos c2]
        have hn : ¬ (25 : Int32) = nI k := fun z => by
          rw [show (25 : Int32) = nI 25 from rfl, nI_q (by omega) (by omega)] at z
          omega
        exact ⟨⟨fun z => Bool.noConfusion z, fun z => absurd z hn⟩, fun z => absurd z hn⟩
      · have hw := wrd_le (tx := tx) (L := L) (a := skb M L q.1)
        rw [if_neg (fun z => by
          have := ((g.2.2 _ (Nat.le_refl _) g.1).mp z).2
          omega), if_neg c2, hrP_iff T g.1 w2 hf, nI_q (by omega) (by omega), wrd_iff hk]
        exact ⟨Iff.rfl, fun z => z⟩
    · have hb := g.2.1 q1 (Or.inr c)
      rw [c] at hb
      rw [tk_2 q1 c hb, if_neg (show ¬ (97 ≤ nI (tx (skb M L q.1)) ∧ nI (tx (skb M L q.1)) ≤ 122) by
        rw [show (97 : Int32) = nI 97 from rfl, show (122 : Int32) = nI 122 from rfl, nI_leq (by omega) (by omega), nI_leq (by omega) (by omega)]
        exact fun z => by have := letr.mpr z; omega)]
      have hn : ¬ (if bf tx (skb M L q.1) = 1 then (25 : Int32) else 23) = nI k := fun z => by
        split at z
        · rw [show (25 : Int32) = nI 25 from rfl, nI_q (by omega) (by omega)] at z
          omega
        · rw [show (23 : Int32) = nI 23 from rfl, nI_q (by omega) (by omega)] at z
          omega
      exact ⟨⟨fun z => Bool.noConfusion z, fun z => absurd z hn⟩, fun z => absurd z hn⟩
    · rw [tk_3 q1 c, if_neg (show ¬ (97 ≤ nI (tx (skb M L q.1)) ∧ nI (tx (skb M L q.1)) ≤ 122) by
        rw [show (97 : Int32) = nI 97 from rfl, show (122 : Int32) = nI 122 from rfl, nI_leq (by omega) (by omega), nI_leq (by omega) (by omega)]
        exact fun z => by have := letr.mpr z; omega)]
      have hn : ¬ (if isSg (tx (skb M L q.1)) then nI (tx (skb M L q.1)) else (25 : Int32)) = nI k := fun z => by
        split at z
        · rename_i y
          have := (sg_t _ l2 y).1
          rw [nI_q (by omega) (by omega)] at z
          omega
        · rw [show (25 : Int32) = nI 25 from rfl, nI_q (by omega) (by omega)] at z
          omega
      exact ⟨⟨fun z => Bool.noConfusion z, fun z => absurd z hn⟩, fun z => absurd z hn⟩
  · rw [tk_L q1, lk_out q1, if_neg (show ¬ ((97 : Int32) ≤ -1 ∧ (-1 : Int32) ≤ 122) by decide)]
    have hn : ¬ (24 : Int32) = nI k := fun z => by
      rw [show (24 : Int32) = nI 24 from rfl, nI_q (by omega) (by omega)] at z
      omega
    exact ⟨⟨fun z => Bool.noConfusion z, fun z => absurd z hn⟩, fun z => absurd z hn⟩
theorem adv_w {M : mM} {tx : Nat → Nat} {L k : Nat} {Z : rZ} {q : pS} (T : txM M tx L) (C : cur9 M tx L Z q) (hk : k < 23) (h : isW tx L (skb M L q.1) (wdC.getD k []) = true) (r : pS) (h1 : r.1 = skb M L q.1 + (wdC.getD k []).length) (h2 : r.2.1 = nI (skb M L q.1 + (wdC.getD k []).length)) : cur9 M tx L (rnxt Z) r := by
  obtain ⟨-, -, s3, -, -⟩ := cur_at T C
  obtain ⟨w1, w2⟩ := wd_ok k hk
  obtain ⟨i1, i2⟩ := (isW_iff _ _).mp h
  have h0 := (i1 0 (by omega)).1
  obtain ⟨a1, a2⟩ := run_adv T.1 (Or.inl rfl) w1 (fun j hj => ⟨(i1 j hj).1, (i1 j hj).2.1⟩) i2 (s3 (by omega))
  exact cur_nx (b := 0) T C (by rw [h1]; exact a1) (by rw [h1, h2]; exact a2)
theorem tok_c {M : mM} {tx : Nat → Nat} {L c : Nat} {Z : rZ} {q : pS} (T : txM M tx L) (C : cur9 M tx L Z q) (hc : c < 256) (hs : isSg c) : (lkV M L q.1 = nI c ↔ rtok Z = nI c) ∧ (rtok Z = nI c → ∀ r : pS, r.1 = skb M L q.1 + 1 → r.2.1 = q.2.1 → cur9 M tx L (rnxt Z) r) := by
  obtain ⟨⟨e1, -, -⟩, g, s3, -, s5⟩ := cur_at T C
  rw [e1]
  obtain ⟨c1, c2⟩ := sg_t c hc hs
  have n25 : ¬ (25 : Int32) = nI c := fun z => by
    rw [show (25 : Int32) = nI 25 from rfl, nI_q (by omega) (by omega)] at z
    omega
  by_cases q1 : skb M L q.1 < L
  · obtain ⟨l1, l2⟩ := lk_in T q1
    rw [l1, nI_q (by omega) (by omega)]
    have h3 := srt_3 (tx (skb M L q.1))
    have hz := s5 q1
    rcases (show srt (tx (skb M L q.1)) = 1 ∨ srt (tx (skb M L q.1)) = 2 ∨ srt (tx (skb M L q.1)) = 3 by omega) with d | d | d
    · have hb := g.2.1 q1 (Or.inl d)
      rw [d] at hb
      have hn : ¬ (tkA tx L (skb M L q.1)).1 = nI c := fun z => by
        rw [tk_1 q1 d hb] at z
        split at z
        · exact n25 z
        · have hw := wrd_le (tx := tx) (L := L) (a := skb M L q.1)
          rw [nI_q (by omega) (by omega)] at z
          omega
      exact ⟨⟨fun z => by rw [z] at d; omega, fun z => absurd z hn⟩, fun z => absurd z hn⟩
    · have hb := g.2.1 q1 (Or.inr d)
      rw [d] at hb
      have hn : ¬ (tkA tx L (skb M L q.1)).1 = nI c := fun z => by
        rw [tk_2 q1 d hb] at z
        split at z
        · exact n25 z
        · have z2 : nI 23 = nI c := z
          rw [nI_q (by omega) (by omega)] at z2
          omega
      exact ⟨⟨fun z => by rw [z] at d; omega, fun z => absurd z hn⟩, fun z => absurd z hn⟩
    · rw [tk_3 q1 d]
      obtain ⟨a1, a2⟩ := sg_adv q1 d g (s3 q1)
      refine ⟨?_, fun _ r h1 h2 => cur_nx (b := 0) T C (by rw [h1]; exact a1) (by rw [h1, h2]; exact a2)⟩
      by_cases y : isSg (tx (skb M L q.1))
      · rw [if_pos y, nI_q (by omega) (by omega)]
      · rw [if_neg y]
        exact ⟨fun z => absurd (by rw [z]; exact hs) y, fun z => absurd z n25⟩
  · rw [tk_L q1, lk_out q1]
    have n24 : ¬ (24 : Int32) = nI c := fun z => by
      rw [show (24 : Int32) = nI 24 from rfl, nI_q (by omega) (by omega)] at z
      omega
    have n1 : ¬ (-1 : Int32) = nI c := fun z => by
      have h := congrArg Int32.toInt z
      rw [nI_toInt (by omega), show (-1 : Int32).toInt = -1 from by decide] at h
      omega
    exact ⟨⟨fun z => absurd z n1, fun z => absurd z n24⟩, fun z => absurd z n24⟩
