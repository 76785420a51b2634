/-! ===== a new object of terms: what lies in it ===== -/
theorem ly_at {g : hp_T} {a n0 N b k : Nat} (hb : b < hp_n g) : (∀ x, x ≠ hp_n g → hp_tag (hp_setR (hcp g a n0 N) b k (some (hp_n g))) x = hp_tag g x ∧ hp_len (hp_setR (hcp g a n0 N) b k (some (hp_n g))) x = hp_len g x ∧ hp_i (hp_setR (hcp g a n0 N) b k (some (hp_n g))) x = hp_i g x ∧ hp_l (hp_setR (hcp g a n0 N) b k (some (hp_n g))) x = hp_l g x) ∧ (∀ x, x ≠ hp_n g → x ≠ b → hp_r (hp_setR (hcp g a n0 N) b k (some (hp_n g))) x = hp_r g x) ∧ hp_r (hp_setR (hcp g a n0 N) b k (some (hp_n g))) b = va_up (hp_r g b) k (some (hp_n g)) ∧ hp_tag (hp_setR (hcp g a n0 N) b k (some (hp_n g))) (hp_n g) = 14 ∧ hp_len (hp_setR (hcp g a n0 N) b k (some (hp_n g))) (hp_n g) = N ∧ hp_i (hp_setR (hcp g a n0 N) b k (some (hp_n g))) (hp_n g) = cpyF (hp_i g a) n0 N := by
  refine ⟨fun x hx => ?_, fun x hx hb2 => ?_, ?_, ?_⟩
  · obtain ⟨q1, q2, q3, q4, q5⟩ := hcp_ne g a n0 N hx
    exact ⟨q1, q2, q3, q4⟩
  · exact (hp_upne hb2).trans (hcp_ne g a n0 N hx).2.2.2.2
  · exact (up2_r _ _ _ _).trans (congrArg (fun f => va_up f k (some (hp_n g))) (hcp_ne g a n0 N (x := b) (by omega)).2.2.2.2)
  · exact hcp_at g a n0 N
theorem upr_ne {f : Nat → Option Nat} {c i : Nat} {v : Option Nat} (h : i ≠ c) : va_up f c v i = f i := by
  unfold va_up
  rw [if_neg h]
theorem upr_at {f : Nat → Option Nat} {c : Nat} {v : Option Nat} : va_up f c v c = v := by
  unfold va_up
  rw [if_pos rfl]
/-- what new Terms makes -/
theorem tm_obj {g : hp_T} {b ct cl : Nat} (hb : hp_n g = b + 1) (h3 : 333 ≤ b) : (∀ x, x < b → hp_tag (tmH g b ct cl) x = hp_tag g x ∧ hp_len (tmH g b ct cl) x = hp_len g x ∧ hp_i (tmH g b ct cl) x = hp_i g x ∧ hp_r (tmH g b ct cl) x = hp_r g x) ∧ (hp_i (tmH g b ct cl) b 0 = nI ct ∧ hp_i (tmH g b ct cl) b 4 = (tmL (cpyF (hp_i g 152) 24 ct) ct).1 ∧ hp_i (tmH g b ct cl) b 5 = (tmL (cpyF (hp_i g 152) 24 ct) ct).2.1 ∧ hp_i (tmH g b ct cl) b 6 = (tmL (cpyF (hp_i g 152) 24 ct) ct).2.2) ∧ (hp_r (tmH g b ct cl) b 1 = some (b + 1) ∧ hp_r (tmH g b ct cl) b 2 = some (b + 2) ∧ hp_r (tmH g b ct cl) b 3 = some (b + 3)) ∧ (hp_tag (tmH g b ct cl) (b + 1) = 14 ∧ hp_len (tmH g b ct cl) (b + 1) = cl ∧ hp_i (tmH g b ct cl) (b + 1) = cpyF (hp_i g 151) 600 cl) ∧ (hp_tag (tmH g b ct cl) (b + 2) = 14 ∧ hp_len (tmH g b ct cl) (b + 2) = ct ∧ hp_i (tmH g b ct cl) (b + 2) = cpyF (hp_i g 152) 24 ct) ∧ (hp_tag (tmH g b ct cl) (b + 3) = 14 ∧ hp_len (tmH g b ct cl) (b + 3) = ct + 1 ∧ hp_i (tmH g b ct cl) (b + 3) = va_up (cpyF (hp_i g 153) 24 (ct + 1)) ct (nI cl)) := by
  unfold tmH
  generalize tmL (cpyF (hp_i g 152) 24 ct) ct = z
  have A : hp_n (tmA g b ct) = b + 1 ∧ (∀ x, x ≠ b → hp_i (tmA g b ct) x = hp_i g x) ∧ hp_i (tmA g b ct) b 0 = nI ct ∧ hp_tag (tmA g b ct) = hp_tag g ∧ hp_len (tmA g b ct) = hp_len g ∧ hp_r (tmA g b ct) = hp_r g := ⟨hb, fun x hx => hp_upne hx, up2_s _ _ _ _, rfl, rfl, rfl⟩
  generalize tmA g b ct = g1 at A ⊢
  obtain ⟨n1, i1, j1, t1, l1, r1⟩ := A
  have B := ly_at (g := g1) (a := 151) (n0 := 600) (N := cl) (b := b) (k := 1) (by omega)
  have nB : hp_n (tmC g1 b cl) = b + 2 := congrArg (· + 1) n1
  have eC : tmC g1 b cl = hp_setR (hcp g1 151 600 cl) b 1 (some (hp_n g1)) := rfl
  rw [← eC, n1] at B
  obtain ⟨b1, b2, b3, b4, b5, b6⟩ := B
  generalize tmC g1 b cl = g2 at b1 b2 b3 b4 b5 b6 nB ⊢
  have B := ly_at (g := g2) (a := 152) (n0 := 24) (N := ct) (b := b) (k := 2) (by omega)
  have nC : hp_n (tmK g2 b ct) = b + 3 := congrArg (· + 1) nB
  have eC : tmK g2 b ct = hp_setR (hcp g2 152 24 ct) b 2 (some (hp_n g2)) := rfl
  rw [← eC, nB] at B
  obtain ⟨c1, c2, c3, c4, c5, c6⟩ := B
  generalize tmK g2 b ct = g3 at c1 c2 c3 c4 c5 c6 nC ⊢
  have B := ly_at (g := g3) (a := 153) (n0 := 24) (N := ct + 1) (b := b) (k := 3) (by omega)
  have eC : tmF g3 b ct cl = hp_setI (hp_setR (hcp g3 153 24 (ct + 1)) b 3 (some (hp_n g3))) (hp_n g3) ct (nI cl) := rfl
  rw [eC]
  generalize hp_setR (hcp g3 153 24 (ct + 1)) b 3 (some (hp_n g3)) = g4 at B ⊢
  rw [nC] at B ⊢
  obtain ⟨d1, d2, d3, d4, d5, d6⟩ := B
  have eI : hp_i (tmE (hp_setI g4 (b + 3) ct (nI cl)) b z) = up2 (up2 (up2 (up2 (hp_i g4) (b + 3) ct (nI cl)) b 4 z.1) b 5 z.2.1) b 6 z.2.2 := rfl
  have eT : hp_tag (tmE (hp_setI g4 (b + 3) ct (nI cl)) b z) = hp_tag g4 := rfl
  have eL : hp_len (tmE (hp_setI g4 (b + 3) ct (nI cl)) b z) = hp_len g4 := rfl
  have eR : hp_r (tmE (hp_setI g4 (b + 3) ct (nI cl)) b z) = hp_r g4 := rfl
  rw [eI, eT, eL, eR]
  have e153 : hp_i g3 153 = hp_i g 153 := (c1 153 (by omega)).2.2.1.trans ((b1 153 (by omega)).2.2.1.trans (i1 153 (by omega)))
  have e152 : hp_i g2 152 = hp_i g 152 := (b1 152 (by omega)).2.2.1.trans (i1 152 (by omega))
  have e151 : hp_i g1 151 = hp_i g 151 := i1 151 (by omega)
  rw [e153] at d6
  rw [e152] at c6
  rw [e151] at b6
  refine ⟨fun x hx => ?_, ⟨?_, ?_, ?_, ?_⟩, ⟨?_, ?_, ?_⟩, ⟨?_, ?_, ?_⟩, ⟨?_, ?_, ?_⟩, d4, d5, ?_⟩
  · obtain ⟨p1, p2, p3, -⟩ := d1 x (by omega)
    obtain ⟨q1, q2, q3, -⟩ := c1 x (by omega)
    obtain ⟨s1, s2, s3, -⟩ := b1 x (by omega)
    refine ⟨p1.trans (q1.trans (s1.trans (congrFun t1 x))), p2.trans (q2.trans (s2.trans (congrFun l1 x))), ?_, (d2 x (by omega) (by omega)).trans ((c2 x (by omega) (by omega)).trans ((b2 x (by omega) (by omega)).trans (congrFun r1 x)))⟩
    rw [hp_upne (show x ≠ b by omega), hp_upne (show x ≠ b by omega), hp_upne (show x ≠ b by omega), hp_upne (show x ≠ b + 3 by omega)]
    exact p3.trans (q3.trans (s3.trans (i1 x (by omega))))
  · rw [up2_k _ _ (show 0 ≠ 6 by decide), up2_k _ _ (show 0 ≠ 5 by decide), up2_k _ _ (show 0 ≠ 4 by decide), up2_a _ _ (show b ≠ b + 3 by omega), (d1 b (by omega)).2.2.1, (c1 b (by omega)).2.2.1, (b1 b (by omega)).2.2.1]
    exact j1
  · rw [up2_k _ _ (show 4 ≠ 6 by decide), up2_k _ _ (show 4 ≠ 5 by decide), up2_s]
  · rw [up2_k _ _ (show 5 ≠ 6 by decide), up2_s]
  · rw [up2_s]
  · rw [d3, upr_ne (show 1 ≠ 3 by decide), c3, upr_ne (show 1 ≠ 2 by decide), b3, upr_at]
  · rw [d3, upr_ne (show 2 ≠ 3 by decide), c3, upr_at]
  · rw [d3, upr_at]
  · exact (d1 (b + 1) (by omega)).1.trans ((c1 (b + 1) (by omega)).1.trans b4)
  · exact (d1 (b + 1) (by omega)).2.1.trans ((c1 (b + 1) (by omega)).2.1.trans b5)
  · rw [hp_upne (show b + 1 ≠ b by omega), hp_upne (show b + 1 ≠ b by omega), hp_upne (show b + 1 ≠ b by omega), hp_upne (show b + 1 ≠ b + 3 by omega)]
    exact (d1 (b + 1) (by omega)).2.2.1.trans ((c1 (b + 1) (by omega)).2.2.1.trans b6)
  · exact (d1 (b + 2) (by omega)).1.trans c4
  · exact (d1 (b + 2) (by omega)).2.1.trans c5
  · rw [hp_upne (show b + 2 ≠ b by omega), hp_upne (show b + 2 ≠ b by omega), hp_upne (show b + 2 ≠ b by omega), hp_upne (show b + 2 ≠ b + 3 by omega)]
    exact (d1 (b + 2) (by omega)).2.2.1.trans c6
  · rw [hp_upne (show b + 3 ≠ b by omega), hp_upne (show b + 3 ≠ b by omega), hp_upne (show b + 3 ≠ b by omega), up2_r, d6]
