/-! ===== class against reference: mannerOf ===== -/
theorem man_eq {h : hp_T} {M : mM} {w g n s k o : Nat} (A : rA (hp_i h) M w g n) (hs : s ≤ n) (B : rT h M n) (eo : M 48 k = nI o) (ho : o < 9) : ∃ e, e ≤ 2 ∧ mmaS n s k M = nI e ∧ (((kn h s).2 o = none ∧ e = 1) ∨ ∃ b, (kn h s).2 o = some b ∧ hp_i h b 6 = nI (20 + e)) := by
  have hn := A.1.2.2
  unfold mmaS
  rw [eo]
  rcases kn_obj A hs B ho with ⟨e1, e2⟩ | ⟨t, b, j, e1, t1, t2, e2, b1, b2, b3, b4, b5, p4, p5, p6⟩
  · rw [e1, if_pos (show nI 0 = 0 from rfl)]
    exact ⟨1, by decide, rfl, Or.inl ⟨e2, rfl⟩⟩
  · rw [e1, if_neg (nI_ne0 t1 (by omega))]
    have hk24 := b5.1
    have hla := (la_rel j b5.2.2).2.2
    have eL : laO M t 5 = itN (laB M t 5) (-1) j := by
      unfold laO
      rw [b5.2.1, nI_clamp (by omega)]
    rw [eL]
    rcases hla with ⟨y1, y2⟩ | ⟨q, e, hq9, he, y1, y2, y3⟩
    · rw [y2, if_pos rfl]
      exact ⟨1, by decide, rfl, Or.inr ⟨b, e2, p6.trans y1⟩⟩
    · rw [y2, if_neg (show ¬ nI (24 * t + q) = -1 from nI_nm1 (by omega)), nI_clamp (show 24 * t + q < 2147483648 by omega), y3]
      exact ⟨e, he, rfl, Or.inr ⟨b, e2, p6.trans y1⟩⟩
