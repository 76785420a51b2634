/-! ===== class against reference: helps ===== -/
/-- the terms of the office o let it help on the cell -/
def hlpB (h : hp_T) (w g s c o : Nat) : Bool := (someS h (hlS0 h w g (kn h s) c) ((kn h s).2 o) 16).1
theorem hlp_opV {h : hp_T} {M M1 : mM} {w g n s c : Nat} (w0 : Nat → Int32) (R : rC (hp_i h) M w g) (Bd : bC M) (A : rA (hp_i h) M w g n) (hs : s ≤ n) (hc : c < w * g) (e0 : M1 0 72 = 0 ∧ M1 0 73 = nI (fa_cnt (mpB M s (nI c)) n) ∧ M1 0 74 = 0) (e1 : ∀ r, r ≠ 0 → M1 r = M r) : opV ((kR (hlS0 h w g (kn h s) c) w0).1 7) ((kR (hlS0 h w g (kn h s) c) w0).1 6 4) (mtV M1 n s w g c) := by
  have hcy := cty_n R.1
  have hk := gk_P (R := hp_r h 162) A hs hcy.2 (kS0 h) s (Nat.le_refl _)
  have hle := fa_cnt_le (mpB M s (nI c)) n
  have hn := A.1.2.2
  have h4 : (kn h s).1 4 c = nI (fa_cnt (mpB M s (nI c)) n) := by
    obtain ⟨d, rfl⟩ : ∃ d, n = s + d := ⟨n - s, by omega⟩
    rw [mp_beh d]
    exact hk.1 c (by omega)
  have z := ask_opV (M1 := M1) (sum := 0) (oth := nI (fa_cnt (mpB M s (nI c)) n)) (loss := 0) R Bd A hs hc (by decide) (vbd_nI (by omega)) (by decide) e0 e1
  rw [← h4] at z
  exact z
/-- one office: the same for both -/
theorem hat_eq {h : hp_T} {M : mM} {w g n s c o : Nat} {z : qS} (w0 : Nat → Int32) (R : rC (hp_i h) M w g) (Bd : bC M) (A : rA (hp_i h) M w g n) (hs : s ≤ n) (B : rT h M n) (hc : c < w * g) (ho : o < 9) (hz : ∀ r, r ≠ 0 → z.1 r = M r) (hz62 : fa_cnt (mpB z.1 s (nI c)) n = fa_cnt (mpB M s (nI c)) n) : (hatS n s w g (nI o) c z).1 = (anyb (mhB M s (nI o) (nI c)) n || (someS h (kR (hlS0 h w g (kn h s) c) w0) ((kn h s).2 o) 16).1) ∧ ∀ r, r ≠ 0 → (hatS n s w g (nI o) c z).2.1 r = M r := by
  have hM : ∀ r, r ≠ 0 → hatM z.1 n s c r = M r := fun r hr => (askM_row hr).trans (hz r hr)
  have hmt : mtO z.1 s (nI o) n = mtO M s (nI o) n := by
    have e : mtB z.1 s (nI o) = mtB M s (nI o) := by
      funext f i
      unfold mtB
      simp only [knP, hz 47 (by decide), hz 48 (by decide), hz 51 (by decide)]
    unfold mtO
    rw [e]
  unfold hatS
  rw [mh_fr hz, hmt]
  by_cases q : anyb (mhB M s (nI o) (nI c)) n = true
  · rw [if_pos q, q]
    exact ⟨rfl, hz⟩
  · rw [if_neg q, show anyb (mhB M s (nI o) (nI c)) n = false from Bool.eq_false_iff.mpr q]
    rcases kn_obj A hs B ho with ⟨e1, e2⟩ | ⟨t, b, k, e1, t1, t2, e2, b1, b2, b3, b4, b5, -⟩
    · rw [if_pos e1, e2]
      exact ⟨rfl, hz⟩
    · rw [e1, if_neg (show ¬ t = 0 by omega), e2]
      refine ⟨?_, hM⟩
      have hV := hlp_opV (M1 := hatM z.1 n s c) w0 R Bd A hs hc ⟨rfl, by rw [← hz62]; rfl, rfl⟩ hM
      exact (some_ho (t := 2) (W := z.2) hV (by decide) hM b4 b5).symm.trans (Bool.false_or _).symm
