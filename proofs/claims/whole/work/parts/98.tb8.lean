/-! ===== the parsers agree: a part in brackets ===== -/
/-- what a sum leaves behind: no join of sums comes next -/
abbrev nxS (t : Int32) : Prop := rjn 2 t = false ∧ rjn 3 t = false ∧ True
/-- the sums one level deeper agree -/
def sumH (M : mM) (tx : Nat → Nat) (L o : Nat) (r2 : rZ → Bool × rZ) : Prop := ∀ (Z : rZ) (q : pS), prI M tx L Z q o → cdI tx L Z q [] → bsQ q ≤ q.2.2.2.2.2.1 → (q.2.2.2.2.2.1 = 0 ∨ P1 (q.2.2.2.2.2.2.2.2.2 (q.2.2.2.2.2.1 - 1)) = false) → resP M tx L Z q o P1 nxS (sumF M L 700 q) (r2 Z)
theorem rpas_ok {Z : rZ} {t : Int32} (h : rtok Z = t) : rpas Z t = (true, rnxt Z) := if_pos h
theorem rpas_no {Z : rZ} {t : Int32} (h : ¬ rtok Z = t) : rpas Z t = (false, rref Z 1 (rher Z)) := if_neg h
theorem rent_ok {Z : rZ} {t : Int32} {o : Nat} (h : rtok Z = t) (ho : o < 6) : rent Z t (nI o) = (true, rnxt Z) := (if_pos h).trans (if_pos (by rw [show (6 : Int32) = nI 6 from rfl]; exact (nI_ltI (a := o) (b := 6) (by omega) (by decide)).mpr ho))
theorem rent_6 {Z : rZ} {t : Int32} (h : rtok Z = t) : rent Z t (nI 6) = (false, rref Z 3 (rher Z)) := (if_pos h).trans (if_neg (by decide))
theorem rent_no {Z : rZ} {t o : Int32} (h : ¬ rtok Z = t) : rent Z t o = (false, rref Z 1 (rher Z)) := if_neg h
/-- the mark that has just been put -/
theorem psh_mk {q qm q3 : pS} {ps : List Int32} {v : Int32} (S : skI9 qm q [v]) (S3 : skI9 q3 qm ps) (hb : bsQ q ≤ q.2.2.2.2.2.1) (hv : isMk v) (hp : ∀ j, j < ps.length → P1 (ps.getD j 0) = true) : mkI q3 qm ps q.2.2.2.2.2.1 v := ⟨S3, S.1, S.2.2.2 0 (Nat.lt_succ_self 0), hv, by rw [S.2.1]; exact hb, hp⟩
theorem psh_top {q qm : pS} {v : Int32} (S : skI9 qm q [v]) : qm.2.2.2.2.2.2.2.2.2 (qm.2.2.2.2.2.1 - 1) = v := by
  rw [S.1]
  exact S.2.2.2 0 (Nat.lt_succ_self 0)
theorem par_b {M : mM} {tx : Nat → Nat} {L o : Nat} {Z : rZ} {q : pS} {r2 : rZ → Bool × rZ} (T : txM M tx L) (I : prI M tx L Z q o) (D : cdI tx L Z q []) (hb : bsQ q ≤ q.2.2.2.2.2.1) (HS : o < 6 → sumH M tx L (o + 1) r2) (h : rtok Z = nI 40) : resP M tx L Z q o (fun _ => false) (fun _ => True) (sumF M L 700 q) (rbd (rent Z 40 (nI o)) (fun Y => rbd (r2 Y) (fun Y => rpas Y 41))) := by
  obtain ⟨h1, h2⟩ := op_40 T I h
  have h' : rtok Z = 40 := h
  by_cases ho : o < 6
  · rw [rent_ok h' ho, rbd_ok rfl, h1 ho]
    obtain ⟨I2, D2, S2⟩ := psh_pr (v := 20) T I D (by decide) sg_ok.1 h ho
    have k1 := jn_cnt T I.1 I2.1
    have e5 : (pshQ (skb M L q.1) 20 q).2.2.2.2.1 = q.2.2.2.2.1 := rfl
    generalize pshQ (skb M L q.1) 20 q = q2 at I2 D2 S2 k1 e5 ⊢
    have s1 : q2.2.2.2.2.2.1 = q.2.2.2.2.2.1 + 1 := S2.1
    obtain ⟨f3, h3⟩ := HS ho (rnxt Z) q2 I2 D2 (by rw [S2.2.1, s1]; omega) (Or.inr (by rw [psh_top S2]; decide))
    rcases h3 with ⟨ok, q3, ps3, g3, I3, D3, S3, p3, ⟨b3, b4⟩, n2, n3, -⟩ | ⟨no, st⟩
    · show resP _ _ _ _ _ _ _ _ _ (rbd (r2 (rnxt Z)) (fun Y => rpas Y 41))
      rw [rbd_ok ok, g3]
      have K := psh_mk S2 S3 hb (show isMk 20 by decide) p3
      by_cases y : rtok (r2 (rnxt Z)).2 = nI 41
      · have y' : rtok (r2 (rnxt Z)).2 = 41 := y
        rw [rpas_ok y']
        have eg := (gc_k T I3 K y).1 rfl
        have e4 := go_gc T.1 I3.2.2.1 (by rw [eg])
        rw [eg] at e4
        obtain ⟨⟨I4, D4⟩, w4, c4, k4⟩ := cl_b T I3 D3 K y
        refine ⟨frZ_t frZ_n (frZ_t f3 frZ_n), Or.inl ⟨rfl, _, [], e4, I4, D4, ⟨w4, S3.2.1.trans S2.2.1, fun i hi => (S3.2.2.1 i (by omega)).trans (S2.2.2.1 i hi), fun j hj => absurd hj (Nat.not_lt_zero j)⟩, fun j hj => absurd hj (Nat.not_lt_zero j), ⟨?_, ?_⟩, trivial⟩⟩
        · show (clQ (skb M L q3.1) q3).2.2.2.2.1 + 0 + cnt tx L q.1 ≤ q.2.2.2.2.1 + cnt tx L (clQ (skb M L q3.1) q3).1
          rw [c4, k4]
          omega
        · show cnt tx L q.1 ≤ cnt tx L (clQ (skb M L q3.1) q3).1
          omega
      · have y' : ¬ rtok (r2 (rnxt Z)).2 = 41 := y
        rw [rpas_no y']
        exact ⟨frZ_t frZ_n (frZ_t f3 frZ_r), Or.inr ⟨rfl, bad_k T I3 K (Or.inl rfl) y n3 n2⟩⟩
    · show resP _ _ _ _ _ _ _ _ _ (rbd (r2 (rnxt Z)) (fun Y => rpas Y 41))
      rw [rbd_no no]
      exact ⟨frZ_t frZ_n f3, Or.inr ⟨rfl, st⟩⟩
  · have h6 : o = 6 := by
      have := I.2.2.2.2
      omega
    have st := h2 h6
    subst h6
    rw [rent_6 h', rbd_no rfl]
    exact ⟨frZ_r, Or.inr ⟨rfl, st⟩⟩
