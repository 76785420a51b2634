/-! ===== the parsers agree: a plain fact, a not ===== -/
theorem ts_p {M : mM} {tx : Nat → Nat} {L o : Nat} {Z : rZ} {q : pS} (T : txM M tx L) (R : rV M) (I : prI M tx L Z q o) (h11 : ¬ rtok Z = nI 11) (h91 : ¬ rtok Z = nI 91) : tsF M L 700 q = gotK M L (facS9 M L (skb M L q.1, q.2)) := by
  have C9 : cur9 M tx L Z (skb M L q.1, q.2) := cur_sk T I.1 rfl rfl
  have e11 := (hqW (k := 11) (l := 3) (r := 13) T R C9 I.2.1.1 (by decide) rfl rfl).2 h11
  have n91 : ¬ lkV M L q.1 = nI 91 := fun z => h91 ((tok_c T I.1 (c := 91) (by decide) sg_ok.2.2.2.2.2.2.2.2.2.2.2.1).1.mp z)
  have e : tsB M L q = tsC M L (facS9 M L (skb M L q.1, q.2)) := by
    obtain ⟨aT, eN, bD, bP, cD, wT, oP, bS, cS, wS⟩ := q
    exact (if_neg n91).trans (if_pos (by rw [e11]; rfl))
  rw [tsF_q (M := M) T.1 I.2.2.1 I.2.1.1, e]
  rfl
theorem got_x {M : mM} {L : Nat} {q : pS} (h : ¬ q.2.2.1 = 0) : gotK M L q = q := by
  have e : dnQ q = q := if_neg h
  unfold gotK tsC
  rw [e, if_neg h]
  exact if_neg (fun z => Bool.noConfusion z)
theorem fct_p {M : mM} {tx : Nat → Nat} {L o : Nat} {Z : rZ} {q : pS} {r2 fa r0 : rZ → Bool × rZ} (T : txM M tx L) (R : rV M) (H : sumH M tx L o r2) (I : prI M tx L Z q o) (D : cdI tx L Z q []) (h0 : q.2.2.2.2.2.1 = 0 ∨ P1 (q.2.2.2.2.2.2.2.2.2 (q.2.2.2.2.2.1 - 1)) = false) (h11 : ¬ rtok Z = nI 11) (h91 : ¬ rtok Z = nI 91) : resT9 M tx L Z q o (fun _ => false) (fun _ => True) (tsF M L 700 q) (facS fa r0 (cmpS r2) o Z) := by
  obtain ⟨I9, D9, k9⟩ := nrm T I D
  obtain ⟨f, h⟩ := fac_a (fa := fa) (r0 := r0) T R H I9 D9 h0 h11 h91
  rw [ts_p T R I h11 h91]
  rcases h with ⟨ok, I1, D1, S1, b1, b2⟩ | ⟨no, st⟩
  · have b1' : (facS9 M L (skb M L q.1, q.2)).2.2.2.2.1 + cnt tx L (skb M L q.1) ≤ q.2.2.2.2.1 + cnt tx L (facS9 M L (skb M L q.1, q.2)).1 := b1
    have b2' : cnt tx L (skb M L q.1) ≤ cnt tx L (facS9 M L (skb M L q.1, q.2)).1 := b2
    rw [k9] at b1' b2'
    exact ⟨f, Or.inl ⟨ok, _, [], rfl, I1, D1, S1, fun j hj => absurd hj (Nat.not_lt_zero j), ⟨b1', b2'⟩, trivial⟩⟩
  · rw [got_x st.1]
    exact ⟨f, Or.inr ⟨no, st⟩⟩
/-- the facts one level deeper agree -/
def facH (M : mM) (tx : Nat → Nat) (L o : Nat) (fa : rZ → Bool × rZ) : Prop := ∀ (Z : rZ) (q : pS), prI M tx L Z q o → cdI tx L Z q [] → (q.2.2.2.2.2.1 = 0 ∨ P1 (q.2.2.2.2.2.2.2.2.2 (q.2.2.2.2.2.1 - 1)) = false) → resT9 M tx L Z q o (fun _ => false) (fun _ => True) (tsF M L 700 q) (fa Z)
theorem fct_n {M : mM} {tx : Nat → Nat} {L o : Nat} {Z : rZ} {q : pS} {fa : rZ → Bool × rZ} (T : txM M tx L) (R : rV M) (I : prI M tx L Z q o) (D : cdI tx L Z q []) (HF : o < 6 → facH M tx L (o + 1) fa) (h : rtok Z = nI 11) : resT9 M tx L Z q o (fun _ => false) (fun _ => True) (tsF M L 700 q) (rbd (rent Z 11 (nI o)) (fun Y => rbd (fa Y) (fun Y2 => (true, remi Y2 11 0)))) := by
  obtain ⟨h1, h2⟩ := ts_11 T R I h
  have h' : rtok Z = 11 := h
  by_cases ho : o < 6
  · rw [rent_ok h' ho, rbd_ok rfl, h1 ho]
    obtain ⟨I2, D2, S2⟩ := wps_pr T R I D h ho
    have k1 := jn_cnt T I.1 I2.1
    have e5 : (wpsQ (skb M L q.1) 3 16 q).2.2.2.2.1 = q.2.2.2.2.1 := rfl
    generalize wpsQ (skb M L q.1) 3 16 q = q2 at I2 D2 S2 k1 e5 ⊢
    obtain ⟨f3, h3⟩ := HF ho (rnxt Z) q2 I2 D2 (Or.inr (by rw [psh_top S2]; decide))
    show resT9 _ _ _ _ _ _ _ _ _ (rbd (fa (rnxt Z)) _)
    rcases h3 with ⟨ok, q3, ps3, g3, I3, D3, S3, p3, ⟨b3, b4⟩, -⟩ | ⟨no, st⟩
    · rw [rbd_ok ok, g3]
      have e0 : ps3 = [] := by
        cases ps3 with
        | nil => rfl
        | cons v ps => exact absurd (p3 0 (Nat.succ_pos _)) (fun z => Bool.noConfusion z)
      subst e0
      have b3' : q3.2.2.2.2.1 + 0 + cnt tx L q2.1 ≤ q2.2.2.2.2.1 + cnt tx L q3.1 := b3
      have c0 : q.2.2.2.2.1 + 0 ≤ cnt tx L q.1 := D.2.1
      obtain ⟨g, I4, D4, S4⟩ := not_d T I3 D3 (skI_t S3 S2) (by omega)
      refine ⟨frZ_t frZ_n (frZ_t f3 frZ_e), Or.inl ⟨rfl, ntQ q3, [], g, I4, D4, S4, fun j hj => absurd hj (Nat.not_lt_zero j), ⟨?_, ?_⟩, trivial⟩⟩
      · show q3.2.2.2.2.1 + 1 + 0 + cnt tx L q.1 ≤ q.2.2.2.2.1 + cnt tx L q3.1
        omega
      · show cnt tx L q.1 ≤ cnt tx L q3.1
        omega
    · rw [rbd_no no]
      exact ⟨frZ_t frZ_n f3, Or.inr ⟨rfl, st⟩⟩
  · have h6 : o = 6 := by
      have := I.2.2.2.2
      omega
    have st := h2 h6
    subst h6
    rw [rent_6 h', rbd_no rfl]
    exact ⟨frZ_r, Or.inr ⟨rfl, st⟩⟩
