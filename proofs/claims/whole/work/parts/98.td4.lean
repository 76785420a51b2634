/-! ===== the parsers agree: a fact in brackets; a fact, whole ===== -/
/-- what a row of tests leaves behind -/
abbrev nxT (t : Int32) : Prop := rjn 0 t = false ∧ rjn 1 t = false ∧ True
def orH (M : mM) (tx : Nat → Nat) (L o : Nat) (r0 : rZ → Bool × rZ) : Prop := ∀ (Z : rZ) (q : pS), prI M tx L Z q o → cdI tx L Z q [] → tpT q → (q.2.2.2.2.2.1 = 0 ∨ PO (q.2.2.2.2.2.2.2.2.2 (q.2.2.2.2.2.1 - 1)) = false) → resT9 M tx L Z q o PO nxT (tsF M L 700 q) (r0 Z)
theorem bad_b {M : mM} {tx : Nat → Nat} {L o w0 : Nat} {Y : rZ} {q qm : pS} {ps : List Int32} (T : txM M tx L) (R : rV M) (I : prI M tx L Y q o) (K : mbI q qm ps w0) (h16 : no16 q) (h93 : ¬ rtok Y = nI 93) (h0 : rjn 0 (rtok Y) = false) (h1 : rjn 1 (rtok Y) = false) : stp9 (gotK M L q) (rref Y 1 (rher Y)) := by
  have C9 : cur9 M tx L Y (skb M L q.1, q.2) := cur_sk T I.1 rfl rfl
  unfold rjn at h0 h1
  rw [if_pos rfl] at h0
  rw [if_neg (by decide), if_pos rfl] at h1
  have e12 := (hqW (k := 12) (l := 3) (r := 12) T R C9 I.2.1.1 (by decide) rfl rfl).2 (show ¬ rtok Y = nI 12 from of_decide_eq_false h1)
  have e13 := (hqW (k := 13) (l := 2) (r := 11) T R C9 I.2.1.1 (by decide) rfl rfl).2 (show ¬ rtok Y = nI 13 from of_decide_eq_false h0)
  have hv := hs_mb (a := skb M L q.1) (eN := q.2.1) K
  have st := stp_1 T I.1
  have hf := I.2.1.1
  have eb := gt_no T I.1 h93
  have ec : tsC M L q = gtR M L (skb M L q.1, q.2) := by
    unfold tsC
    rw [dn_id h16, if_pos hf, got_no T.1 I.2.2.1 (by rw [eb]; exact fun z => Bool.noConfusion z), eb]
  have es : gtR M L (skb M L q.1, q.2) = (false, (skb M L q.1, q.2.1, 1, nI (skb M L q.1), q.2.2.2.2)) := by
    have ef : flS9 (skb M L q.1, q.2) 1 (nI (skb M L q.1)) = (skb M L q.1, q.2.1, 1, nI (skb M L q.1), q.2.2.2.2) := fl_0 hf
    rw [← ef]
    obtain ⟨aT, eN, bD, bP, cD, wT, oP, bS, cS, wS⟩ := q
    have hv' : hsV ((skb M L aT), eN, bD, bP, cD, wT, oP, bS, cS, wS) = true := hv
    exact (if_pos (by rw [e12]; rfl)).trans ((if_pos (by rw [e13]; rfl)).trans (if_neg (by rw [hv']; decide)))
  unfold gotK
  rw [ec, es]
  exact st
theorem fct_b {M : mM} {tx : Nat → Nat} {L o : Nat} {Z : rZ} {q : pS} {r0 : rZ → Bool × rZ} (T : txM M tx L) (R : rV M) (I : prI M tx L Z q o) (D : cdI tx L Z q []) (HO : o < 6 → orH M tx L (o + 1) r0) (h : rtok Z = nI 91) : resT9 M tx L Z q o (fun _ => false) (fun _ => True) (tsF M L 700 q) (rbd (rent Z 91 (nI o)) (fun Y => rbd (r0 Y) (fun Y2 => rpas Y2 93))) := by
  obtain ⟨h1, h2⟩ := ts_91 T I h
  have h' : rtok Z = 91 := h
  by_cases ho : o < 6
  · rw [rent_ok h' ho, rbd_ok rfl, h1 ho]
    obtain ⟨I2, D2, S2⟩ := psh_pr (v := 25) T I D (by decide) sg_ok.2.2.2.2.2.2.2.2.2.2.2.1 h ho
    have k1 := jn_cnt T I.1 I2.1
    have e5 : (pshQ (skb M L q.1) 25 q).2.2.2.2.1 = q.2.2.2.2.1 := rfl
    generalize pshQ (skb M L q.1) 25 q = q2 at I2 D2 S2 k1 e5 ⊢
    have top := psh_top S2
    obtain ⟨f3, h3⟩ := HO ho (rnxt Z) q2 I2 D2 (Or.inr (by rw [top]; decide)) (Or.inr (by rw [top]; decide))
    show resT9 _ _ _ _ _ _ _ _ _ (rbd (r0 (rnxt Z)) _)
    rcases h3 with ⟨ok, q3, ps3, g3, I3, D3, S3, p3, ⟨b3, b4⟩, n0, n1, -⟩ | ⟨no, st⟩
    · rw [rbd_ok ok, g3]
      have K : mbI q3 q2 ps3 q.2.2.2.2.2.1 := ⟨S3, S2.1, S2.2.2.2 0 (Nat.lt_succ_self 0), p3⟩
      have h16 : no16 q3 := no16_t S3 p3 (by decide) (Or.inr (by rw [top]; decide))
      by_cases y : rtok (r0 (rnxt Z)).2 = nI 93
      · have y' : rtok (r0 (rnxt Z)).2 = 93 := y
        rw [rpas_ok y']
        have e4 := got_br T I3 K h16 y
        obtain ⟨⟨I4, D4⟩, w4, c4, k4⟩ := br_b T I3 D3 K y
        refine ⟨frZ_t frZ_n (frZ_t f3 frZ_n), Or.inl ⟨rfl, _, [], e4, I4, D4, ⟨w4, S3.2.1.trans S2.2.1, fun i hi => (S3.2.2.1 i (by rw [S2.1]; omega)).trans (S2.2.2.1 i hi), fun j hj => absurd hj (Nat.not_lt_zero j)⟩, fun j hj => absurd hj (Nat.not_lt_zero j), ⟨?_, ?_⟩, trivial⟩⟩
        · show (brQ (skb M L q3.1) q3).2.2.2.2.1 + 0 + cnt tx L q.1 ≤ q.2.2.2.2.1 + cnt tx L (brQ (skb M L q3.1) q3).1
          rw [c4, k4]
          omega
        · show cnt tx L q.1 ≤ cnt tx L (brQ (skb M L q3.1) q3).1
          omega
      · have y' : ¬ rtok (r0 (rnxt Z)).2 = 93 := y
        rw [rpas_no y']
        exact ⟨frZ_t frZ_n (frZ_t f3 frZ_r), Or.inr ⟨rfl, bad_b T R I3 K h16 y n0 n1⟩⟩
    · rw [rbd_no no]
      exact ⟨frZ_t frZ_n f3, Or.inr ⟨rfl, st⟩⟩
  · have h6 : o = 6 := by
      have := I.2.2.2.2
      omega
    have st := h2 h6
    subst h6
    rw [rent_6 h', rbd_no rfl]
    exact ⟨frZ_r, Or.inr ⟨rfl, st⟩⟩
