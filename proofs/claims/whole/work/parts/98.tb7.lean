/-! ===== the parsers agree: a part ===== -/
def cdW (k : Nat) : Int32 := [7, 8, 9, 10, 18, 19, 30].getD k 0
theorem cdW_R : ∀ k, k ≤ 6 → cdR (cdW k) (nI k + (0 : Int32) <<< (7 &&& 31)) := by
  intro k hk
  rw [show (0 : Int32) <<< (7 &&& 31) = 0 from by decide, Int32.add_zero]
  match k, hk with
  | 0, _ => exact cdR_7
  | 1, _ => exact cdR_8
  | 2, _ => exact cdR_9
  | 3, _ => exact cdR_10
  | 4, _ => exact cdR_18
  | 5, _ => exact cdR_19
  | 6, _ => exact cdR_30
theorem opE_w {M : mM} {tx : Nat → Nat} {L k : Nat} {Z : rZ} {q : pS} (T : txM M tx L) (R : rV M) (C : cur9 M tx L Z q) (h0 : q.2.2.1 = 0) (hs : skb M L q.1 = q.1) (hk : k ≤ 6) (h : rtok Z = nI k) : opE M L q = cdS (wkQ M L k q) (cdW k) := by
  rw [opE_at T R C h0 hs, h]
  match k, hk with
  | 0, _ => exact if_pos rfl
  | 1, _ => exact (if_neg (show ¬ nI 1 = nI 0 by decide)).trans (if_pos rfl)
  | 2, _ => exact (if_neg (show ¬ nI 2 = nI 0 by decide)).trans ((if_neg (show ¬ nI 2 = nI 1 by decide)).trans (if_pos rfl))
  | 3, _ => exact (if_neg (show ¬ nI 3 = nI 0 by decide)).trans ((if_neg (show ¬ nI 3 = nI 1 by decide)).trans ((if_neg (show ¬ nI 3 = nI 2 by decide)).trans (if_pos rfl)))
  | 4, _ => exact (if_neg (show ¬ nI 4 = nI 0 by decide)).trans ((if_neg (show ¬ nI 4 = nI 1 by decide)).trans ((if_neg (show ¬ nI 4 = nI 2 by decide)).trans ((if_neg (show ¬ nI 4 = nI 3 by decide)).trans (if_pos rfl))))
  | 5, _ => exact (if_neg (show ¬ nI 5 = nI 0 by decide)).trans ((if_neg (show ¬ nI 5 = nI 1 by decide)).trans ((if_neg (show ¬ nI 5 = nI 2 by decide)).trans ((if_neg (show ¬ nI 5 = nI 3 by decide)).trans ((if_neg (show ¬ nI 5 = nI 4 by decide)).trans (if_pos rfl)))))
  | 6, _ => exact (if_neg (show ¬ nI 6 = nI 0 by decide)).trans ((if_neg (show ¬ nI 6 = nI 1 by decide)).trans ((if_neg (show ¬ nI 6 = nI 2 by decide)).trans ((if_neg (show ¬ nI 6 = nI 3 by decide)).trans ((if_neg (show ¬ nI 6 = nI 4 by decide)).trans ((if_neg (show ¬ nI 6 = nI 5 by decide)).trans (if_pos rfl))))))
theorem opE_n {M : mM} {tx : Nat → Nat} {L t : Nat} {Z : rZ} {q : pS} (T : txM M tx L) (R : rV M) (C : cur9 M tx L Z q) (h0 : q.2.2.1 = 0) (hs : skb M L q.1 = q.1) (ht : 6 < t) (ht2 : t < 256) (h : rtok Z = nI t) : opE M L q = npS M L q := by
  rw [opE_at T R C h0 hs, h, if_neg (nI_ne (by omega) (by decide) (by omega)), if_neg (nI_ne (by omega) (by decide) (by omega)), if_neg (nI_ne (by omega) (by decide) (by omega)), if_neg (nI_ne (by omega) (by decide) (by omega)), if_neg (nI_ne (by omega) (by decide) (by omega)), if_neg (nI_ne (by omega) (by decide) (by omega)), if_neg (nI_ne (by omega) (by decide) (by omega))]
/-- an operand written on both sides is a good part -/
theorem opd_g {M : mM} {tx : Nat → Nat} {L o : Nat} {Z : rZ} {q q2 : pS} {y t n : Int32} (T : txM M tx L) (I : prI M tx L Z q o) (D : cdI tx L Z q []) (C2 : cur9 M tx L (rnxt Z) q2) (e : q2.2.2 = q.2.2) (hc : cdR y (t + n <<< (7 &&& 31))) (hR : sumF M L 700 q = goK9 M L (cdS q2 y)) : frZ Z (remi (rnxt Z) t n) ∧ goodP M tx L Z q o (fun _ => false) (fun _ => True) (sumF M L 700 q) (remi (rnxt Z) t n) := by
  obtain ⟨I2, D2, k1, k2⟩ := adv_pr T I D C2 e
  have c2 : q.2.2.2.2.1 + 0 ≤ cnt tx L q.1 := D.2.1
  have e5 : q2.2.2.2.2.1 = q.2.2.2.2.1 := by rw [e]
  obtain ⟨I3, D3⟩ := cw_at T I2 D2 k2 (by omega) hc
  refine ⟨frZ_t frZ_n frZ_e, cdS q2 y, [], hR, I3, D3, ⟨?_, ?_, fun i hi => ?_, fun j hj => absurd hj (Nat.not_lt_zero j)⟩, fun j hj => absurd hj (Nat.not_lt_zero j), ⟨?_, ?_⟩, trivial⟩
  · show q2.2.2.2.2.2.1 = _
    rw [e]
    rfl
  · show bsQ q2 = _
    rw [show bsQ q2 = q2.2.2.2.2.2.2.2.1 from rfl, e]
  · show q2.2.2.2.2.2.2.2.2.2 i = _
    rw [e]
  · show q2.2.2.2.2.1 + 1 + 0 + cnt tx L q.1 ≤ q.2.2.2.2.1 + cnt tx L q2.1
    omega
  · show cnt tx L q.1 ≤ cnt tx L q2.1
    omega
theorem sum_one {M : mM} {tx : Nat → Nat} {L o : Nat} {Z : rZ} {q : pS} (T : txM M tx L) (R : rV M) (I : prI M tx L Z q o) (h40 : ¬ rtok Z = nI 40) (h7 : ¬ rtok Z = nI 7) (h8 : ¬ rtok Z = nI 8) : oneS M L q = opE M L (skb M L q.1, q.2) := by
  have e := opB_no T R I.1 I.2.1.1 h40 h7 h8
  rw [one_no T.1 I.2.2.1 I.2.1.1 (by rw [e]; exact fun z => Bool.noConfusion z), e]
theorem par_w {M : mM} {tx : Nat → Nat} {L o k : Nat} {Z : rZ} {q : pS} (T : txM M tx L) (R : rV M) (I : prI M tx L Z q o) (D : cdI tx L Z q []) (hk : k ≤ 6) (h : rtok Z = nI k) : frZ Z (remi (rnxt Z) (nI k) 0) ∧ goodP M tx L Z q o (fun _ => false) (fun _ => True) (sumF M L 700 q) (remi (rnxt Z) (nI k) 0) := by
  have C9 : cur9 M tx L Z (skb M L q.1, q.2) := cur_sk T I.1 rfl rfl
  have C2 := wk_cur T R C9 I.2.1.1 (show k < 23 by omega) h
  refine opd_g T I D C2 rfl (cdW_R k hk) ?_
  have e1 := sum_one T R I (by rw [h]; exact nI_ne (by omega) (by decide) (by omega)) (by rw [h]; exact nI_ne (by omega) (by decide) (by omega)) (by rw [h]; exact nI_ne (by omega) (by decide) (by omega))
  rw [sumF_q T.1 I.2.2.1 I.2.1.1, e1, opE_w T R C9 I.2.1.1 (skb_id T I.1.2.2.1) hk h]
  exact if_pos I.2.1.1
theorem rref_at {Z : rZ} {k p : Int32} : rref Z k p 0 1 = k ∧ rref Z k p 0 2 = p := by
  unfold rref
  exact ⟨(up2_k _ _ (show 1 ≠ 2 by decide)).trans (up2_s _ _ _ _), up2_s _ _ _ _⟩
theorem par_n {M : mM} {tx : Nat → Nat} {L o t : Nat} {Z : rZ} {q : pS} (T : txM M tx L) (R : rV M) (I : prI M tx L Z q o) (D : cdI tx L Z q []) (ht : 8 < t) (ht2 : t < 256) (h40 : t ≠ 40) (h : rtok Z = nI t) : resP M tx L Z q o (fun _ => false) (fun _ => True) (sumF M L 700 q) (rnum Z 23 (nI 99999)) := by
  have C9 : cur9 M tx L Z (skb M L q.1, q.2) := cur_sk T I.1 rfl rfl
  have h0 := I.2.1.1
  have e1 := sum_one T R I (by rw [h]; exact nI_ne (by omega) (by decide) (by omega)) (by rw [h]; exact nI_ne (by omega) (by decide) (by omega)) (by rw [h]; exact nI_ne (by omega) (by decide) (by omega))
  rw [opE_n T R C9 h0 (skb_id T I.1.2.2.1) (by omega) ht2 h] at e1
  have es := sumF_q (M := M) T.1 I.2.2.1 h0
  rw [e1] at es
  rcases tok_n (m := 99999) T C9 h0 (by decide) with ⟨v, e, v1, v2, n1, n2, n3, n4⟩ | ⟨x, y, k, p, val, k0, n1, n2⟩
  · have en : npS M L (skb M L q.1, q.2) = cdS (e, nI e, q.2.2) (1000 + nI v) := by
      unfold npS
      rw [show (99999 : Int32) = nI 99999 from rfl, n1]
      exact if_pos h0
    rw [en] at es
    have es2 : sumF M L 700 q = goK9 M L (cdS (e, nI e, q.2.2) (1000 + nI v)) := es.trans (if_pos h0)
    have hc : cdR ((1000 : Int32) + nI v) ((23 : Int32) + nI v <<< ((7 : Int32) &&& 31)) := Or.inl ⟨v, v1, by rw [show (1000 : Int32) = nI 1000 from rfl, nI_add], by rw [shl_nI, show (23 : Int32) = nI 23 from rfl, nI_add]⟩
    obtain ⟨f, g⟩ := opd_g (q2 := (e, nI e, q.2.2)) T I D (n4 _ rfl rfl) rfl hc es2
    rw [n3 23]
    exact ⟨f, Or.inl ⟨rfl, g⟩⟩
  · have en : npS M L (skb M L q.1, q.2) = (x, y, k, p, q.2.2.2.2) := by
      unfold npS
      rw [show (99999 : Int32) = nI 99999 from rfl, n1]
      exact if_neg k0
    rw [en] at es
    have es2 : sumF M L 700 q = (x, y, k, p, q.2.2.2.2) := es.trans (if_neg k0)
    rw [n2 23, es2]
    exact ⟨frZ_r, Or.inr ⟨rfl, k0, (rref_at (Z := Z) (k := k) (p := p)).1, (rref_at (Z := Z) (k := k) (p := p)).2⟩⟩
