/-! ===== terms: frames for the new object and for the acts told before ===== -/
def obF (h : hp_T) (b j c : Nat) (Y : rZ) : Prop := hp_tag h b = 10 ∧ (hp_i h b 0 = nI j ∧ hp_i h b 4 = (tmL (cpyF (Y 2) 24 j) j).1 ∧ hp_i h b 5 = (tmL (cpyF (Y 2) 24 j) j).2.1 ∧ hp_i h b 6 = (tmL (cpyF (Y 2) 24 j) j).2.2) ∧ (hp_r h b 1 = some (b + 1) ∧ hp_r h b 2 = some (b + 2) ∧ hp_r h b 3 = some (b + 3)) ∧ (hp_tag h (b + 1) = 14 ∧ hp_len h (b + 1) = c ∧ hp_i h (b + 1) = cpyF (Y 1) 600 c) ∧ (hp_tag h (b + 2) = 14 ∧ hp_len h (b + 2) = j ∧ hp_i h (b + 2) = cpyF (Y 2) 24 j) ∧ (hp_tag h (b + 3) = 14 ∧ hp_len h (b + 3) = j + 1 ∧ hp_i h (b + 3) = va_up (cpyF (Y 3) 24 (j + 1)) j (nI c))
theorem obF_fr {h h1 : hp_T} {b j c : Nat} {Y : rZ} (e : ∀ x, b ≤ x → hp_i h1 x = hp_i h x ∧ hp_r h1 x = hp_r h x) (eT : hp_tag h1 = hp_tag h) (eL : hp_len h1 = hp_len h) (F : obF h b j c Y) : obF h1 b j c Y := by
  unfold obF
  rw [eT, eL, (e b (Nat.le_refl _)).1, (e b (Nat.le_refl _)).2, (e (b + 1) (by omega)).1, (e (b + 2) (by omega)).1, (e (b + 3) (by omega)).1]
  exact F
theorem obF_ok {h : hp_T} {M : mM} {b j c : Nat} {Y : rZ} {cs : Nat → Int32} (F : obF h b j c Y) (h3 : 333 ≤ b) (hj : j ≤ 24) (hc : c ≤ 600) (K : ∀ i, i < j → kpI M Y c j i) (hD : ∀ k, k < c → cdR (cs k) (Y 1 k)) : tOK h b ∧ tcd h b = cpyF (Y 1) 600 c ∧ tkd h b = cpyF (Y 2) 24 j ∧ tfr h b = va_up (cpyF (Y 3) 24 (j + 1)) j (nI c) := by
  obtain ⟨f1, ⟨f2, f3, f4, f5⟩, ⟨f6, f7, f8⟩, f9, f10, f11⟩ := F
  have e1 : tcd h b = cpyF (Y 1) 600 c := by
    unfold tcd
    rw [f6]
    exact f9.2.2
  have e2 : tkd h b = cpyF (Y 2) 24 j := by
    unfold tkd
    rw [f7]
    exact f10.2.2
  have e3 : tfr h b = va_up (cpyF (Y 3) 24 (j + 1)) j (nI c) := by
    unfold tfr
    rw [f8]
    exact f11.2.2
  have e0 : tn h b = j := by
    unfold tn
    rw [f2, nI_clamp (by omega)]
  have hL := tmL_in (kd := cpyF (Y 2) 24 j) j
  refine ⟨⟨c, ?_⟩, e1, e2, e3⟩
  rw [e0, e1, e2, e3]
  refine ⟨f1, f2, hj, hc, h3, b + 1, b + 2, b + 3, ⟨by omega, by omega, by omega⟩, ⟨f6, f7, f8⟩, f9, f10, f11, fun i hi => ob_fr hj hi (K i hi), fun i hi => ?_, ?_, ?_⟩
  · rw [cpyF_in (show i < 600 by omega) hi]
    exact cd_nn (hD i hi)
  · rw [f3]; exact hL.1
  · rw [f4]; exact hL.2
/-- an object of older terms, in a heap that is alike in its four cells -/
theorem ob_same {h h1 : hp_T} {b : Nat} (e : ∀ x, b ≤ x → x ≤ b + 3 → hp_i h1 x = hp_i h x ∧ hp_r h1 x = hp_r h x ∧ hp_tag h1 x = hp_tag h x ∧ hp_len h1 x = hp_len h x) (nb : hp_r h b 1 = some (b + 1) ∧ hp_r h b 2 = some (b + 2) ∧ hp_r h b 3 = some (b + 3)) (T : tOK h b) : tcd h1 b = tcd h b ∧ tkd h1 b = tkd h b ∧ tfr h1 b = tfr h b ∧ tOK h1 b := by
  obtain ⟨n1, n2, n3⟩ := nb
  obtain ⟨m1, m2, m3, m4⟩ := e b (Nat.le_refl _) (by omega)
  obtain ⟨a1, a2, a3, a4⟩ := e (b + 1) (by omega) (by omega)
  obtain ⟨k1, k2, k3, k4⟩ := e (b + 2) (by omega) (by omega)
  obtain ⟨f1, f2, f3, f4⟩ := e (b + 3) (by omega) (by omega)
  have e1 : tcd h1 b = tcd h b := by
    unfold tcd
    rw [m2, n1]
    exact a1
  have e2 : tkd h1 b = tkd h b := by
    unfold tkd
    rw [m2, n2]
    exact k1
  have e3 : tfr h1 b = tfr h b := by
    unfold tfr
    rw [m2, n3]
    exact f1
  have e0 : tn h1 b = tn h b := by
    unfold tn
    rw [m1]
  refine ⟨e1, e2, e3, ?_⟩
  obtain ⟨L, hTb, hn0, hn24, hL6, hb3, ca, ka, fa, hge, hr, hca, hka, hfa, hq⟩ := T
  have q1 : ca = b + 1 := Option.some.inj (hr.1.symm.trans n1)
  have q2 : ka = b + 2 := Option.some.inj (hr.2.1.symm.trans n2)
  have q3 : fa = b + 3 := Option.some.inj (hr.2.2.symm.trans n3)
  subst q1 q2 q3
  refine ⟨L, ?_⟩
  unfold trm
  rw [e0, e1, e2, e3, m1, m2, m3]
  refine ⟨hTb, hn0, hn24, hL6, hb3, b + 1, b + 2, b + 3, hge, hr, ?_, ?_, ?_, hq⟩
  · rw [a1, a3, a4]; exact hca
  · rw [k1, k3, k4]; exact hka
  · rw [f1, f3, f4]; exact hfa
theorem tyS_cg (cd cd2 : Nat → Int32) (x : Nat) (m : Nat) (h : ∀ j, j < m → cd (x + j) = cd2 (x + j)) : tyS cd x m = tyS cd2 x m := by
  induction m with
  | zero =>
    have e : ∀ f : Nat → Int32, tyS f x 0 = (0, fun _ => false) := fun _ => rfl
    exact (e cd).trans (e cd2).symm
  | succ m ih =>
    have ih2 := ih (fun j hj => h j (Nat.lt_succ_of_lt hj))
    have e1 : tyS cd x (m + 1) = tyB (tyS cd x m) (cd (x + m)) := rfl
    have e2 : tyS cd2 x (m + 1) = tyB (tyS cd2 x m) (cd2 (x + m)) := rfl
    rw [e1, e2, ih2, h m (Nat.lt_succ_self m)]
theorem stmR_up {M M1 : mM} {a q : Nat} {cd kd fr : Nat → Int32} (e : ∀ r, 26 ≤ r ∧ r ≤ 28 → M1 r (24 * a + q) = M r (24 * a + q)) (e2 : ∀ i, i < 640 → M1 29 (640 * a + i) = M 29 (640 * a + i)) (R : stmR M a q cd kd fr) : stmR M1 a q cd kd fr := by
  rcases R with ⟨e0, he, k1, k2, k3⟩ | ⟨t, x, x', m, ht, k1, k2, k3, ⟨k4, k5, k6⟩, k7, k8, k9, k10⟩
  · exact Or.inl ⟨e0, he, (e 26 (by decide)).trans k1, (e 28 (by decide)).trans k2, k3⟩
  · have hc : ∀ j, j < m → (fun j => M1 29 (640 * a + j)) (x' + j) = (fun j => M 29 (640 * a + j)) (x' + j) := fun j hj => e2 (x' + j) (by omega)
    refine Or.inr ⟨t, x, x', m, ht, (e 26 (by decide)).trans k1, k2, k3, ⟨(e 27 (by decide)).trans k4, (e 28 (by decide)).trans k5, k6⟩, fun j hj => ?_, fun j hj => ?_, ?_, ?_⟩
    · rw [e2 (x' + j) (by omega)]
      exact k7 j hj
    · rw [tyS_cg (fun j => M1 29 (640 * a + j)) (fun j => M 29 (640 * a + j)) x' j (fun i hi => hc i (Nat.lt_trans hi hj)), hc j hj]
      exact k8 j hj
    · rw [tyS_cg (fun j => M1 29 (640 * a + j)) (fun j => M 29 (640 * a + j)) x' m hc]
      exact k9
    · rw [tyS_cg (fun j => M1 29 (640 * a + j)) (fun j => M 29 (640 * a + j)) x' m hc]
      exact k10
/-- acts told before: their terms stay -/
theorem rT_old {h h1 : hp_T} {M M1 : mM} {n : Nat} (eh : ∀ x, 333 ≤ x → x < hp_n h → hp_i h1 x = hp_i h x ∧ hp_r h1 x = hp_r h x ∧ hp_tag h1 x = hp_tag h x ∧ hp_len h1 x = hp_len h x) (hn : hp_n h ≤ hp_n h1) (er : ∀ a, a ≤ n → hp_r h1 162 a = hp_r h 162 a) (e47 : ∀ a, a ≤ n → M1 47 a = M 47 a) (e25 : ∀ a, 1 ≤ a → a ≤ n → M1 25 a = M 25 a) (e : ∀ r, 26 ≤ r ∧ r ≤ 28 → ∀ i, 24 ≤ i → i < 24 * (n + 1) → M1 r i = M r i) (e29 : ∀ i, 640 ≤ i → i < 640 * (n + 1) → M1 29 i = M 29 i) (B : rT h M n) : rT h1 M1 n := by
  intro a h2 h3 h4
  rw [e47 a h3] at h4
  obtain ⟨b, k, b1, b2, b3, b4, b5, ⟨b6, b6', b6''⟩, b7, b8, b9, c1, c2⟩ := B a h2 h3 h4
  have eb : ∀ x, b ≤ x → x ≤ b + 3 → hp_i h1 x = hp_i h x ∧ hp_r h1 x = hp_r h x ∧ hp_tag h1 x = hp_tag h x ∧ hp_len h1 x = hp_len h x := fun x hx hx2 => eh x (by omega) (by omega)
  obtain ⟨p1, p2, p3, p4⟩ := ob_same eb c2 b4
  obtain ⟨s1, s2, s3, s4⟩ := eb b (Nat.le_refl _) (by omega)
  refine ⟨b, k, b1, by rw [er a h3]; exact b2, s3.trans b3, p4, by rw [s1]; exact b5, ⟨b6, (e25 a h2 h3).trans b6', fun q hq => ?_⟩, ?_, ?_, ?_, by omega, by rw [s2]; exact c2⟩
  · rw [p1, p2, p3]
    exact stmR_up (fun r hr => e r hr _ (by omega) (by omega)) (fun i hi => e29 _ (by omega) (by omega)) (b6'' q hq)
  · rw [s1, p2]; exact b7
  · rw [s1, p2]; exact b8
  · rw [s1, p2]; exact b9
theorem Pc_T {H H1 : hp_T} {M M1 : mM} {w g m n n1 p L L1 : Nat} (r6 : rA (hp_i H1) M1 w g n1) (r7 : rT H1 M1 n1) (r8 : rRV (hp_i H1) M1 L1) (e : ∀ x, ¬ (150 ≤ x ∧ x < 165) → x < 247 → hp_i H1 x = hp_i H x) (e2 : ∀ r, r ≠ 0 → ¬ (25 ≤ r ∧ r ≤ 30) → ¬ (47 ≤ r ∧ r ≤ 51) → M1 r = M r) (e20 : ∀ k, k = 42 ∨ k = 43 ∨ k = 54 ∨ k = 60 ∨ k = 90 ∨ k = 91 ∨ k = 92 ∨ k = 103 ∨ k = 112 → M1 0 k = M 0 k) (R : Pc H M w g m n p L) : Pc H1 M1 w g m n1 p L1 := by
  obtain ⟨⟨r1, r2, r3⟩, ⟨r4, r5⟩, -, -, r9⟩ := R
  exact ⟨⟨rC_fr (fun x hx => e x (by omega) (by omega)) (fun x hx => e2 x (by omega) (by omega) (by omega)) ⟨e20 42 (by decide), e20 43 (by decide)⟩ r1, bC_fr (fun x hx => e2 x (by omega) (by omega) (by omega)) r2, rW_fr ⟨e 131 (by decide) (by decide), e 132 (by decide) (by decide), e 133 (by decide) (by decide)⟩ ⟨e2 37 (by decide) (by decide) (by decide), e2 38 (by decide) (by decide) (by decide), e2 39 (by decide) (by decide) (by decide)⟩ r3⟩, ⟨rE_fr ⟨by rw [e 145 (by decide) (by decide)], e20 54 (by decide)⟩ (fun x hx => e x (by omega) (by omega)) (fun x hx => e2 x (by omega) (by omega) (by omega)) r4, rP_fr ⟨by rw [e 243 (by decide) (by decide)], by rw [e 243 (by decide) (by decide)], e20 60 (by decide), e20 112 (by decide)⟩ ⟨e 244 (by decide) (by decide), e 245 (by decide) (by decide)⟩ ⟨e2 46 (by decide) (by decide) (by decide), e2 85 (by decide) (by decide) (by decide)⟩ r5⟩, ⟨r6, r7⟩, r8, rL_fr (fun x hx => e x (by omega) (by omega)) (fun k hk => e20 k (by omega)) (fun r hr => e2 r (by omega) (by omega) (by omega)) r9⟩
