/-! ===== class against reference: the policies of a house ask ===== -/
/-- the act j + 1 asks, if it is a policy on the cell -/
def shT (h : hp_T) (c : Nat) (loss : Int32) (z : mM × kS) (j : Nat) : mM × kS :=
  if hp_i h 160 (j + 1) = nI c then (up2 (up2 (up2 z.1 2 (j + 1) (askS h (takS z.2 (hp_i h 161 (j + 1)) (z.2.1 4 c - 1) loss) (z.2.2 (hp_i h 159 (j + 1)).toNatClampNeg)).1) 5 (z.1 0 9).toNatClampNeg (nI (j + 1))) 0 9 (z.1 0 9 + 1), kR (takS z.2 (hp_i h 161 (j + 1)) (z.2.1 4 c - 1) loss) (askS h (takS z.2 (hp_i h 161 (j + 1)) (z.2.1 4 c - 1) loss) (z.2.2 (hp_i h 159 (j + 1)).toNatClampNeg)).2) else z
/-- the policies known, as places of acts -/
def pL (S : kS) (i : Nat) : Nat := (S.1 2 i).toNatClampNeg - 1
theorem pn_cnt {h : hp_T} {M : mM} {w g n s : Nat} (R : rC (hp_i h) M w g) (A : rA (hp_i h) M w g n) (hs : s ≤ n) : pn h s = fa_cnt (pcB M s) s ∧ (∀ k, k < s → pcB M s k = true → pL (kn h s) (fa_cnt (pcB M s) k) = k) ∧ (∀ i, i < pn h s → (kn h s).1 2 i = nI (pL (kn h s) i + 1)) := by
  have hn := A.1.2.2
  have hcy := cty_n R.1
  have hk := gk_P (R := hp_r h 162) A hs hcy.2 (kS0 h) s (Nat.le_refl _)
  have hle := fa_cnt_le (pcB M s) s
  have e0 : pn h s = fa_cnt (pcB M s) s := by
    unfold pn
    refine (congrArg Int32.toNatClampNeg hk.2.2.1).trans (nI_clamp (by omega))
  have e1 : ∀ k, k < s → pcB M s k = true → (kn h s).1 2 (fa_cnt (pcB M s) k) = nI (k + 1) := hk.2.2.2
  have e2 : ∀ k, k < s → pcB M s k = true → pL (kn h s) (fa_cnt (pcB M s) k) = k := fun k hk hp => by
    unfold pL
    rw [e1 k hk hp, nI_clamp (by omega)]
    omega
  refine ⟨e0, e2, fun i hi => ?_⟩
  obtain ⟨b1, b2, b3⟩ := flt_at (L := pL (kn h s)) s e2 i (by omega)
  have := e1 _ b1 b2
  rw [b3] at this
  exact this
theorem shB_T {h : hp_T} {c : Nat} {loss : Int32} {z : mM × kS} {i j : Nat} (hj : j < 1000) (e : z.2.1 2 i = nI (j + 1)) : shB h c loss z i = shT h c loss z j := by
  unfold shB shT
  rw [e, nI_clamp (show j + 1 < 2147483648 by omega)]
theorem shT_r {h : hp_T} {c : Nat} {loss : Int32} (z : mM × kS) (j : Nat) {r : Nat} (h7 : r ≠ 7) (h8 : r ≠ 8) : (shT h c loss z j).2.1 r = z.2.1 r := by
  unfold shT
  split
  · exact (kR_row _ _ h8).trans (takS_row _ _ _ _ h7)
  · rfl
theorem sh_loop {h : hp_T} {M : mM} {w g n s c : Nat} {loss : Int32} (h1 : hp_T) (R : rC (hp_i h) M w g) (A : rA (hp_i h) M w g n) (hs : s ≤ n) {x : mM × kS} (ex : x.2.1 2 = (kn h s).1 2) : itN (shB h1 c loss) x (pn h s) = itN (fun z k => if pcB M s k = true then shT h1 c loss z k else z) x s := by
  have hn := A.1.2.2
  obtain ⟨p0, p1, p2⟩ := pn_cnt R A hs
  have hle := fa_cnt_le (pcB M s) s
  have e := it_inv (f := shB h1 c loss) (f1 := fun z i => shT h1 c loss z (pL (kn h s) i)) (P := fun z : mM × kS => z.2.1 2 = (kn h s).1 2) ex (pn h s) (fun i hi z pz => by
    obtain ⟨b1, -, -⟩ := flt_at (L := pL (kn h s)) s p1 i (by omega)
    refine ⟨shB_T (by omega) (by rw [pz]; exact p2 i hi), ?_⟩
    exact (shT_r z _ (by decide) (by decide)).trans pz)
  rw [e.1, p0]
  exact it_flt (fun z k => shT h1 c loss z k) x s p1
/-- what is asked for the claims of the cell: the class's places against the reference's -/
def shI (X : mM) (M M1 : mM) (s c : Nat) (k : Nat) (y : mM × kS) (S Y : kS) : Prop := y.1 0 9 = nI (fa_cnt (mpB M s (nI c)) k) ∧ (∀ j, j < k → mpB M s (nI c) j = true → y.1 5 (fa_cnt (mpB M s (nI c)) j) = nI (j + 1)) ∧ (∀ a, y.1 2 a = if 1 ≤ a ∧ a ≤ k ∧ mpB M s (nI c) (a - 1) = true then M1 63 a else X 2 a) ∧ (∀ r, r ≠ 0 → r ≠ 2 → r ≠ 5 → y.1 r = X r) ∧ gkJ y.2 S Y
theorem sh_at {h h1 : hp_T} {M M1 X : mM} {w g n s c : Nat} {loss : Int32} {S0 : kS} (R : rC (hp_i h) M w g) (Bd : bC M) (A : rA (hp_i h) M w g n) (hs : s ≤ n) (B : rT h M n) (hF : ∀ x, x < 165 → hp_i h1 x = hp_i h x) (hS : samT h h1) (hM1 : ∀ a, knA M n s a → ∃ V W1, agr V M ∧ M1 63 a = (masS n s w g a V W1).1) (hc : c < w * g) (hl : loss = mloV M c) (hlb : vbd loss) (J : kJ S0 (kn h s)) : ∀ k, k ≤ s → shI X M M1 s c k (itN (fun z k => if pcB M s k = true then shT h1 c loss z k else z) (up2 X 0 9 0, goK h1 w g S0 c) k) (kn h s) (goK h w g (kn h s) c) := by
  have hn := A.1.2.2
  have hcy := cty_n R.1
  have hgo : gkJ (goK h1 w g S0 c) (kn h s) (goK h w g (kn h s) c) := by
    obtain ⟨k1, k2, k3, k4⟩ := J
    have eF : (hp_i h1 2 = hp_i h 2 ∧ hp_i h1 3 = hp_i h 3) ∧ hp_i h1 4 = hp_i h 4 ∧ hp_i h1 5 = hp_i h 5 := ⟨⟨hF 2 (by decide), hF 3 (by decide)⟩, hF 4 (by decide), hF 5 (by decide)⟩
    refine ⟨⟨fun r hr => ?_, k2, fun i hi => ?_, fun i hi => ?_⟩, fun i i3 i4 i5 => ?_, ?_⟩
    · unfold goK goS
      dsimp only
      rw [up2_row (show r ≠ 6 by omega), up2_row (show r ≠ 7 by omega), up2_row (show r ≠ 7 by omega), up2_row (show r ≠ 7 by omega), up2_row (show r ≠ 7 by omega)]
      exact k1 r hr
    · unfold goK goS
      dsimp only
      rw [up2_k _ _ hi, up2_row (show 6 ≠ 7 by decide), up2_row (show 6 ≠ 7 by decide), up2_row (show 6 ≠ 7 by decide), up2_row (show 6 ≠ 7 by decide)]
      exact k3 i hi
    · unfold goK goS
      dsimp only
      rw [up2_row (show 7 ≠ 6 by decide), up2_k _ _ (show i ≠ 6 by omega), up2_k _ _ (show i ≠ 2 by omega), up2_k _ _ (show i ≠ 1 by omega), up2_k _ _ (show i ≠ 0 by omega)]
      exact k4 i hi
    · unfold goK goS
      dsimp only
      rw [eF.1.1, eF.1.2, eF.2.1, eF.2.2]
      rcases Nat.lt_or_ge i 7 with q | q
      · rcases (show i = 0 ∨ i = 1 ∨ i = 2 ∨ i = 6 by omega) with e | e | e | e
        all_goals subst e; simp [up2]
      · have e7 := k4 i q
        simp [up2, e7]
    · unfold goK goS
      dsimp only
      rw [up2_s, up2_s]
      exact congrFun (k1 3 (by decide)) c
  intro k
  induction k with
  | zero =>
    intro _
    show shI X M M1 s c 0 (up2 X 0 9 0, goK h1 w g S0 c) (kn h s) (goK h w g (kn h s) c)
    refine ⟨?_, fun j hj => absurd hj (Nat.not_lt_zero j), fun a => ?_, fun r h0 _ _ => ?_, hgo⟩
    · dsimp only
      exact up2_s _ _ _ _
    · dsimp only
      refine Eq.trans ?_ (if_neg (fun z => by have := z.1; have := z.2.1; omega)).symm
      exact congrFun (up2_row (show 2 ≠ 0 by decide)) a
    · dsimp only
      exact up2_row h0
  | succ k ih =>
    intro hk
    obtain ⟨i1, i2, i3, i4, i5⟩ := ih (by omega)
    rw [itN_s]
    generalize itN (fun z k => if pcB M s k = true then shT h1 c loss z k else z) (up2 X 0 9 0, goK h1 w g S0 c) k = y at i1 i2 i3 i4 i5 ⊢
    have hle := fa_cnt_le (mpB M s (nI c)) k
    by_cases hp : mpB M s (nI c) k = true
    · obtain ⟨hpc, h49⟩ := Bool.and_eq_true_iff.mp hp
      have hpo : poP M s (k + 1) := of_decide_eq_true hpc
      have ec : M 49 (k + 1) = nI c := of_decide_eq_true h49
      have hkn : knA M n s (k + 1) := ⟨⟨by omega, by omega⟩, hpo⟩
      have Q := A.2.2 (k + 1) (by omega) (by omega)
      obtain ⟨f1, f2, -, v, hv, evv⟩ := Q.2.2.2.2.2 hpo.1
      obtain ⟨f3, o, ho, eo⟩ := Q.2.2.2.2.1 (by rw [hpo.1]; decide)
      obtain ⟨V, W1, G, hm⟩ := hM1 (k + 1) hkn
      have hask := cls_ask (W := W1) R Bd A hs B G i5 hc ec hv evv eo (show o < 9 by omega) hl hlb
      have hsam : askS h1 (takS y.2 (nI v) (y.2.1 4 c - 1) loss) ((kn h s).2 o) = askS h (takS y.2 (nI v) (y.2.1 4 c - 1) loss) ((kn h s).2 o) := sam_ask hS _ (fun b hb => by
        rcases kn_obj A hs B (show o < 9 by omega) with ⟨e1, e2⟩ | ⟨t, b', j', e1, t1, t2, e2, b1, b2, b3, -⟩
        · rw [e2] at hb; cases hb
        · rw [e2] at hb
          rw [← Option.some.inj hb]
          exact b3)
      rw [if_pos (show pcB M s k = true from hpc)]
      unfold shT
      rw [if_pos (show hp_i h1 160 (k + 1) = nI c by rw [hF 160 (by decide), f1]; exact ec), hF 161 (by decide), hF 159 (by decide), f2, f3, evv, eo, nI_clamp (show o < 2147483648 by omega), i5.1.2.1, hsam, hask, ← hm, i1, nI_clamp (show fa_cnt (mpB M s (nI c)) k < 2147483648 by omega)]
      generalize askS h (takS y.2 (nI v) (y.2.1 4 c - 1) loss) ((kn h s).2 o) = ak
      refine ⟨?_, fun j hj hq => ?_, fun a => ?_, fun r h0 h2 h5 => ?_, ⟨⟨fun r hr => ?_, i5.1.2.1, fun i hi => ?_, fun i hi => ?_⟩, fun i j3 j4 j5 => ?_, ?_⟩⟩
      · dsimp only
        rw [up2_s, fa_cnt_yes hp]
        exact nI_1 _
      · dsimp only
        rw [up2_row (show 5 ≠ 0 by decide)]
        by_cases e : j = k
        · subst e; exact up2_s _ _ _ _
        · have hlt : fa_cnt (mpB M s (nI c)) j < fa_cnt (mpB M s (nI c)) k := by
            have := fa_cnt_mono (mpB M s (nI c)) (show j + 1 ≤ k by omega)
            rw [fa_cnt_yes hq] at this
            exact this
          rw [up2_k _ _ (show fa_cnt (mpB M s (nI c)) j ≠ fa_cnt (mpB M s (nI c)) k by omega), up2_row (show 5 ≠ 2 by decide)]
          exact i2 j (by omega) hq
      · dsimp only
        rw [up2_row (show 2 ≠ 0 by decide), up2_row (show 2 ≠ 5 by decide)]
        by_cases e : a = k + 1
        · subst e
          rw [up2_s]
          exact (if_pos ⟨by omega, Nat.le_refl _, hp⟩).symm
        · rw [up2_k _ _ e, i3 a]
          by_cases q : 1 ≤ a ∧ a ≤ k ∧ mpB M s (nI c) (a - 1) = true
          · exact (if_pos q).trans (if_pos ⟨q.1, by omega, q.2.2⟩).symm
          · exact (if_neg q).trans (if_neg (fun z => q ⟨z.1, by have := z.2.1; omega, z.2.2⟩)).symm
      · dsimp only
        rw [up2_row h0, up2_row h5, up2_row h2]
        exact i4 r h0 h2 h5
      · dsimp only
        rw [kR_row _ _ (show r ≠ 8 by omega), takS_row _ _ _ _ (show r ≠ 7 by omega)]
        exact i5.1.1 r hr
      · dsimp only
        rw [kR_row _ _ (show 6 ≠ 8 by decide), takS_row _ _ _ _ (show 6 ≠ 7 by decide)]
        exact i5.1.2.2.1 i hi
      · dsimp only
        rw [kR_row _ _ (show 7 ≠ 8 by decide)]
        unfold takS
        dsimp only
        rw [up2_k _ _ (show i ≠ 4 by omega), up2_k _ _ (show i ≠ 5 by omega), up2_k _ _ (show i ≠ 3 by omega)]
        exact i5.1.2.2.2 i hi
      · dsimp only
        rw [kR_row _ _ (show 7 ≠ 8 by decide)]
        unfold takS
        dsimp only
        rw [up2_k _ _ j4, up2_k _ _ j5, up2_k _ _ j3]
        exact i5.2.1 i j3 j4 j5
      · dsimp only
        rw [kR_row _ _ (show 6 ≠ 8 by decide), takS_row _ _ _ _ (show 6 ≠ 7 by decide)]
        exact i5.2.2
    · have hz : (if pcB M s k = true then shT h1 c loss y k else y) = y := by
        by_cases hpc : pcB M s k = true
        · rw [if_pos hpc]
          have hpo : poP M s (k + 1) := of_decide_eq_true hpc
          have Q := A.2.2 (k + 1) (by omega) (by omega)
          obtain ⟨f1, -⟩ := Q.2.2.2.2.2 hpo.1
          unfold shT
          exact if_neg (fun e => hp (Bool.and_eq_true_iff.mpr ⟨hpc, decide_eq_true (by rw [← f1, ← hF 160 (by decide)]; exact e)⟩))
        · exact if_neg hpc
      rw [hz]
      refine ⟨by rw [fa_cnt_no (Bool.eq_false_iff.mpr hp)]; exact i1, fun j hj hq => ?_, fun a => ?_, i4, i5⟩
      · by_cases e : j = k
        · subst e; exact absurd hq hp
        · exact i2 j (by omega) hq
      · rw [i3 a]
        by_cases q : 1 ≤ a ∧ a ≤ k ∧ mpB M s (nI c) (a - 1) = true
        · exact (if_pos q).trans (if_pos ⟨q.1, by omega, q.2.2⟩).symm
        · refine (if_neg q).trans (if_neg (fun z => ?_)).symm
          by_cases e : a = k + 1
          · subst e; exact hp z.2.2
          · exact q ⟨z.1, by have := z.2.1; omega, z.2.2⟩
