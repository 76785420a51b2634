/-! ===== class against reference: what is asked for each policy ===== -/
/-- a policy that is known -/
abbrev knA (M : mM) (n s a : Nat) : Prop := (1 ≤ a ∧ a ≤ n) ∧ poP M s a
/-- alike but for what a fire's claims write -/
def agr (V M : mM) : Prop := (∀ r, r ≠ 0 → r < 63 ∨ 66 < r → V r = M r) ∧ ∀ k, k < 70 → V 0 k = M 0 k
theorem poQ_a {M : mM} {n s a : Nat} (ha : a < 1000) (hn : n ≤ 200) : poQ M n s (nI a) ↔ knA M n s a := by
  unfold poQ knA
  rw [nI_clamp (by omega), fa_le, fa_le, ti_1, nI_toInt (by omega), nI_toInt (by omega)]
  refine ⟨fun z => ⟨⟨by omega, by omega⟩, z.2⟩, fun z => ⟨⟨by omega, by omega⟩, z.2⟩⟩
theorem clz_at {M : mM} {n s w g : Nat} {W : tW} (hn : n ≤ 200) : ∀ j, j ≤ 201 → ∀ a, a < j → (¬ knA M n s a → (itN (clmB n s w g) (M, W) j).1 66 a = 0 ∧ (itN (clmB n s w g) (M, W) j).1 64 a = 0 ∧ (itN (clmB n s w g) (M, W) j).1 63 a = 0) ∧ (knA M n s a → (itN (clmB n s w g) (M, W) j).1 66 a = 1 ∧ (itN (clmB n s w g) (M, W) j).1 64 a = 0 ∧ (∃ V W1, agr V M ∧ (itN (clmB n s w g) (M, W) j).1 63 a = (masS n s w g a V W1).1) ∧ ∃ V, agr V M ∧ (itN (clmB n s w g) (M, W) j).1 65 a = mmaS n s a V) := by
  intro j
  induction j with
  | zero => exact fun _ a ha => absurd ha (Nat.not_lt_zero a)
  | succ j ih =>
    intro hj a ha
    replace ih := ih (by omega) a
    have hr : ∀ r, r ≠ 0 → r < 63 ∨ 66 < r → (itN (clmB n s w g) (M, W) j).1 r = M r := fun r h0 h => clm_row h0 (by omega) (by omega) (by omega) (by omega) j
    have hr0 : ∀ k, k < 70 → (itN (clmB n s w g) (M, W) j).1 0 k = M 0 k := fun k h => clm_0 (by omega) (by omega) (by omega) (by omega) j
    rw [itN_s]
    generalize itN (clmB n s w g) (M, W) j = z at ih hr hr0 ⊢
    have hpq : poQ z.1 n s (nI j) ↔ knA M n s j := by
      rw [poQ_a (by omega) hn]
      unfold knA poP knP
      rw [hr 47 (by decide) (by decide), hr 51 (by decide) (by decide)]
    have hY : ∀ Y : mM, Y = up2 (up2 (up2 z.1 66 j (bI (decide (poQ z.1 n s (nI j))))) 64 j 0) 63 j 0 → (∀ r, r ≠ 63 → r ≠ 64 → r ≠ 66 → Y r = z.1 r) ∧ (∀ r k, k ≠ j → Y r k = z.1 r k) ∧ Y 66 j = bI (decide (poQ z.1 n s (nI j))) ∧ Y 64 j = 0 ∧ Y 63 j = 0 := fun Y e => by
      subst e
      refine ⟨fun r h3 h4 h6 => (up2_row h3).trans ((up2_row h4).trans (up2_row h6)), fun r k hk => (up2_k _ _ hk).trans ((up2_k _ _ hk).trans (up2_k _ _ hk)), ?_, ?_, up2_s _ _ _ _⟩
      · rw [up2_row (show 66 ≠ 63 by decide), up2_row (show 66 ≠ 64 by decide), up2_s]
      · rw [up2_row (show 64 ≠ 63 by decide), up2_s]
    unfold clmB
    obtain ⟨y1, y2, y3, y4, y5⟩ := hY _ rfl
    generalize up2 (up2 (up2 z.1 66 j (bI (decide (poQ z.1 n s (nI j))))) 64 j 0) 63 j 0 = Y at y1 y2 y3 y4 y5 ⊢
    have agY : agr Y M := ⟨fun r h0 h => (y1 r (by omega) (by omega) (by omega)).trans (hr r h0 h), fun k hk => (congrFun (y1 0 (by decide) (by decide) (by decide)) k).trans (hr0 k hk)⟩
    by_cases hp : knA M n s j
    · rw [if_neg (show ¬ bI (decide (poQ z.1 n s (nI j))) = 0 from by rw [decide_eq_true (hpq.mpr hp)]; decide)]
      dsimp only
      have m1 : ∀ r, r ≠ 0 → (masS n s w g j Y z.2).2.1 r = Y r := fun r h0 => mas_row h0
      have m0 : ∀ k, k < 70 → (masS n s w g j Y z.2).2.1 0 k = Y 0 k := fun k hk => mas_0 (by omega) (by omega) (by omega) (by omega)
      have hv : ∃ v, v = (masS n s w g j Y z.2).1 := ⟨_, rfl⟩
      obtain ⟨v, hv⟩ := hv
      rw [← hv]
      generalize (masS n s w g j Y z.2).2.1 = V at m1 m0 ⊢
      by_cases e : a = j
      · subst e
        refine ⟨fun y => absurd hp y, fun _ => ⟨?_, ?_, ⟨Y, z.2, agY, ?_⟩, up2 V 63 a v, ⟨fun r h0 h => ?_, fun k hk => ?_⟩, up2_s _ _ _ _⟩⟩
        · rw [up2_row (show 66 ≠ 65 by decide), up2_row (show 66 ≠ 63 by decide), m1 66 (by decide), y3, decide_eq_true (hpq.mpr hp)]
          rfl
        · rw [up2_row (show 64 ≠ 65 by decide), up2_row (show 64 ≠ 63 by decide), m1 64 (by decide), y4]
        · rw [up2_row (show 63 ≠ 65 by decide), up2_s]
          exact hv
        · rw [up2_row (show r ≠ 63 by omega), m1 r h0]
          exact agY.1 r h0 h
        · rw [up2_row (show 0 ≠ 63 by decide), m0 k hk]
          exact agY.2 k hk
      · have hc : ∀ r, r ≠ 0 → up2 (up2 V 63 j v) 65 j (mmaS n s j (up2 V 63 j v)) r a = z.1 r a := fun r h0 => by
          rw [up2_k _ _ e, up2_k _ _ e, m1 r h0, y2 r a e]
        rw [hc 66 (by decide), hc 64 (by decide), hc 63 (by decide), hc 65 (by decide)]
        exact ih (by omega)
    · rw [if_pos (show bI (decide (poQ z.1 n s (nI j))) = 0 from by rw [decide_eq_false (fun y => hp (hpq.mp y))]; rfl)]
      by_cases e : a = j
      · subst e
        refine ⟨fun _ => ⟨?_, y4, y5⟩, fun y => absurd y hp⟩
        dsimp only
        rw [y3, decide_eq_false (fun y => hp (hpq.mp y))]
        rfl
      · dsimp only
        rw [y2 66 a e, y2 64 a e, y2 63 a e, y2 65 a e]
        exact ih (by omega)
theorem agr_rel {h : hp_T} {V M : mM} {w g n : Nat} (G : agr V M) (R : rC (hp_i h) M w g) (Bd : bC M) (A : rA (hp_i h) M w g n) (B : rT h M n) : rC (hp_i h) V w g ∧ bC V ∧ rA (hp_i h) V w g n ∧ rT h V n := by
  obtain ⟨g1, g2⟩ := G
  exact ⟨rC_fr (fun _ _ => rfl) (fun x hx => g1 x (by omega) (by omega)) ⟨g2 42 (by decide), g2 43 (by decide)⟩ R, bC_fr (fun x hx => g1 x (by omega) (by omega)) Bd, rA_fr (fun _ _ => rfl) ⟨g2 62 (by decide), g2 68 (by decide)⟩ (fun x hx => g1 x (by omega) (by omega)) A, rT_fr (fun r hr => g1 r (by omega) (by omega)) B⟩
theorem agr_mlo {V M : mM} (G : agr V M) (c : Nat) : mloV V c = mloV M c := by
  unfold mloV
  rw [G.1 34 (by decide) (by decide), G.1 33 (by decide) (by decide), G.1 56 (by decide) (by decide), G.1 31 (by decide) (by decide)]
theorem agr_mp {V M : mM} (G : agr V M) (s : Nat) (c : Int32) : mpB V s c = mpB M s c := by
  funext j
  unfold mpB
  simp only [poP, knP, G.1 47 (by decide) (by decide), G.1 49 (by decide) (by decide), G.1 51 (by decide) (by decide)]
/-- what the judge has of a house: rows of its facts but those of the policy -/
def gkJ (S Z : kS) (Y : kS) : Prop := kJ S Z ∧ (∀ i, i ≠ 3 → i ≠ 4 → i ≠ 5 → S.1 7 i = Y.1 7 i) ∧ S.1 6 4 = Y.1 6 4
/-- what the class asks for a policy is what the reference asks -/
theorem cls_ask {h : hp_T} {M V : mM} {w g n s a c v o : Nat} {S : kS} {W : tW} {loss : Int32} (R : rC (hp_i h) M w g) (Bd : bC M) (A : rA (hp_i h) M w g n) (hs : s ≤ n) (B : rT h M n) (G : agr V M) (J : gkJ S (kn h s) (goK h w g (kn h s) c)) (hc : c < w * g) (ec : M 49 a = nI c) (hv : v ≤ 99999) (ev9 : M 50 a = nI v) (eo : M 48 a = nI o) (ho : o < 9) (hl : loss = mloV M c) (hlb : vbd loss) : (askS h (takS S (nI v) (S.1 4 c - 1) loss) ((kn h s).2 o)).1 = (masS n s w g a V W).1 := by
  have hn := A.1.2.2
  obtain ⟨RV, BdV, AV, BV⟩ := agr_rel G R Bd A B
  have hcy := cty_n R.1
  have hk := gk_P (R := hp_r h 162) A hs hcy.2 (kS0 h) s (Nat.le_refl _)
  obtain ⟨⟨k1, k2, k3, k4⟩, k5, k6⟩ := J
  have h4 : S.1 4 c = nI (fa_cnt (mpB M s (nI c)) n) := by
    rw [k1 4 (by decide)]
    obtain ⟨d, rfl⟩ : ∃ d, n = s + d := ⟨n - s, by omega⟩
    rw [mp_beh d]
    exact hk.1 c (by omega)
  have e49 : V 49 a = nI c := by rw [G.1 49 (by decide) (by decide)]; exact ec
  have e50 : V 50 a = nI v := by rw [G.1 50 (by decide) (by decide)]; exact ev9
  have e48 : V 48 a = nI o := by rw [G.1 48 (by decide) (by decide)]; exact eo
  have hoV := ask_opV (M := V) (M1 := mas1 n s a V) (sum := nI v) (oth := S.1 4 c - 1) (loss := loss) RV BdV AV hs hc (vbd_nI (k := v) (by omega)) (by rw [h4]; exact cnt_bd (p := mpB M s (nI c)) hn) hlb (by
    unfold mas1
    rw [e49, e50, agr_mp G, nI_clamp (show c < 2147483648 by omega), agr_mlo G, ← hl, h4]
    exact ⟨rfl, rfl, rfl⟩) (fun r hr => askM_row hr)
  have e7 : (takS S (nI v) (S.1 4 c - 1) loss).1 7 = (takS (goK h w g (kn h s) c) (nI v) (S.1 4 c - 1) loss).1 7 := by
    funext i
    unfold takS
    dsimp only
    by_cases q4 : i = 4
    · subst q4; rw [up2_s, up2_s]
    · rw [up2_k _ _ q4, up2_k _ _ q4]
      by_cases q5 : i = 5
      · subst q5; rw [up2_s, up2_s]
      · rw [up2_k _ _ q5, up2_k _ _ q5]
        by_cases q3 : i = 3
        · subst q3; rw [up2_s, up2_s]
        · rw [up2_k _ _ q3, up2_k _ _ q3]
          exact k5 i q3 q4 q5
  have e6 : (takS S (nI v) (S.1 4 c - 1) loss).1 6 4 = (takS (goK h w g (kn h s) c) (nI v) (S.1 4 c - 1) loss).1 6 4 := by
    rw [takS_row _ _ _ _ (show 6 ≠ 7 by decide), takS_row _ _ _ _ (show 6 ≠ 7 by decide)]
    exact k6
  rw [← e7, ← e6] at hoV
  refine ask_eq AV hs BV (show c < 120 by omega) e49 ?_ ?_ hv e50 ?_ e48 ho
  · unfold masV
    rw [e49, nI_clamp (show c < 2147483648 by omega)]
    exact hoV
  · rw [agr_mlo G, ← hl]
    unfold takS
    dsimp only
    exact up2_s _ _ _ _
  · unfold takS
    dsimp only
    rw [up2_k _ _ (show 3 ≠ 4 by decide), up2_k _ _ (show 3 ≠ 5 by decide), up2_s]
