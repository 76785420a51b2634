/-! ===== class against reference: who helps where, before a fire ===== -/
/-- what the judge works out does not change what is known -/
def kJ (S Z : kS) : Prop := (∀ r, r ≤ 4 → S.1 r = Z.1 r) ∧ S.2 = Z.2 ∧ (∀ i, i ≠ 4 → S.1 6 i = Z.1 6 i) ∧ ∀ i, 7 ≤ i → S.1 7 i = Z.1 7 i
theorem kJ_rf (S : kS) : kJ S S := ⟨fun _ _ => rfl, rfl, fun _ _ => rfl, fun _ _ => rfl⟩
theorem hl0_64 {h : hp_T} {w g c : Nat} {S : kS} : (hlS0 h w g S c).1 6 4 = S.1 3 c := by
  unfold hlS0
  rw [takS_row _ _ _ _ (by decide)]
  unfold goS
  dsimp only
  exact up2_s _ _ _ _
theorem hl0_7e {h : hp_T} {w g c : Nat} {S Z : kS} (J : kJ S Z) : (hlS0 h w g S c).1 7 = (hlS0 h w g Z c).1 7 := by
  have e4 : S.1 4 c = Z.1 4 c := congrFun (J.1 4 (by decide)) c
  funext i
  unfold hlS0 takS goS
  dsimp only
  rcases Nat.lt_or_ge i 7 with q | q
  · rcases (show i = 0 ∨ i = 1 ∨ i = 2 ∨ i = 3 ∨ i = 4 ∨ i = 5 ∨ i = 6 by omega) with e | e | e | e | e | e | e
    all_goals subst e; simp [up2, e4]
  · have e7 := J.2.2.2 i q
    simp [up2, e4, e7]
theorem stm_fr {S Z : kS} {cd fr : Nat → Int32} {i : Nat} (e7 : S.1 7 = Z.1 7) (e6 : S.1 6 4 = Z.1 6 4) (u : Nat → Int32) : stm (kR S u) cd fr i = stm (kR Z u) cd fr i := by
  show vofN (S.1 7) (S.1 6 4) cd u _ _ = vofN (Z.1 7) (Z.1 6 4) cd u _ _
  rw [e7, e6]
theorem smF_fr {S Z : kS} {cd kd fr : Nat → Int32} {kind : Int32} (e7 : S.1 7 = Z.1 7) (e6 : S.1 6 4 = Z.1 6 4) : ∀ (k i : Nat) (u : Nat → Int32), smF S cd kd fr kind k i u = smF Z cd kd fr kind k i u
  | 0, _, _ => rfl
  | k + 1, i, u => by
    unfold smF
    rw [stm_fr e7 e6 u, smF_fr e7 e6 k (i + 1) u, smF_fr e7 e6 k (i + 1) _]
theorem some_fr {h : hp_T} {S Z : kS} {t : Option Nat} {kind : Int32} (e7 : S.1 7 = Z.1 7) (e6 : S.1 6 4 = Z.1 6 4) (u : Nat → Int32) : someS h (kR S u) t kind = someS h (kR Z u) t kind := by
  cases t with
  | none => rfl
  | some b =>
    show smF (kR S u) _ _ _ kind _ 0 u = smF (kR Z u) _ _ _ kind _ 0 u
    exact smF_fr (S := kR S u) (Z := kR Z u) e7 e6 _ _ _
theorem some_w {h : hp_T} {M : mM} {w g n s c o : Nat} (w0 w1 : Nat → Int32) (R : rC (hp_i h) M w g) (Bd : bC M) (A : rA (hp_i h) M w g n) (hs : s ≤ n) (B : rT h M n) (hc : c < w * g) (ho : o < 9) : (someS h (kR (hlS0 h w g (kn h s) c) w0) ((kn h s).2 o) 16).1 = (someS h (kR (hlS0 h w g (kn h s) c) w1) ((kn h s).2 o) 16).1 := by
  rcases kn_obj A hs B ho with ⟨-, e2⟩ | ⟨t, b, k, e1, t1, t2, e2, b1, b2, b3, b4, b5, -⟩
  · rw [e2]; rfl
  · rw [e2]
    have hM : ∀ r, r ≠ 0 → hatM M n s c r = M r := fun r hr => askM_row hr
    have hV := fun u => hlp_opV (M1 := hatM M n s c) u R Bd A hs hc ⟨rfl, rfl, rfl⟩ hM
    exact (some_ho (t := 2) (W := (0, fun _ => 0)) (hV w0) (by decide) hM b4 b5).trans (some_ho (t := 2) (W := (0, fun _ => 0)) (hV w1) (by decide) hM b4 b5).symm
theorem hl_any {h : hp_T} {M : mM} {w g n s c : Nat} {S : kS} (J : kJ S (kn h s)) (R : rC (hp_i h) M w g) (Bd : bC M) (A : rA (hp_i h) M w g n) (hs : s ≤ n) (B : rT h M n) (hc : c < w * g) : ∀ k, k ≤ 9 → (hlS h w g S c k).1 = (hlS h w g (kn h s) c k).1 := by
  intro k
  induction k with
  | zero => exact fun _ => congrFun (J.1 3 (by decide)) c
  | succ k ih =>
    intro hk
    replace ih := ih (by omega)
    rw [show hlS h w g S c (k + 1) = hlB h (hlS0 h w g S c) (hlS h w g S c k) k from itN_s _ _ _, show hlS h w g (kn h s) c (k + 1) = hlB h (hlS0 h w g (kn h s) c) (hlS h w g (kn h s) c k) k from itN_s _ _ _]
    generalize hlS h w g S c k = x at ih ⊢
    generalize hlS h w g (kn h s) c k = y at ih ⊢
    have e6 : (hlS0 h w g S c).1 6 4 = (hlS0 h w g (kn h s) c).1 6 4 := by
      rw [hl0_64, hl0_64]
      exact congrFun (J.1 3 (by decide)) c
    have e2 : (hlS0 h w g S c).2 = (kn h s).2 := J.2.1
    unfold hlB
    dsimp only
    rw [some_fr (hl0_7e J) e6, e2, show (hlS0 h w g (kn h s) c).2 = (kn h s).2 from rfl, some_w x.2 y.2 R Bd A hs B hc (show k < 9 by omega), ih]
theorem lrn_J {h : hp_T} {M : mM} {w g n s : Nat} (R : rC (hp_i h) M w g) (Bd : bC M) (A : rA (hp_i h) M w g n) (hs : s ≤ n) (B : rT h M n) : ∀ k, k ≤ w * g → kJ (itN (fhB h w g) (kn h s) k) (kn h s) ∧ ∀ c, c < k → (itN (fhB h w g) (kn h s) k).1 5 c = if hp_i h 2 c = 0 then 0 else (hlS h w g (kn h s) c 9).1 := by
  intro k
  induction k with
  | zero => exact fun _ => ⟨kJ_rf _, fun c hc => absurd hc (Nat.not_lt_zero c)⟩
  | succ k ih =>
    intro hk
    obtain ⟨J, i2⟩ := ih (by omega)
    rw [itN_s]
    generalize itN (fhB h w g) (kn h s) k = S at J i2 ⊢
    have hv := hl_any J R Bd A hs B (show k < w * g by omega) 9 (Nat.le_refl _)
    unfold fhB
    by_cases q : hp_i h 2 k = 0
    · rw [if_pos q]
      refine ⟨⟨fun r hr => ?_, J.2.1, fun i hi => ?_, fun i hi => ?_⟩, fun c hc => ?_⟩
      · dsimp only
        rw [up2_row (show r ≠ 5 by omega)]
        exact J.1 r hr
      · dsimp only
        rw [up2_row (show 6 ≠ 5 by decide)]
        exact J.2.2.1 i hi
      · dsimp only
        rw [up2_row (show 7 ≠ 5 by decide)]
        exact J.2.2.2 i hi
      by_cases e : c = k
      · subst e
        rw [if_pos q]
        exact up2_s _ _ _ _
      · exact (up2_k _ _ e).trans (i2 c (by omega))
    · rw [if_neg q]
      refine ⟨⟨fun r hr => ?_, J.2.1, fun i hi => ?_, fun i hi => ?_⟩, fun c hc => ?_⟩
      · exact (up2_row (by omega)).trans ((kR_row _ _ (by omega)).trans ((hl0_row h w g S k (by omega) (by omega)).trans (J.1 r hr)))
      · dsimp only
        rw [up2_row (show 6 ≠ 5 by decide), kR_row _ _ (show 6 ≠ 8 by decide)]
        unfold hlS0
        rw [takS_row _ _ _ _ (show 6 ≠ 7 by decide)]
        unfold goS
        dsimp only
        rw [up2_k _ _ hi, up2_row (show 6 ≠ 7 by decide), up2_row (show 6 ≠ 7 by decide), up2_row (show 6 ≠ 7 by decide), up2_row (show 6 ≠ 7 by decide)]
        exact J.2.2.1 i hi
      · dsimp only
        rw [up2_row (show 7 ≠ 5 by decide), kR_row _ _ (show 7 ≠ 8 by decide)]
        unfold hlS0 takS goS
        dsimp only
        rw [up2_k _ _ (show i ≠ 4 by omega), up2_k _ _ (show i ≠ 5 by omega), up2_k _ _ (show i ≠ 3 by omega), up2_row (show 7 ≠ 6 by decide), up2_k _ _ (show i ≠ 6 by omega), up2_k _ _ (show i ≠ 2 by omega), up2_k _ _ (show i ≠ 1 by omega), up2_k _ _ (show i ≠ 0 by omega)]
        exact J.2.2.2 i hi
      · by_cases e : c = k
        · subst e
          rw [if_neg q, ← hv]
          exact up2_s _ _ _ _
        · dsimp only
          rw [up2_k _ _ e, kR_row _ _ (show 5 ≠ 8 by decide), hl0_row h w g S k (show 5 ≠ 6 by decide) (show 5 ≠ 7 by decide)]
          exact i2 c (by omega)
theorem stmR_fr {M M1 : mM} {a q : Nat} {cd kd fr : Nat → Int32} (e : ∀ r, 26 ≤ r ∧ r ≤ 29 → M1 r = M r) (R : stmR M a q cd kd fr) : stmR M1 a q cd kd fr := by
  unfold stmR
  rw [e 26 (by decide), e 27 (by decide), e 28 (by decide), e 29 (by decide)]
  exact R
theorem rT_fr {h : hp_T} {M M1 : mM} {n : Nat} (e : ∀ r, (25 ≤ r ∧ r ≤ 29) ∨ r = 47 → M1 r = M r) (B : rT h M n) : rT h M1 n := by
  intro a h1 h2 h3
  rw [e 47 (by decide)] at h3
  obtain ⟨b, k, b1, b2, b3, b4, b5, ⟨b6, b7, b8⟩, b9⟩ := B a h1 h2 h3
  refine ⟨b, k, b1, b2, b3, b4, b5, ⟨b6, by rw [e 25 (by decide)]; exact b7, fun q hq => stmR_fr (fun r hr => e r (by omega)) (b8 q hq)⟩, b9⟩
theorem gol_59 {h : hp_T} {M : mM} {w g n s : Nat} {W : tW} (R : rC (hp_i h) M w g) (Bd : bC M) (A : rA (hp_i h) M w g n) (hs : s ≤ n) (B : rT h M n) : ∀ j, j ≤ 120 → ∀ c, c < j → c < w * g → ¬ M 34 c = 0 → (itN (golB n s w g) (M, W) j).1 59 c = (hlS h w g (kn h s) c 9).1 := by
  intro j
  induction j with
  | zero => exact fun _ c hc => absurd hc (Nat.not_lt_zero c)
  | succ j ih =>
    intro hj c hc hcn h34
    replace ih := ih (by omega) c
    have hr : ∀ r, r ≠ 0 → r < 53 → (itN (golB n s w g) (M, W) j).1 r = M r := fun r h0 h9 => gol_row h0 (by omega) (by omega) (by omega) (by omega) (by omega) (by omega) j
    have hr0 : ∀ k, k < 70 → (itN (golB n s w g) (M, W) j).1 0 k = M 0 k := fun k h => gol_0 (by omega) (by omega) (by omega) (by omega) j
    rw [itN_s]
    generalize itN (golB n s w g) (M, W) j = z at ih hr hr0 ⊢
    have hY : ∀ Y : mM, Y = up2 (up2 (up2 (up2 (up2 z.1 53 j 0) 54 j 0) 55 j 0) 56 j 0) 57 j (-1) → (∀ r, r ≠ 0 → r < 53 → Y r = M r) ∧ (∀ k, k < 70 → Y 0 k = M 0 k) ∧ Y 59 = z.1 59 := fun Y e => by
      subst e
      have go : ∀ r, r < 53 ∨ 57 < r → up2 (up2 (up2 (up2 (up2 z.1 53 j 0) 54 j 0) 55 j 0) 56 j 0) 57 j (-1) r = z.1 r := fun r h9 => (up2_row (by omega)).trans ((up2_row (by omega)).trans ((up2_row (by omega)).trans ((up2_row (by omega)).trans (up2_row (by omega)))))
      exact ⟨fun r h0 h9 => (go r (Or.inl h9)).trans (hr r h0 h9), fun k hk => (congrFun (go 0 (by decide)) k).trans (hr0 k hk), go 59 (by decide)⟩
    unfold golB
    by_cases e : c = j
    · subst e
      rw [if_neg (show ¬ zb (c < w * g ∧ ¬ z.1 34 c = 0) = 0 from fun y => zb_0.mp y ⟨hcn, by rw [hr 34 (by decide) (by decide)]; exact h34⟩)]
      obtain ⟨y1, y2, -⟩ := hY _ rfl
      generalize up2 (up2 (up2 (up2 (up2 z.1 53 c 0) 54 c 0) 55 c 0) 56 c 0) 57 c (-1) = Y at y1 y2 ⊢
      refine (up2_s _ _ _ _).trans (helps_eq (M := Y) (W := z.2) ?_ ?_ ?_ hs ?_ hcn).symm
      · exact rC_fr (fun _ _ => rfl) (fun x hx => y1 x (by omega) (by omega)) ⟨y2 42 (by decide), y2 43 (by decide)⟩ R
      · exact bC_fr (fun x hx => y1 x (by omega) (by omega)) Bd
      · exact rA_fr (fun _ _ => rfl) ⟨y2 62 (by decide), y2 68 (by decide)⟩ (fun x hx => y1 x (by omega) (by omega)) A
      · exact rT_fr (fun r hr => y1 r (by omega) (by omega)) B
    · split
      · exact (up2_k _ _ e).trans ((congrFun (hY _ rfl).2.2 c).trans (ih (by omega) hcn h34))
      · exact (up2_k _ _ e).trans ((congrFun (hep_row (by decide) 9) c).trans ((congrFun (hY _ rfl).2.2 c).trans (ih (by omega) hcn h34)))
theorem gol_590 {M : mM} {w g n s : Nat} {W : tW} : ∀ j, ∀ c, c < j → M 34 c = 0 → (itN (golB n s w g) (M, W) j).1 59 c = 0 := by
  intro j
  induction j with
  | zero => exact fun c hc => absurd hc (Nat.not_lt_zero c)
  | succ j ih =>
    intro c hc h34
    replace ih := ih c
    have hr : (itN (golB n s w g) (M, W) j).1 34 = M 34 := gol_row (by decide) (by decide) (by decide) (by decide) (by decide) (by decide) (by decide) j
    rw [itN_s]
    generalize itN (golB n s w g) (M, W) j = z at ih hr ⊢
    have hY : ∀ Y : mM, Y = up2 (up2 (up2 (up2 (up2 z.1 53 j 0) 54 j 0) 55 j 0) 56 j 0) 57 j (-1) → Y 59 = z.1 59 := fun Y e => by
      subst e
      exact (up2_row (by decide)).trans ((up2_row (by decide)).trans ((up2_row (by decide)).trans ((up2_row (by decide)).trans (up2_row (by decide)))))
    unfold golB
    by_cases e : c = j
    · subst e
      rw [if_pos (show zb (c < w * g ∧ ¬ z.1 34 c = 0) = 0 from zb_0.mpr (fun y => y.2 (by rw [hr]; exact h34)))]
      exact up2_s _ _ _ _
    · split
      · exact (up2_k _ _ e).trans ((congrFun (hY _ rfl) c).trans (ih (by omega) h34))
      · exact (up2_k _ _ e).trans ((congrFun (hep_row (by decide) 9) c).trans ((congrFun (hY _ rfl) c).trans (ih (by omega) h34)))
/-- who helps where is the same for both -/
theorem help_59 {h : hp_T} {M : mM} {w g n s : Nat} {W : tW} (R : rC (hp_i h) M w g) (Bd : bC M) (A : rA (hp_i h) M w g n) (hs : s ≤ n) (B : rT h M n) {c : Nat} (hc : c < w * g) : (lrn h w g s).1 5 c = (goZ n s w g (M, W)).1 59 c := by
  have hn := (cty_n R.1).2
  refine ((lrn_J R Bd A hs B (w * g) (Nat.le_refl _)).2 c hc).trans ?_
  rw [R.2.2.1]
  by_cases q : M 34 c = 0
  · rw [if_pos q]
    exact (gol_590 120 c (by omega) q).symm
  · rw [if_neg q]
    exact (gol_59 R Bd A hs B 120 (Nat.le_refl _) c (by omega) hc q).symm
