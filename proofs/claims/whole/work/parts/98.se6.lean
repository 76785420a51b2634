/-! ===== class against reference: an engine drives; a minute; a fire ===== -/
theorem fX_dr2 {F X M : mM} {w g m e : Nat} (t : Int32) (R : rC F M w g) (E9 : rE F M w g m) (hW : ∀ c, c < w * g → X 8 c = zb (anyb (plN (M 35) w c) (w * g) = true)) (hS : ∃ a, a < w * g ∧ X 9 e = nI a) (hA : aimOk (w * g) (X 10 e)) (he : e < m) (I : fX X M (w * g) m) : fX (drv2 F t X e) (mdr2 w g e t M) (w * g) m := by
  have hn := (cty_n R.1).2
  obtain ⟨c9, c10, c11⟩ := I.2 e he
  obtain ⟨⟨-, -, f3, f4⟩, -, -, ⟨kg, kg1, kg2, kg3⟩, ⟨kp, kp1, kp2, kp3⟩⟩ := E9.2.2.2 e he
  obtain ⟨a, ha, ea⟩ := hS
  have up9 : ∀ v : Int32, fX (up2 X 9 e v) (up2 M 60 e v) (w * g) m := fun v => by
    refine ⟨fun k hk => fC_fr (fun r hr => congrFun (up2_row (by omega)) k) (fun r hr => congrFun (up2_row (by omega)) k) (I.1 k hk), fun k hk => ?_⟩
    by_cases q : k = e
    · subst q
      exact ⟨(up2_s _ _ _ _).trans (up2_s _ _ _ _).symm, (congrFun (up2_row (by decide)) k).trans (c10.trans (congrFun (up2_row (by decide)) k).symm), (congrFun (up2_row (by decide)) k).trans (c11.trans (congrFun (up2_row (by decide)) k).symm)⟩
    · exact fE_fr (fun r _ => up2_k _ _ q) (fun r _ => up2_k _ _ q) (I.2 k hk)
  unfold drv2 mdr2
  rw [← c10]
  by_cases q : X 10 e = -1
  · rw [if_pos q, if_pos q]; exact I
  · rw [if_neg q, if_neg q]
    rcases hA with z | ⟨b, hb, eb⟩
    · exact absurd z q
    · have hg1 := gon_e R.1 ha hb kg2
      have hg2 := mdr_e R.2.1 ha hb kg2 (c9.symm.trans ea) (c10.symm.trans eb) kg3
      obtain ⟨u, hu, eu, u1, u2⟩ := hg1
      obtain ⟨v, hv, ev9, v1, v2⟩ := hg2
      have huv : u = v := by
        have w1 := Nat.div_add_mod u w
        have w2 := Nat.div_add_mod v w
        rw [← w1, ← w2, show u / w = v / w by omega, show u % w = v % w by omega]
      subst huv
      rw [show (mdrY M e).2 * M 0 42 + (mdrX M e).2 = nI u from ev9, ea, eb, nI_clamp (show a < 2147483648 by omega), nI_clamp (show b < 2147483648 by omega), f3, kg3, eu, show up2 M 60 e (nI u) 60 e = nI u from up2_s _ _ _ _, show up2 M 60 e (nI u) 61 e = nI b from (congrFun (up2_row (by decide)) e).trans (c10.symm.trans eb)]
      by_cases q2 : nI u = nI b
      · rw [if_neg (not_not_intro q2), if_pos q2]
        refine fX_pou (p := kp) hb he ?_ (f4.trans (congrFun (up2_row (by decide)) e).symm) kp2 ((congrFun (up2_row (by decide)) e).trans kp3) (up9 (nI u))
        rw [up2_row (show 8 ≠ 9 by decide), up2_row (show 35 ≠ 60 by decide)]
        exact hW b hb
      · rw [if_pos q2, if_neg q2]
        exact up9 (nI u)
theorem fX_drv {F X M : mM} {w g m e : Nat} (t : Int32) (R : rC F M w g) (E9 : rE F M w g m) (hW : ∀ c, c < w * g → X 8 c = zb (anyb (plN (M 35) w c) (w * g) = true)) (h59 : ∀ c, c < w * g → F 170 c = M 59 c) (D : drvI m (w * g) X) (he : e < m) (I : fX X M (w * g) m) : fX (drvB F w g t X e) (mdrV w g e t M) (w * g) m := by
  have hn := (cty_n R.1).2
  obtain ⟨c9, c10, c11⟩ := I.2 e he
  obtain ⟨⟨a, ha, ea⟩, hA⟩ := D.2 e he
  obtain ⟨⟨f1, -, -, -⟩, ⟨o, ho, eo⟩, -, -, -⟩ := E9.2.2.2 e he
  have hnear := near_e (X := X) (M := M) (hp := F 170) (off := 1 <<< (F 146 e &&& 31)) (e := e) R.1.1 ha (c9.symm.trans ea) (fun c hc => ⟨(I.1 c hc).2.1, (I.1 c hc).2.2.2.2.2.2.1⟩) (fun c hc => by
    rw [f1, eo, h59 c hc]
    exact bit_msk _ (by omega)) (w * g) (Nat.le_refl _)
  have hok := near_ok X (F 170) w a (1 <<< (F 146 e &&& 31)) (w * g) (w * g) (Nat.le_refl _)
  have hseek : fX (drv2 F t (seek (F 170) w g (1 <<< (F 146 e &&& 31)) X e) e) (mdr2 w g e t (mneX w g e M)) (w * g) m := by
    unfold seek mneX
    rw [ea, nI_clamp (show a < 2147483648 by omega), hnear.1]
    generalize (itN (neaB X (F 170) w a (1 <<< (F 146 e &&& 31))) (-1, 120) (w * g)).1 = v at hok ⊢
    have hr : ∀ r, r ≠ 61 → up2 M 61 e v r = M r := fun r h => up2_row h
    refine fX_dr2 t (rC_fr (fun x _ => rfl) (fun x hx => hr x (by omega)) ⟨congrFun (hr 0 (by decide)) 42, congrFun (hr 0 (by decide)) 43⟩ R) (rE_fr ⟨rfl, congrFun (hr 0 (by decide)) 54⟩ (fun _ _ => rfl) (fun x hx => hr x (by omega)) E9) (fun c hc => ?_) ⟨a, ha, (congrFun (up2_row (by decide)) e).trans ea⟩ ?_ he ⟨fun k hk => fC_fr (fun r hr => congrFun (up2_row (by omega)) k) (fun r hr => congrFun (up2_row (by omega)) k) (I.1 k hk), fun k hk => ?_⟩
    · rw [up2_row (show 8 ≠ 10 by decide), hr 35 (by decide)]
      exact hW c hc
    · rw [up2_s]; exact hok
    · by_cases q : k = e
      · subst q
        exact ⟨(congrFun (up2_row (by decide)) k).trans (c9.trans (congrFun (up2_row (by decide)) k).symm), (up2_s _ _ _ _).trans (up2_s _ _ _ _).symm, (congrFun (up2_row (by decide)) k).trans (c11.trans (congrFun (up2_row (by decide)) k).symm)⟩
      · exact fE_fr (fun r _ => up2_k _ _ q) (fun r _ => up2_k _ _ q) (I.2 k hk)
  unfold drvB drv1 mdrV
  rw [← c10]
  rcases hA with z | ⟨b, hb, eb⟩
  · rw [if_pos z, if_pos z]; exact hseek
  · rw [eb, if_neg (nI_nm1 (by omega)), if_neg (nI_nm1 (by omega)), nI_clamp (show b < 2147483648 by omega), (I.1 b hb).2.1]
    by_cases q : M 53 b = 1
    · rw [if_pos q, if_pos q]
      exact fX_dr2 t R E9 hW ⟨a, ha, ea⟩ (Or.inr ⟨b, hb, eb⟩) he I
    · rw [if_neg q, if_neg q]; exact hseek
theorem drv_r {F X : mM} {w g e : Nat} {t : Int32} {r : Nat} (h : r < 3 ∨ 11 < r ∨ r = 6 ∨ r = 7 ∨ r = 8) : drvB F w g t X e r = X r := by
  have h1 : drv1 F w g X e r = X r := by
    unfold drv1 seek
    repeat' split
    all_goals first | rfl | exact up2_row (by omega)
  unfold drvB
  rw [← h1]
  generalize drv1 F w g X e = Z
  unfold drv2
  split
  · rfl
  · split
    · exact up2_row (by omega)
    · exact ((pou_X rfl).1 r (by omega) (by omega) (by omega) (by omega)).trans (up2_row (by omega))
theorem mn_r {F : mM} {w g m : Nat} {r : Nat} (h : r < 3 ∨ 11 < r ∨ r = 8) (X : mM) (k : Nat) : mnB F w g m X k r = X r := by
  have h1 : sprX F w g (k + 1) (itN (conX (fuW (F 3))) X (w * g)) r = X r := (sprX_row F w g (k + 1) (by omega) (by omega) (by omega) (by omega) _).trans (itN_row (fun Z j => conX_row (by omega) (by omega) (by omega) Z j) _ _)
  unfold mnB
  split
  · exact h1
  · exact (itN_row (fun Z j => drv_r (by omega)) _ _).trans h1
theorem fX_mn {F X M : mM} {w g m : Nat} (R : rC F M w g) (Wd : rW F M) (Bd : bC M) (E9 : rE F M w g m) (hW : ∀ c, c < w * g → X 8 c = zb (anyb (plN (M 35) w c) (w * g) = true)) (h59 : ∀ c, c < w * g → F 170 c = M 59 c) (D : drvI m (w * g) X) (I : fX X M (w * g) m) : ∀ T, T ≤ 120 → fX (itN (mnB F w g m) X T) (itN (gomB w g m) M T) (w * g) m := by
  have hgo : ∀ e, e < m → ∃ k, k ≤ 9 ∧ F 148 e = nI k := fun e he => by
    obtain ⟨⟨-, -, f3, -⟩, -, -, ⟨k, k1, k2, k3⟩, -⟩ := E9.2.2.2 e he
    exact ⟨k, k2, f3.trans k3⟩
  intro T
  induction T with
  | zero => exact fun _ => I
  | succ T ih =>
    intro hT
    replace ih := ih (by omega)
    have D1 := mn_I R.1 hgo D T
    have h8 : itN (mnB F w g m) X T 8 = X 8 := itN_row (fun Z j => mn_r (by decide) Z j) X T
    have hr : ∀ r, r < 53 ∨ r = 59 → itN (gomB w g m) M T r = M r := fun r h => gom_row (by omega) (by omega) (by omega) (by omega) (by omega) (by omega) (by omega) (by omega) (by omega)
    rw [itN_s, itN_s]
    generalize itN (mnB F w g m) X T = Y at ih D1 h8 ⊢
    generalize itN (gomB w g m) M T = Z at ih hr ⊢
    have st : ∀ Z' : mM, (∀ r, r < 53 ∨ r = 59 → Z' r = Z r) → rC F Z' w g ∧ rW F Z' ∧ bC Z' ∧ rE F Z' w g m := fun Z' h' => by
      have hh : ∀ r, r < 53 → Z' r = M r := fun r h9 => (h' r (Or.inl h9)).trans (hr r (Or.inl h9))
      exact ⟨rC_fr (fun _ _ => rfl) (fun x hx => hh x (by omega)) ⟨congrFun (hh 0 (by decide)) 42, congrFun (hh 0 (by decide)) 43⟩ R, rW_fr ⟨rfl, rfl, rfl⟩ ⟨hh 37 (by decide), hh 38 (by decide), hh 39 (by decide)⟩ Wd, bC_fr (fun x hx => hh x (by omega)) Bd, rE_fr ⟨rfl, congrFun (hh 0 (by decide)) 54⟩ (fun _ _ => rfl) (fun x hx => hh x (by omega)) E9⟩
    have hm1 : ∀ r, r < 53 ∨ r = 59 → itN mgrB Z (w * g) r = Z r := fun r h => mgr_row Z (by omega) (by omega) (by omega) _
    have hm2 : ∀ r, r < 53 ∨ r = 59 → msprX w g (T + 1) (itN mgrB Z (w * g)) r = Z r := fun r h => (mspr_row w g (T + 1) _ (by omega) (by omega) (by omega) (by omega) (by omega)).trans (hm1 r h)
    have J1 : fX (itN (conX (fuW (F 3))) Y (w * g)) (itN mgrB Z (w * g)) (w * g) m := fX_con (fun c => by rw [(st Z (fun _ _ => rfl)).1.2.2.2.1]) ih (w * g) (Nat.le_refl _)
    obtain ⟨R1, W1, B1, E1⟩ := st _ hm1
    have J2 : fX (sprX F w g (T + 1) (itN (conX (fuW (F 3))) Y (w * g))) (msprX w g (T + 1) (itN mgrB Z (w * g))) (w * g) m := fX_spr R1 W1 B1 hT J1
    have D2 : drvI m (w * g) (sprX F w g (T + 1) (itN (conX (fuW (F 3))) Y (w * g))) := mn_I0 (T + 1) D1
    have g8 : sprX F w g (T + 1) (itN (conX (fuW (F 3))) Y (w * g)) 8 = X 8 := ((sprX_row F w g (T + 1) (by decide) (by decide) (by decide) (by decide) _).trans (itN_row (fun V j => conX_row (by decide) (by decide) (by decide) V j) _ _)).trans h8
    unfold mnB gomB
    by_cases q : nI (T + 1) < 3
    · rw [if_pos q, if_pos q]; exact J2
    · rw [if_neg q, if_neg q]
      generalize sprX F w g (T + 1) (itN (conX (fuW (F 3))) Y (w * g)) = A at J2 D2 g8 ⊢
      generalize msprX w g (T + 1) (itN mgrB Z (w * g)) = B at J2 hm2 ⊢
      have go : ∀ k, k ≤ m → fX (itN (drvB F w g (nI (T + 1))) A k) (itN (godB w g (T + 1)) B k) (w * g) m := by
        intro k
        induction k with
        | zero => exact fun _ => J2
        | succ k ik =>
          intro hk
          replace ik := ik (by omega)
          have D3 := drvB_I R.1 hgo (nI (T + 1)) D2 k (by omega)
          have q8 : itN (drvB F w g (nI (T + 1))) A k 8 = X 8 := (itN_row (fun V j => drv_r (by decide)) _ _).trans g8
          have hr3 : ∀ r, r < 53 ∨ r = 59 → itN (godB w g (T + 1)) B k r = Z r := fun r h => (god_row (by omega) (by omega) (by omega) (by omega) (by omega) (by omega)).trans (hm2 r h)
          obtain ⟨R3, -, -, E3⟩ := st _ hr3
          rw [itN_s, itN_s]
          generalize itN (drvB F w g (nI (T + 1))) A k = A1 at ik D3 q8 ⊢
          generalize itN (godB w g (T + 1)) B k = B1 at ik hr3 R3 E3 ⊢
          refine fX_drv (nI (T + 1)) R3 E3 (fun c hc => ?_) (fun c hc => ?_) D3 (by omega) ik
          · rw [q8, hr3 35 (by decide), hr 35 (by decide)]; exact hW c hc
          · rw [hr3 59 (by decide), hr 59 (by decide)]; exact h59 c hc
      exact go m (Nat.le_refl m)
