/-! ===== class against reference: a city is laid ===== -/
/-- the cells below n are laid -/
def clay (F : mM) (w g n : Nat) : Prop := ∀ c, c < n → F 7 c = nI (c / w) ∧ F 8 c = nI (c % w) ∧ ∀ way, way < 8 → F (10 + c) way = enc (nbo w g c way)
theorem lcH_row {w g : Nat} {h : hp_T} {r c x : Nat} (h7 : x ≠ 7) (h8 : x ≠ 8) (hk : x ≠ 10 + (r * w + c)) : hp_i (lcH w g h r c) x = hp_i h x := by
  unfold lcH
  rw [rw1_ne _ _ hk]
  show up2 (up2 (hp_i h) 7 (r * w + c) (nI r)) 8 (r * w + c) (nI c) x = _
  rw [up2_row h8, up2_row h7]
theorem lcH_7 {w g : Nat} {h : hp_T} {r c : Nat} : hp_i (lcH w g h r c) 7 = va_up (hp_i h 7) (r * w + c) (nI r) := by
  unfold lcH
  rw [rw1_ne _ _ (show 7 ≠ 10 + (r * w + c) by omega)]
  show up2 (up2 (hp_i h) 7 (r * w + c) (nI r)) 8 (r * w + c) (nI c) 7 = _
  rw [up2_row (by decide), up2_r]
theorem lcH_8 {w g : Nat} {h : hp_T} {r c : Nat} : hp_i (lcH w g h r c) 8 = va_up (hp_i h 8) (r * w + c) (nI c) := by
  unfold lcH
  rw [rw1_ne _ _ (show 8 ≠ 10 + (r * w + c) by omega)]
  show up2 (up2 (hp_i h) 7 (r * w + c) (nI r)) 8 (r * w + c) (nI c) 8 = _
  rw [up2_r, up2_row (by decide)]
theorem lcH_10 {w g : Nat} {h : hp_T} {r c : Nat} : hp_i (lcH w g h r c) (10 + (r * w + c)) = fa_fill (fun way => enc (nbo w g (r * w + c) way)) (hp_i h (10 + (r * w + c))) 8 := rw1_at _ _ _
theorem clay_s {w g : Nat} {h : hp_T} {r c : Nat} (hc : c < w) (I : clay (hp_i h) w g (r * w + c)) : clay (hp_i (lcH w g h r c)) w g (r * w + c + 1) := by
  intro k hk
  by_cases e : k = r * w + c
  · subst e
    rw [lcH_7, lcH_8, lcH_10]
    refine ⟨?_, ?_, fun way hw => fa_fill_in hw⟩
    · rw [show (r * w + c) / w = r by rw [Nat.mul_comm, Nat.mul_add_div (by omega), Nat.div_eq_of_lt hc, Nat.add_zero]]
      exact if_pos rfl
    · rw [show (r * w + c) % w = c by rw [Nat.mul_comm, Nat.mul_add_mod, Nat.mod_eq_of_lt hc]]
      exact if_pos rfl
  · obtain ⟨a1, a2, a3⟩ := I k (by omega)
    rw [lcH_7, lcH_8, lcH_row (show 10 + k ≠ 7 by omega) (show 10 + k ≠ 8 by omega) (show 10 + k ≠ 10 + (r * w + c) by omega)]
    exact ⟨(if_neg e).trans a1, (if_neg e).trans a2, a3⟩
theorem clay_R {w g : Nat} {h : hp_T} {r : Nat} (I : clay (hp_i h) w g (r * w)) : ∀ n, n ≤ w → clay (hp_i (layR w g h r n)) w g (r * w + n)
  | 0, _ => I
  | n + 1, hn => clay_s (by omega) (clay_R I n (by omega))
theorem clay_A {w g : Nat} {h : hp_T} : ∀ n, clay (hp_i (layA w g h n)) w g (n * w)
  | 0 => fun c hc => absurd hc (by omega)
  | n + 1 => by
    rw [Nat.succ_mul]
    exact clay_R (clay_A n) w (Nat.le_refl _)
theorem layR_row {w g : Nat} {h : hp_T} {r x : Nat} (hx : x < 7 ∨ 130 ≤ x) (hK : r * w + w ≤ 120) : ∀ n, n ≤ w → hp_i (layR w g h r n) x = hp_i h x
  | 0, _ => rfl
  | n + 1, hn => (lcH_row (by omega) (by omega) (by omega)).trans (layR_row hx hK n (by omega))
theorem layA_row {w g : Nat} {h : hp_T} {x : Nat} (hx : x < 7 ∨ 130 ≤ x) (hK : g * w ≤ 120) : ∀ n, n ≤ g → hp_i (layA w g h n) x = hp_i h x
  | 0, _ => rfl
  | n + 1, hn => (layR_row hx (by have := Nat.mul_le_mul_right w hn; rw [Nat.succ_mul] at this; omega) w (Nat.le_refl _)).trans (layA_row hx hK n (by omega))
theorem ptH_out {h : hp_T} {x : Nat} : ∀ n, (x < 136 ∨ 136 + n ≤ x) → hp_i (ptH h n) x = hp_i h x
  | 0, _ => rfl
  | n + 1, hx => (rw1_ne _ _ (by omega)).trans (ptH_out n (by omega))
theorem ptH_in {h : hp_T} {b : Nat} : ∀ n, b < n → hp_i (ptH h n) (136 + b) = fa_fill (fun _ => 0) (hp_i h (136 + b)) 9
  | 0, hb => absurd hb (by omega)
  | n + 1, hb => by
    by_cases e : b = n
    · subst e
      refine (rw1_at _ _ _).trans ?_
      rw [ptH_out b (by omega)]
    · exact (rw1_ne _ _ (by omega)).trans (ptH_in n (by omega))
/-- rows behind city -/
theorem layH_row {w g : Nat} {h : hp_T} {x : Nat} (hK : g * w ≤ 120) (hx : x ≠ 1 ∧ x ≠ 2 ∧ x ≠ 6 ∧ (x < 7 ∨ 130 ≤ x) ∧ ¬ (131 ≤ x ∧ x ≤ 133) ∧ (x < 136 ∨ 145 ≤ x)) : hp_i (layH w g h) x = hp_i h x := by
  unfold layH
  rw [ptH_out 9 (by omega)]
  unfold lay4
  rw [rw1_ne _ _ (by omega), rw1_ne _ _ (by omega), rw1_ne _ _ (by omega), layA_row hx.2.2.2.1 hK g (Nat.le_refl _)]
  unfold lay1
  rw [rw1_ne _ _ (by omega), rw1_ne _ _ (by omega)]
  show up2 (up2 (up2 (hp_i h) 1 0 (nI w)) 1 1 (nI g)) 1 2 (nI (w * g)) x = _
  rw [up2_row hx.1, up2_row hx.1, up2_row hx.1]
theorem lay0_row {w g : Nat} {h : hp_T} {x : Nat} (hx : x ≠ 1) : hp_i (lay0 w g h) x = hp_i h x := by
  show up2 (up2 (up2 (hp_i h) 1 0 (nI w)) 1 1 (nI g)) 1 2 (nI (w * g)) x = _
  rw [up2_row hx, up2_row hx, up2_row hx]
theorem lay1_row {h : hp_T} {x : Nat} (h2 : x ≠ 2) (h6 : x ≠ 6) : hp_i (lay1 h) x = hp_i h x := by
  unfold lay1
  rw [rw1_ne _ _ h6, rw1_ne _ _ h2]
theorem lay1_26 {h : hp_T} {x : Nat} (hx : x = 2 ∨ x = 6) : hp_i (lay1 h) x = fa_fill (fun _ => 0) (hp_i h x) 120 := by
  unfold lay1
  rcases hx with rfl | rfl
  · exact (rw1_ne _ _ (by decide)).trans (rw1_at _ _ _)
  · exact rw1_at _ _ _
theorem lay4_row {h : hp_T} {x : Nat} (hx : ¬ (131 ≤ x ∧ x ≤ 133)) : hp_i (lay4 h) x = hp_i h x := by
  unfold lay4
  rw [rw1_ne _ _ (by omega), rw1_ne _ _ (by omega), rw1_ne _ _ (by omega)]
theorem lay4_in {h : hp_T} {x : Nat} (hx : x = 131 ∨ x = 132 ∨ x = 133) : hp_i (lay4 h) x = fa_fill (fun _ => 0) (hp_i h x) 121 := by
  unfold lay4
  rcases hx with rfl | rfl | rfl
  · exact (rw1_ne _ _ (by decide)).trans ((rw1_ne _ _ (by decide)).trans (rw1_at _ _ _))
  · exact (rw1_ne _ _ (by decide)).trans (rw1_at _ _ _)
  · exact rw1_at _ _ _
theorem layH_26 {w g : Nat} {h : hp_T} {x : Nat} (hK : g * w ≤ 120) (hx : x = 2 ∨ x = 6) : hp_i (layH w g h) x = fa_fill (fun _ => 0) (hp_i h x) 120 := by
  unfold layH
  rw [ptH_out 9 (by omega), lay4_row (by omega), layA_row (by omega) hK g (Nat.le_refl _), lay1_26 hx, lay0_row (by omega)]
theorem layH_wind {w g : Nat} {h : hp_T} {x : Nat} (hK : g * w ≤ 120) (hx : x = 131 ∨ x = 132 ∨ x = 133) : hp_i (layH w g h) x = fa_fill (fun _ => 0) (hp_i h x) 121 := by
  unfold layH
  rw [ptH_out 9 (by omega), lay4_in hx, layA_row (by omega) hK g (Nat.le_refl _), lay1_row (by omega) (by omega), lay0_row (by omega)]
theorem layH_part {w g : Nat} {h : hp_T} {b : Nat} (hK : g * w ≤ 120) (hb : b < 9) : hp_i (layH w g h) (136 + b) = fa_fill (fun _ => 0) (hp_i h (136 + b)) 9 := by
  unfold layH
  rw [ptH_in 9 hb, lay4_row (by omega), layA_row (by omega) hK g (Nat.le_refl _), lay1_row (by omega) (by omega), lay0_row (by omega)]
theorem layH_cty {w g : Nat} {h : hp_T} (w1 : 1 ≤ w) (w12 : w ≤ 12) (g1 : 1 ≤ g) (g10 : g ≤ 10) : cty (hp_i (layH w g h)) w g := by
  have hK : g * w ≤ 120 := Nat.le_trans (Nat.mul_le_mul g10 w12) (by decide)
  have h1 : hp_i (layH w g h) 1 = hp_i (lay0 w g h) 1 := by
    unfold layH
    rw [ptH_out 9 (by omega), lay4_row (by omega), layA_row (by omega) hK g (Nat.le_refl _), lay1_row (by omega) (by omega)]
  have hc : clay (hp_i (layH w g h)) w g (w * g) := by
    have := clay_A (w := w) (g := g) (h := lay1 (lay0 w g h)) g
    rw [Nat.mul_comm w g]
    intro c hc
    obtain ⟨a1, a2, a3⟩ := this c hc
    unfold layH
    rw [ptH_out 9 (by omega), ptH_out 9 (by omega), ptH_out 9 (by omega), lay4_row (by omega), lay4_row (by omega), lay4_row (by omega)]
    exact ⟨a1, a2, a3⟩
  exact ⟨⟨w1, w12, g1, g10⟩, by rw [h1]; rfl, by rw [h1]; rfl, by rw [h1]; rfl, hc⟩
