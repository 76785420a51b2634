/-! ===== class against reference: city; the wind; engines ===== -/
theorem itN_fill {f : mM → Nat → mM} {r : Nat} (hf : ∀ z j, f z j r = va_up (z r) j 0) (M : mM) : ∀ n, itN f M n r = fa_fill (fun _ => 0) (M r) n
  | 0 => (fa_fill_0 _ _).symm
  | n + 1 => by
    rw [itN_s, hf, itN_fill hf M n]
    funext k
    unfold va_up fa_fill
    by_cases e : k = n
    · rw [if_pos e, if_pos (show k < n + 1 by omega)]
    · rw [if_neg e]
      by_cases e2 : k < n
      · rw [if_pos e2, if_pos (show k < n + 1 by omega)]
      · rw [if_neg e2, if_neg (show ¬ k < n + 1 by omega)]
theorem cid_row {r : Nat} (h : r ≠ 45) (z : mM) (j : Nat) : cidB z j r = z r := up2_row h
theorem ciw_row {r : Nat} (h : r ≠ 39) (z : mM) (j : Nat) : ciwB z j r = z r := up2_row h
theorem cih_row {r : Nat} (h : r ≠ 34) (h2 : r ≠ 35) (z : mM) (j : Nat) : cihB z j r = z r := (up2_row h2).trans (up2_row h)
theorem cid_45 (z : mM) (j : Nat) : cidB z j 45 = va_up (z 45) j 0 := up2_r _ _ _ _
theorem ciw_39 (z : mM) (j : Nat) : ciwB z j 39 = va_up (z 39) j 0 := up2_r _ _ _ _
theorem cih_34 (z : mM) (j : Nat) : cihB z j 34 = va_up (z 34) j 0 := (up2_row (by decide)).trans (up2_r _ _ _ _)
theorem cih_35 (z : mM) (j : Nat) : cihB z j 35 = va_up (z 35) j 0 := by
  unfold cihB
  rw [up2_r, up2_row (by decide)]
theorem mci_row {a b : Int32} {M : mM} {x : Nat} (hx : x ≠ 0 ∧ x ≠ 34 ∧ x ≠ 35 ∧ x ≠ 39 ∧ x ≠ 45) : mciM a b M x = M x := by
  unfold mciM
  rw [up2_row hx.1, up2_row hx.1, up2_row hx.1, up2_row hx.1, up2_row hx.1, up2_row hx.1, itN_row (cid_row hx.2.2.2.2), itN_row (ciw_row hx.2.2.2.1), itN_row (cih_row hx.2.1 hx.2.2.1), up2_row hx.1, up2_row hx.1]
theorem mci_34 {a b : Int32} {M : mM} : mciM a b M 34 = fa_fill (fun _ => 0) (M 34) 120 := by
  unfold mciM
  rw [up2_row (by decide), up2_row (by decide), up2_row (by decide), up2_row (by decide), up2_row (by decide), up2_row (by decide), itN_row (cid_row (by decide)), itN_row (ciw_row (by decide)), itN_fill cih_34, up2_row (by decide), up2_row (by decide)]
theorem mci_35 {a b : Int32} {M : mM} : mciM a b M 35 = fa_fill (fun _ => 0) (M 35) 120 := by
  unfold mciM
  rw [up2_row (by decide), up2_row (by decide), up2_row (by decide), up2_row (by decide), up2_row (by decide), up2_row (by decide), itN_row (cid_row (by decide)), itN_row (ciw_row (by decide)), itN_fill cih_35, up2_row (by decide), up2_row (by decide)]
theorem mci_39 {a b : Int32} {M : mM} : mciM a b M 39 = fa_fill (fun _ => 0) (M 39) 121 := by
  unfold mciM
  rw [up2_row (by decide), up2_row (by decide), up2_row (by decide), up2_row (by decide), up2_row (by decide), up2_row (by decide), itN_row (cid_row (by decide)), itN_fill ciw_39, itN_row (cih_row (by decide) (by decide)), up2_row (by decide), up2_row (by decide)]
theorem mci_45 {a b : Int32} {M : mM} : mciM a b M 45 = fa_fill (fun _ => 0) (M 45) 81 := by
  unfold mciM
  rw [up2_row (by decide), up2_row (by decide), up2_row (by decide), up2_row (by decide), up2_row (by decide), up2_row (by decide), itN_fill cid_45, itN_row (ciw_row (by decide)), itN_row (cih_row (by decide) (by decide)), up2_row (by decide), up2_row (by decide)]
theorem mci_0 {a b : Int32} {M : mM} {k : Nat} : mciM a b M 0 k = if k = 112 then 0 else if k = 90 then 0 else if k = 60 then 0 else if k = 68 then -1 else if k = 62 then 0 else if k = 54 then 0 else if k = 43 then b else if k = 42 then a else M 0 k := by
  have h : (itN cidB (itN ciwB (itN cihB (up2 (up2 M 0 42 a) 0 43 b) 120) 121) 81) 0 = up2 (up2 M 0 42 a) 0 43 b 0 := by
    rw [itN_row (cid_row (by decide)), itN_row (ciw_row (by decide)), itN_row (cih_row (by decide) (by decide))]
  unfold mciM
  rw [up2_r, up2_r, up2_r, up2_r, up2_r, up2_r, h, up2_r, up2_r]
  rfl
/-- rows of the class behind city -/
theorem cit_row {w g : Nat} {h : hp_T} {x : Nat} (hx : x ≠ 145 ∧ x ≠ 158 ∧ x ≠ 174 ∧ x ≠ 243) : hp_i (citH w g h) x = hp_i (layH w g h) x := by
  show up2 (up2 (up2 (up2 (up2 (up2 (hp_i (layH w g h)) 145 0 0) 158 0 0) 158 1 (-1)) 174 0 0) 243 0 0) 243 1 0 x = _
  rw [up2_row hx.2.2.2, up2_row hx.2.2.2, up2_row hx.2.2.1, up2_row hx.2.1, up2_row hx.2.1, up2_row hx.1]
theorem cit_own {w g : Nat} {h : hp_T} {x k : Nat} (hK : g * w ≤ 120) (hx : x = 145 ∨ x = 158 ∨ x = 174 ∨ x = 243) : hp_i (citH w g h) x k = if x = 243 ∧ k = 1 then 0 else if x = 243 ∧ k = 0 then 0 else if x = 174 ∧ k = 0 then 0 else if x = 158 ∧ k = 1 then -1 else if x = 158 ∧ k = 0 then 0 else if x = 145 ∧ k = 0 then 0 else hp_i h x k := by
  rw [← layH_row (w := w) (g := g) (h := h) (x := x) hK (by omega)]
  rfl
theorem rC_city {h : hp_T} {M : mM} {w g w0 g0 : Nat} (w1 : 1 ≤ w) (w12 : w ≤ 12) (g1 : 1 ≤ g) (g10 : g ≤ 10) (R : rC (hp_i h) M w0 g0) : rC (hp_i (citH w g h)) (mciM (nI w) (nI g) M) w g := by
  obtain ⟨-, -, a1, a2, a3, a4, a5, a6, a7, a8⟩ := R
  have hK : g * w ≤ 120 := Nat.le_trans (Nat.mul_le_mul g10 w12) (by decide)
  refine ⟨cty_r (fun x hx => cit_row (by omega)) (layH_cty w1 w12 g1 g10), ⟨⟨w1, w12, g1, g10⟩, mci_0, mci_0⟩, ?_, ?_, ?_, ?_, ?_, ?_, ?_, fun b hb c hc => ?_⟩
  · rw [cit_row (by decide), layH_26 hK (by decide), mci_34, a1]
  · rw [cit_row (by decide), layH_row hK (by decide), mci_row (by decide), a2]
  · rw [cit_row (by decide), layH_row hK (by decide), mci_row (by decide), a3]
  · rw [cit_row (by decide), layH_row hK (by decide), mci_row (by decide), a4]
  · rw [cit_row (by decide), layH_26 hK (by decide), mci_35, a5]
  · rw [cit_row (by decide), layH_row hK (by decide), mci_row (by decide), a6]
  · rw [cit_row (by decide), layH_row hK (by decide), mci_row (by decide), a7]
  · rw [cit_row (by omega), layH_part hK hb, mci_45]
    exact (fa_fill_in hc).trans (fa_fill_in (f := fun _ => (0 : Int32)) (show 9 * b + c < 81 by omega)).symm
/-- the wind -/
def rW (F M : mM) : Prop := F 131 = M 39 ∧ relD M 37 (F 132) ∧ relD M 38 (F 133)
theorem mwS_c {M M1 : mM} (e : M1 39 = M 39) : ∀ k, mwS M1 k = mwS M k
  | 0 => rfl
  | k + 1 => by
    unfold mwS
    rw [e, mwS_c e k]
theorem rW_fr {F F1 M M1 : mM} (e : F1 131 = F 131 ∧ F1 132 = F 132 ∧ F1 133 = F 133) (e2 : M1 37 = M 37 ∧ M1 38 = M 38 ∧ M1 39 = M 39) (R : rW F M) : rW F1 M1 := by
  obtain ⟨a1, a2, a3⟩ := R
  refine ⟨by rw [e.1, e2.2.2, a1], fun u hu => ?_, fun u hu => ?_⟩
  · rw [mwS_c e2.2.2, e2.1, e.2.1]; exact a2 u hu
  · rw [mwS_c e2.2.2, e2.2.1, e.2.2]; exact a3 u hu
theorem mwS_0 {M : mM} (h : ∀ i, i ≤ 120 → M 39 i = 0) : ∀ u, u ≤ 120 → mwS M u = 0
  | 0, _ => rfl
  | u + 1, hu => (if_pos (h (u + 1) hu)).trans (mwS_0 h u (by omega))
theorem rW_city {h : hp_T} {M : mM} {w g : Nat} {a b : Int32} (hK : g * w ≤ 120) (R : rW (hp_i h) M) : rW (hp_i (citH w g h)) (mciM a b M) := by
  have h0 : ∀ u, u ≤ 120 → mwS (mciM a b M) u = 0 := mwS_0 (fun i hi => by rw [mci_39]; exact fa_fill_in (by omega))
  refine ⟨?_, fun u hu => ?_, fun u hu => ?_⟩
  · rw [cit_row (by decide), layH_wind hK (by decide), mci_39, R.1]
  · rw [h0 u hu, if_pos rfl, cit_row (by decide), layH_wind hK (by decide)]
    exact fa_fill_in (by omega)
  · rw [h0 u hu, if_pos rfl, cit_row (by decide), layH_wind hK (by decide)]
    exact fa_fill_in (by omega)
