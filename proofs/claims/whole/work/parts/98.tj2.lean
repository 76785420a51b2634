/-! ===== the relation holds at the beginning ===== -/
theorem ini_rel {hA h : hp_T} {s k s2 : Nat} (WA : wS 247 s k (wF wLa zF9 2) hA) (W : wS 333 s2 194 (wF wLb (hp_i (layH 1 1 hA)) 102) h) : rel9 h := by
  obtain ⟨lo, hi, z⟩ := ini_lo WA W
  have e150 : hp_i hA 150 = wF wLa zF9 2 150 := by rw [WA.2.2.1.2.1]
  have e158 : hp_i hA 158 = wF wLa zF9 2 158 := by rw [WA.2.2.1.2.1]
  have cl : ∀ x, x < 247 → x ≠ 1 → x ≠ 2 → x ≠ 6 → (x < 7 ∨ 130 ≤ x) → ¬ (131 ≤ x ∧ x ≤ 133) → (x < 136 ∨ 145 ≤ x) → hp_i h x = hp_i hA x := fun x h0 h1 h2 h3 h4 h5 h6 => (lo x h0).trans (layH_row (w := 1) (g := 1) (h := hA) (x := x) (by decide) ⟨h1, h2, h3, h4, h5, h6⟩)
  have cz : ∀ x, x < 247 → x ≠ 1 → (x < 7 ∨ 130 ≤ x) → x ≠ 150 → x ≠ 158 → hp_i h x = fun _ => 0 := fun x h0 h1 h4 h7 h8 => by
    by_cases q2 : x = 2 ∨ x = 6
    · rw [lo x h0, layH_26 (by decide) q2, z x h7 h8]
      exact fill_z 120
    · by_cases q3 : 131 ≤ x ∧ x ≤ 133
      · rw [lo x h0, layH_wind (by decide) (by omega), z x h7 h8]
        exact fill_z 121
      · by_cases q4 : x < 136 ∨ 145 ≤ x
        · exact (cl x h0 h1 (by omega) (by omega) h4 q3 q4).trans (z x h7 h8)
        · obtain ⟨b, hb, rfl⟩ : ∃ b, b < 9 ∧ x = 136 + b := ⟨x - 136, by omega, by omega⟩
          rw [lo (136 + b) h0, layH_part (by decide) hb, z (136 + b) h7 h8]
          exact fill_z 9
  have mz : ∀ o, 1 ≤ o → ¬ (2 ≤ o ∧ o ≤ 24) → hp_i h (247 + o) = fun _ => 0 := fun o h1 h2 => by
    rw [hi (247 + o) (by omega)]
    refine (wF_ne 102 (fun i hi => ?_)).trans rfl
    have := (by decide +kernel : ∀ i, i < 102 → (wLb.getD i (0, 0, 0)).1 = 247 ∨ (249 ≤ (wLb.getD i (0, 0, 0)).1 ∧ (wLb.getD i (0, 0, 0)).1 ≤ 271)) i hi
    omega
  have m0 : ∀ x, hp_i h 247 x = wF wLb zF9 102 247 x := fun x => by rw [hi 247 (by decide)]
  have mv : ∀ k, k < 23 → ∀ j, j < (wdT.getD k []).length → hp_i h (247 + (2 + k)) j = nI ((wdT.getD k []).getD j 0) := fun k hk j hj => by
    rw [hi (247 + (2 + k)) (by omega)]
    exact (by decide +kernel : ∀ k, k < 23 → ∀ j, j < (wdT.getD k []).length → wF wLb zF9 102 (247 + (2 + k)) j = nI ((wdT.getD k []).getD j 0)) k hk j hj
  have bz : ∀ r n K, 25 ≤ r → bnd (fun o => hp_i h (247 + o)) r n K := fun r n K hr c hc => ⟨0, Nat.zero_le _, by
    show hp_i h (247 + r) c = nI 0
    rw [mz r (by omega) (by omega)]
    rfl⟩
  refine ⟨fun o => hp_i h (247 + o), fun o => hp_l h (247 + o), 1, 1, 0, 0, 0, 0, ini_gr W, fun o ho => ⟨rfl, rfl⟩, ⟨⟨?_, ?_, ?_, ?_, ?_, ?_, ?_, ?_, ?_, fun b hb c hc => ?_⟩, ⟨bz 31 120 3 (by decide), bz 32 120 5 (by decide), bz 33 120 9999 (by decide), bz 34 120 1 (by decide), bz 35 120 1 (by decide), bz 36 6 9 (by decide), bz 40 9 100000000 (by decide), bz 45 81 1000 (by decide), bz 37 121 7 (by decide), bz 38 121 20 (by decide)⟩, ?_, fun u hu => ?_, fun u hu => ?_⟩, ⟨rE_0 ⟨?_, ?_⟩, rP_0 ⟨?_, ?_, ?_, ?_⟩⟩, ⟨rA_0 ⟨?_, ?_, ?_, ?_⟩, fun a h1 h2 => absurd h1 (by omega)⟩, ⟨⟨⟨?_, ?_, Nat.zero_le _⟩, ?_, fun i hi => absurd hi (Nat.not_lt_zero i), ⟨?_, ?_⟩, ?_⟩, mv⟩, ⟨?_, ⟨0, by decide, ?_⟩, ⟨0, by decide, ?_, ?_⟩, fun o ho => ⟨0, by decide, ?_⟩⟩, fun q => absurd ?_ q⟩
  · exact cty_r (fun x hx => lo x (by omega)) (layH_cty (w := 1) (g := 1) (h := hA) (by decide) (by decide) (by decide) (by decide))
  · exact ⟨⟨by decide, by decide, by decide, by decide⟩, (m0 42).trans (by decide +kernel), (m0 43).trans (by decide +kernel)⟩
  · exact (cz 2 (by decide) (by decide) (by decide) (by decide) (by decide)).trans (mz 34 (by decide) (by decide)).symm
  · exact (cz 3 (by decide) (by decide) (by decide) (by decide) (by decide)).trans (mz 31 (by decide) (by decide)).symm
  · exact (cz 4 (by decide) (by decide) (by decide) (by decide) (by decide)).trans (mz 32 (by decide) (by decide)).symm
  · exact (cz 5 (by decide) (by decide) (by decide) (by decide) (by decide)).trans (mz 33 (by decide) (by decide)).symm
  · exact (cz 6 (by decide) (by decide) (by decide) (by decide) (by decide)).trans (mz 35 (by decide) (by decide)).symm
  · exact (cz 130 (by decide) (by decide) (by decide) (by decide) (by decide)).trans (mz 36 (by decide) (by decide)).symm
  · exact (cz 134 (by decide) (by decide) (by decide) (by decide) (by decide)).trans (mz 40 (by decide) (by decide)).symm
  · show hp_i h (136 + b) c = hp_i h (247 + 45) (9 * b + c)
    rw [cz (136 + b) (by omega) (by omega) (by omega) (by omega) (by omega), mz 45 (by decide) (by decide)]
  · exact (cz 131 (by decide) (by decide) (by decide) (by decide) (by decide)).trans (mz 39 (by decide) (by decide)).symm
  · rw [cz 132 (by decide) (by decide) (by decide) (by decide) (by decide)]
    dsimp only
    rw [mz 37 (by decide) (by decide)]
    split <;> rfl
  · rw [cz 133 (by decide) (by decide) (by decide) (by decide) (by decide)]
    dsimp only
    rw [mz 38 (by decide) (by decide)]
    split <;> rfl
  · rw [cz 145 (by decide) (by decide) (by decide) (by decide) (by decide)]
  · exact (m0 54).trans (by decide +kernel)
  · rw [cz 243 (by decide) (by decide) (by decide) (by decide) (by decide)]
  · rw [cz 243 (by decide) (by decide) (by decide) (by decide) (by decide)]
  · exact (m0 60).trans (by decide +kernel)
  · exact (m0 112).trans (by decide +kernel)
  · rw [cl 158 (by decide) (by decide) (by decide) (by decide) (by decide) (by decide) (by decide), e158]
    decide +kernel
  · exact (m0 62).trans (by decide +kernel)
  · rw [cl 158 (by decide) (by decide) (by decide) (by decide) (by decide) (by decide) (by decide), e158]
    decide +kernel
  · exact (m0 68).trans (by decide +kernel)
  · rw [cl 150 (by decide) (by decide) (by decide) (by decide) (by decide) (by decide) (by decide), e150]
    decide +kernel
  · exact (m0 1).trans (by decide +kernel)
  · exact (cz 154 (by decide) (by decide) (by decide) (by decide) (by decide)).trans (mz 1 (by decide) (by decide)).symm
  · rw [cl 150 (by decide) (by decide) (by decide) (by decide) (by decide) (by decide) (by decide), e150]
    exact (by decide +kernel : wF wLa zF9 2 150 1 = wF wLb zF9 102 247 7).trans (m0 7).symm
  · rw [cl 150 (by decide) (by decide) (by decide) (by decide) (by decide) (by decide) (by decide), e150]
    exact (by decide +kernel : wF wLa zF9 2 150 2 = wF wLb zF9 102 247 8).trans (m0 8).symm
  · exact ⟨0, 0, 0, 0, (m0 2).trans (by decide +kernel), (m0 37).trans (by decide +kernel), (m0 39).trans (by decide +kernel), (m0 41).trans (by decide +kernel)⟩
  · rw [cz 174 (by decide) (by decide) (by decide) (by decide) (by decide)]
    exact ((m0 90).trans (by decide +kernel)).symm
  · exact (m0 91).trans (by decide +kernel)
  · rw [cz 174 (by decide) (by decide) (by decide) (by decide) (by decide)]
    rfl
  · exact (m0 92).trans (by decide +kernel)
  · show hp_i h (247 + 81) o = nI 0
    rw [mz 81 (by decide) (by decide)]
    rfl
  · exact (m0 90).trans (by decide +kernel)
