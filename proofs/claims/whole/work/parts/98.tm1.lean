/-! ===== the law: its loop, its beginning ===== -/
theorem nw_L7 : (Jvm.Cond.classLink "PlateCityLaw" (7 : Nat) "PlateCity") ∈ tt := mt_1 (List.mem_of_getElem? (i := 22) rfl) rfl
theorem nw_L10 : (Jvm.Cond.classLink "PlateCityLaw" (10 : Nat) "PlateCityModel") ∈ tt := mt_6 (List.mem_of_getElem? (i := 30) rfl) rfl
theorem ni_X11 : (Jvm.Cond.instantiable "PlateCity" (12 : Nat)) ∈ tt := mt_1 (List.mem_of_getElem? (i := 23) rfl) rfl
theorem ni_X12 : (Jvm.Cond.instantiable "PlateCityModel" (114 : Nat)) ∈ tt := mt_6 (List.mem_of_getElem? (i := 31) rfl) rfl
theorem and_31 (x : Int32) : ∃ c, c < 32 ∧ x &&& (31 : Int32) = nI c := by
  refine ⟨(x.toBitVec &&& 31#32).toNat, ?_, ?_⟩
  · rw [BitVec.toNat_and]
    exact Nat.lt_of_le_of_lt Nat.and_le_right (by decide)
  · refine Int32.toBitVec_inj.mp ?_
    show x.toBitVec &&& 31#32 = BitVec.ofNat 32 (x.toBitVec &&& 31#32).toNat
    rw [BitVec.ofNat_toNat]
    exact (BitVec.setWidth_eq _).symm
/-- the loop: r turns at most are left -/
theorem la_loop (E : gE) {b n : Nat} {f : Nat → Int32} (hn : n < 4000) {Q : hp_T → Prop} : ∀ (r i : Nat) (H : hp_T), rel9 H → i < 4100 → n < i + 7 * r + 7 → (∀ H2, hp_n H2 ≤ hp_n H + 4 * r → hp_s H2 ≤ hp_s H + 700 * r → Q H2) → gy (scX E b n f) E mL9 200 18 [(0, .ref b), (1, .ref (E.1 + 0)), (2, .ref (E.1 + 247)), (3, .int (nI i))] [] H (some (.int 1)) Q := by
  intro r
  induction r with
  | zero =>
    intro i H R hi hr hQ
    have e1 : nI n - (7 : Int32) < nI i := by
      rw [fa_lt, is_e (by rw [nI_toInt (by omega), show (7 : Int32).toInt = 7 from by decide]; omega) (by rw [nI_toInt (by omega), show (7 : Int32).toInt = 7 from by decide]; omega), nI_toInt (by omega), nI_toInt (by omega), show (7 : Int32).toInt = 7 from by decide]
      omega
    refine gy_st (f := fun _ kk => gx_iload_n 3 dL_law_18 rfl rfl kk) ?_
    refine gy_st (f := fun _ kk => gx_aload_n 0 dL_law_19 rfl rfl kk) ?_
    refine gy_st (f := fun _ kk => gx_xlen dL_law_20 kk) ?_
    refine gy_st (f := fun _ kk => gx_bipush (7) dL_law_21 rfl kk) ?_
    refine gy_st (f := fun _ kk => gx_isub dL_law_23 kk) ?_
    refine gy_st (f := fun _ kk => gx_icmp_gt 1200 dL_law_24 rfl (fun _ => kk) (fun q => absurd e1 q)) ?_
    refine gy_st (f := fun _ kk => gx_iconst (1) dL_law_1200 rfl kk) ?_
    exact ⟨H, gx_zretE dL_law_1201 rfl rfl rfl rfl, hQ H (Nat.le_refl _) (Nat.le_refl _)⟩
  | succ r ih =>
    intro i H R hi hr hQ
    have et : (nI n - (7 : Int32)).toInt = (n : Int) - 7 := by
      rw [is_e (by rw [nI_toInt (by omega), show (7 : Int32).toInt = 7 from by decide]; omega) (by rw [nI_toInt (by omega), show (7 : Int32).toInt = 7 from by decide]; omega), nI_toInt (by omega), show (7 : Int32).toInt = 7 from by decide]
    refine gy_st (f := fun _ kk => gx_iload_n 3 dL_law_18 rfl rfl kk) ?_
    refine gy_st (f := fun _ kk => gx_aload_n 0 dL_law_19 rfl rfl kk) ?_
    refine gy_st (f := fun _ kk => gx_xlen dL_law_20 kk) ?_
    refine gy_st (f := fun _ kk => gx_bipush (7) dL_law_21 rfl kk) ?_
    refine gy_st (f := fun _ kk => gx_isub dL_law_23 kk) ?_
    by_cases h : i + 7 ≤ n
    · have e1 : ¬ nI n - (7 : Int32) < nI i := by
        rw [fa_lt, et, nI_toInt (by omega)]
        omega
      have K : ∀ H2, rel9 H2 → hp_n H2 ≤ hp_n H + 4 → hp_s H2 ≤ hp_s H + 700 → gy (scX E b n f) E mL9 200 1194 [(0, .ref b), (1, .ref (E.1 + 0)), (2, .ref (E.1 + 247)), (3, .int (nI i))] [] H2 (some (.int 1)) Q := fun H2 R2 c2 s2 => by
        refine gy_st (f := fun _ kk => gx_iinc (7) dL_law_1194 rfl rfl (by decide) kk) ?_
        refine gy_st (f := fun _ kk => gx_goto 18 dL_law_1197 rfl kk) ?_
        show gy (scX E b n f) E mL9 200 18 [(0, .ref b), (1, .ref (E.1 + 0)), (2, .ref (E.1 + 247)), (3, .int (nI i + 7))] [] H2 (some (.int 1)) Q
        rw [ix_7]
        exact ih (i + 7) H2 R2 (by omega) (by omega) (fun H3 c3 s3 => hQ H3 (by omega) (by omega))
      refine gy_st (f := fun _ kk => gx_icmp_gt 1200 dL_law_24 rfl (fun q => absurd q e1) (fun _ => kk)) ?_
      refine gy_st (f := fun _ kk => gx_aload_n 0 dL_law_27 rfl rfl kk) ?_
      refine gy_st (f := fun _ kk => gx_iload_n 3 dL_law_28 rfl rfl kk) ?_
      refine gy_st (f := fun _ kk => gx_xald (j := i) dL_law_29 rfl (by omega) (by omega) kk) ?_
      refine gy_st (f := fun _ kk => gx_bipush (31) dL_law_30 rfl kk) ?_
      refine gy_st (f := fun _ kk => gx_iand dL_law_32 kk) ?_
      obtain ⟨c, hc, ec⟩ := and_31 (f i)
      rw [ec]
      rcases (show c = 0 ∨ c = 1 ∨ c = 2 ∨ c = 3 ∨ c = 4 ∨ c = 5 ∨ c = 6 ∨ c = 7 ∨ c = 8 ∨ c = 9 ∨ c = 10 ∨ c = 11 ∨ c = 12 ∨ c = 13 ∨ c = 14 ∨ c = 15 ∨ c = 16 ∨ c = 17 ∨ c = 18 ∨ c = 19 ∨ c = 20 ∨ c = 21 ∨ c = 22 ∨ c = 23 ∨ c = 24 ∨ c = 25 ∨ c = 26 ∨ c = 27 ∨ c = 28 ∨ c = 29 ∨ c = 30 ∨ c = 31 by omega) with rfl | rfl | rfl | rfl | rfl | rfl | rfl | rfl | rfl | rfl | rfl | rfl | rfl | rfl | rfl | rfl | rfl | rfl | rfl | rfl | rfl | rfl | rfl | rfl | rfl | rfl | rfl | rfl | rfl | rfl | rfl | rfl
      · exact gy_st (f := fun _ kk => gx_tableIn 172 dL_law_33 (by decide) (by decide) rfl (by decide) kk) (la_0 E hn h R K)
      · exact gy_st (f := fun _ kk => gx_tableIn 235 dL_law_33 (by decide) (by decide) rfl (by decide) kk) (la_1 E hn h R K)
      · exact gy_st (f := fun _ kk => gx_tableIn 258 dL_law_33 (by decide) (by decide) rfl (by decide) kk) (la_2 E hn h R K)
      · exact gy_st (f := fun _ kk => gx_tableIn 291 dL_law_33 (by decide) (by decide) rfl (by decide) kk) (la_3 E hn h R K)
      · exact gy_st (f := fun _ kk => gx_tableIn 344 dL_law_33 (by decide) (by decide) rfl (by decide) kk) (la_4 E hn h R K)
      · exact gy_st (f := fun _ kk => gx_tableIn 393 dL_law_33 (by decide) (by decide) rfl (by decide) kk) (la_5 E hn h R K)
      · exact gy_st (f := fun _ kk => gx_tableIn 426 dL_law_33 (by decide) (by decide) rfl (by decide) kk) (la_6 E hn h R K)
      · exact gy_st (f := fun _ kk => gx_tableIn 469 dL_law_33 (by decide) (by decide) rfl (by decide) kk) (la_7 E hn h R K)
      · exact gy_st (f := fun _ kk => gx_tableIn 502 dL_law_33 (by decide) (by decide) rfl (by decide) kk) (la_8 E hn h R K)
      · exact gy_st (f := fun _ kk => gx_tableIn 555 dL_law_33 (by decide) (by decide) rfl (by decide) kk) (la_9 E hn h R K)
      · exact gy_st (f := fun _ kk => gx_tableIn 598 dL_law_33 (by decide) (by decide) rfl (by decide) kk) (la_10 E hn h R K)
      · exact gy_st (f := fun _ kk => gx_tableIn 621 dL_law_33 (by decide) (by decide) rfl (by decide) kk) (la_11 E hn h R K)
      · exact gy_st (f := fun _ kk => gx_tableIn 644 dL_law_33 (by decide) (by decide) rfl (by decide) kk) (la_12 E hn h R K)
      · exact gy_st (f := fun _ kk => gx_tableIn 687 dL_law_33 (by decide) (by decide) rfl (by decide) kk) (la_13 E hn h R K)
      · exact gy_st (f := fun _ kk => gx_tableIn 710 dL_law_33 (by decide) (by decide) rfl (by decide) kk) (la_14 E hn h R K)
      · exact gy_st (f := fun _ kk => gx_tableIn 733 dL_law_33 (by decide) (by decide) rfl (by decide) kk) (la_15 E hn h R K)
      · exact gy_st (f := fun _ kk => gx_tableIn 756 dL_law_33 (by decide) (by decide) rfl (by decide) kk) (la_16 E hn h R K)
      · exact gy_st (f := fun _ kk => gx_tableIn 779 dL_law_33 (by decide) (by decide) rfl (by decide) kk) (la_17 E hn h R K)
      · exact gy_st (f := fun _ kk => gx_tableIn 802 dL_law_33 (by decide) (by decide) rfl (by decide) kk) (la_18 E hn h R K)
      · exact gy_st (f := fun _ kk => gx_tableIn 835 dL_law_33 (by decide) (by decide) rfl (by decide) kk) (la_19 E hn h R K)
      · exact gy_st (f := fun _ kk => gx_tableIn 868 dL_law_33 (by decide) (by decide) rfl (by decide) kk) (la_20 E hn h R K)
      · exact gy_st (f := fun _ kk => gx_tableIn 901 dL_law_33 (by decide) (by decide) rfl (by decide) kk) (la_21 E hn h R K)
      · exact gy_st (f := fun _ kk => gx_tableIn 914 dL_law_33 (by decide) (by decide) rfl (by decide) kk) (la_22 E hn h R K)
      · exact gy_st (f := fun _ kk => gx_tableIn 947 dL_law_33 (by decide) (by decide) rfl (by decide) kk) (la_23 E hn h R K)
      · exact gy_st (f := fun _ kk => gx_tableIn 970 dL_law_33 (by decide) (by decide) rfl (by decide) kk) (la_24 E hn h R K)
      · exact gy_st (f := fun _ kk => gx_tableIn 1004 dL_law_33 (by decide) (by decide) rfl (by decide) kk) (la_25 E hn h R K)
      · exact gy_st (f := fun _ kk => gx_tableIn 1017 dL_law_33 (by decide) (by decide) rfl (by decide) kk) (la_26 E hn h R K)
      · exact gy_st (f := fun _ kk => gx_tableIn 1050 dL_law_33 (by decide) (by decide) rfl (by decide) kk) (la_27 E hn h R K)
      · exact gy_st (f := fun _ kk => gx_tableIn 1073 dL_law_33 (by decide) (by decide) rfl (by decide) kk) (la_28 E hn h R K)
      · exact gy_st (f := fun _ kk => gx_tableIn 1148 dL_law_33 (by decide) (by decide) rfl (by decide) kk) (la_29 E hn h R K)
      · exact gy_st (f := fun _ kk => gx_tableIn 1171 dL_law_33 (by decide) (by decide) rfl (by decide) kk) (la_30 E hn h R K)
      · exact gy_st (f := fun _ kk => gx_tableOut 1194 dL_law_33 (by decide) rfl kk) (K H R (Nat.le_add_right _ _) (Nat.le_add_right _ _))
    · have e1 : nI n - (7 : Int32) < nI i := by
        rw [fa_lt, et, nI_toInt (by omega)]
        omega
      refine gy_st (f := fun _ kk => gx_icmp_gt 1200 dL_law_24 rfl (fun _ => kk) (fun q => absurd e1 q)) ?_
      refine gy_st (f := fun _ kk => gx_iconst (1) dL_law_1200 rfl kk) ?_
      exact ⟨H, gx_zretE dL_law_1201 rfl rfl rfl rfl, hQ H (Nat.le_add_right _ _) (Nat.le_add_right _ _)⟩
/-- the heap before the law -/
def he9 : hp_T := (0, 0, (fun _ => 99), (fun _ => 0), (fun _ _ => 0), (fun _ _ => 0), (fun _ _ => none))
theorem he_wS : wS 0 0 0 (wF wLa zF9 0) he9 := ⟨⟨rfl, rfl⟩, fun a q h => absurd h (Nat.not_lt_zero a), ⟨rfl, rfl, rfl⟩, fun _ _ => ⟨rfl, rfl⟩⟩
theorem la_all (E : gE) {b n : Nat} {f : Nat → Int32} (hn : n < 4000) : gy (scX E b n f) E mL9 200 0 [(0, .ref b)] [] he9 (some (.int 1)) (fun H => hp_n H ≤ 333 + 4 * 600 ∧ hp_s H ≤ 163077 + 700 * 600) := by
  have W0 := he_wS
  refine gy_st (f := fun _ kk => gx_new 11 (by decide) nw_L7 ni_X11 icX11 dL_law_0 kk) ?_
  rw [W0.1.1]
  have W1 : wS 1 12 0 (wF wLa zF9 0) (hp_new he9 11 0 (hp_N 11)) := w_new W0 (t := 11) (len := 0) rfl rfl rfl
  generalize hp_new he9 11 0 (hp_N 11) = h1 at W1 ⊢
  refine gy_st (f := fun _ kk => gx_dup dL_law_3 rfl kk) ?_
  obtain ⟨h2, k2, hA, e2, WA⟩ := n_X11_0 E (d := 199) (by decide) W1
  subst e2
  refine gy_st (f := fun _ kk => gx_callI cmX11_init rfl lkL_9 imX11_init rfl dL_law_4 (d1 := 199) (by decide) k2 rfl rfl (Nat.le_of_ble_eq_true rfl) kk) ?_
  have W2 := w_lay WA
  refine gy_st (f := fun _ kk => gx_astore_n 1 dL_law_7 rfl (by decide) kk) ?_
  refine gy_st (f := fun _ kk => gx_new 12 (by decide) nw_L10 ni_X12 icX12 dL_law_8 kk) ?_
  rw [W2.1.1]
  have W3 : wS 248 11904 109 (wF wLb (hp_i (layH 1 1 hA)) 0) (hp_new (layH 1 1 hA) 12 0 (hp_N 12)) := w_new W2 (t := 12) (len := 0) rfl rfl rfl
  generalize hp_new (layH 1 1 hA) 12 0 (hp_N 12) = h3 at W3 ⊢
  refine gy_st (f := fun _ kk => gx_dup dL_law_11 rfl kk) ?_
  obtain ⟨h4, k4, W4⟩ := n_X12_247 E (d := 199) (by decide) W3
  refine gy_st (f := fun _ kk => gx_callI cmX12_init rfl lkL_12 imX12_init rfl dL_law_12 (d1 := 199) (by decide) k4 rfl rfl (Nat.le_of_ble_eq_true rfl) kk) ?_
  refine gy_st (f := fun _ kk => gx_astore_n 2 dL_law_15 rfl (by decide) kk) ?_
  refine gy_st (f := fun _ kk => gx_iconst (0) dL_law_16 rfl kk) ?_
  refine gy_st (f := fun _ kk => gx_istore_n 3 dL_law_17 rfl (by decide) kk) ?_
  have R := ini_rel WA W4
  have c4 : hp_n h4 = 333 ∧ hp_s h4 = 163077 := W4.1
  exact la_loop E hn 600 0 h4 R (by decide) (by omega) (fun H2 c2 s2 => ⟨by omega, by omega⟩)
