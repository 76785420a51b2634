/-! ===== the law: what holds at its entry ===== -/
theorem ml_1 {w : Cond} (h : w ∈ tables_1_1) : w ∈ lw_tbl := List.mem_append_right _ (List.mem_append_left _ h)
theorem ml_2 {w : Cond} (h : w ∈ tables_1_2) : w ∈ lw_tbl := List.mem_append_right _ (List.mem_append_right _ (List.mem_append_left _ h))
theorem ml_3 {w : Cond} (h : w ∈ tables_1_3) : w ∈ lw_tbl := List.mem_append_right _ (List.mem_append_right _ (List.mem_append_right _ (List.mem_append_left _ h)))
theorem ml_4 {w : Cond} (h : w ∈ tables_1_4) : w ∈ lw_tbl := List.mem_append_right _ (List.mem_append_right _ (List.mem_append_right _ (List.mem_append_right _ (List.mem_append_left _ h))))
theorem ml_5 {w : Cond} (h : w ∈ tables_1_5) : w ∈ lw_tbl := List.mem_append_right _ (List.mem_append_right _ (List.mem_append_right _ (List.mem_append_right _ (List.mem_append_right _ (List.mem_append_left _ h)))))
theorem ml_6 {w : Cond} (h : w ∈ tables_1_6) : w ∈ lw_tbl := List.mem_append_right _ (List.mem_append_right _ (List.mem_append_right _ (List.mem_append_right _ (List.mem_append_right _ (List.mem_append_right _ (List.mem_append_left _ h))))))
theorem ml_7 {w : Cond} (h : w ∈ tables_1_7) : w ∈ lw_tbl := List.mem_append_right _ (List.mem_append_right _ (List.mem_append_right _ (List.mem_append_right _ (List.mem_append_right _ (List.mem_append_right _ (List.mem_append_right _ (List.mem_append_left _ h)))))))
theorem ml_8 {w : Cond} (h : w ∈ tables_1_8) : w ∈ lw_tbl := List.mem_append_right _ (List.mem_append_right _ (List.mem_append_right _ (List.mem_append_right _ (List.mem_append_right _ (List.mem_append_right _ (List.mem_append_right _ (List.mem_append_right _ (List.mem_append_left _ h))))))))
theorem ml_9 {w : Cond} (h : w ∈ tables_1_9) : w ∈ lw_tbl := List.mem_append_right _ (List.mem_append_right _ (List.mem_append_right _ (List.mem_append_right _ (List.mem_append_right _ (List.mem_append_right _ (List.mem_append_right _ (List.mem_append_right _ (List.mem_append_right _ (h)))))))))
abbrev fl9 : List Cond := flatC (Jvm.Cond.and given_1 narrow_1)
theorem en_s0 {b : Nat} {s : State} (hs : ∀ c ∈ fl9, c.before #[Value.ref b] s = true) (hts : ∀ w ∈ lw_tbl, w.before #[Value.ref b] s = true) {A : Nat → Prop} (hA : ∀ a : Nat, a < s.heap.size → ¬ A a) : ∃ t : Nat, va_Z "PlateCity" (gf_sn 0) "[I" (.ref t) A s s.heap ∧ va_T .int t (gf_sl 0) (fun j => .int ((gf_sc 0).getD j 0)) A s s.heap := by
  obtain ⟨t, ht, hT⟩ := va_Tof (tm := .static "PlateCity" "ROW_STEP" "[I") (ty := .int) (N := 8) (f := fun j => .int ((gf_sc 0).getD j 0)) (A := A) (by decide) (hs _ (List.mem_of_getElem? (i := 5) rfl)) (va_eqt (hs _ (List.mem_of_getElem? (i := 6) rfl))) (fun j hj => va_eqt (hs _ (List.mem_of_getElem? ((by decide +kernel : ∀ j, j < 8 → fl9[7 + j]? = some (Cond.eq (.elem (.static "PlateCity" "ROW_STEP" "[I") (.int (Int32.ofNat j))) (.int ((gf_sc 0).getD j 0)))) j hj)))) hA
  exact ⟨t, va_Zof (hts _ (ml_3 (List.mem_of_getElem? (i := 0) rfl))) (hts _ (ml_1 (List.mem_of_getElem? (i := 1) rfl))) ht hA, hT⟩
theorem en_s1 {b : Nat} {s : State} (hs : ∀ c ∈ fl9, c.before #[Value.ref b] s = true) (hts : ∀ w ∈ lw_tbl, w.before #[Value.ref b] s = true) {A : Nat → Prop} (hA : ∀ a : Nat, a < s.heap.size → ¬ A a) : ∃ t : Nat, va_Z "PlateCity" (gf_sn 1) "[I" (.ref t) A s s.heap ∧ va_T .int t (gf_sl 1) (fun j => .int ((gf_sc 1).getD j 0)) A s s.heap := by
  obtain ⟨t, ht, hT⟩ := va_Tof (tm := .static "PlateCity" "COLUMN_STEP" "[I") (ty := .int) (N := 8) (f := fun j => .int ((gf_sc 1).getD j 0)) (A := A) (by decide) (hs _ (List.mem_of_getElem? (i := 16) rfl)) (va_eqt (hs _ (List.mem_of_getElem? (i := 17) rfl))) (fun j hj => va_eqt (hs _ (List.mem_of_getElem? ((by decide +kernel : ∀ j, j < 8 → fl9[18 + j]? = some (Cond.eq (.elem (.static "PlateCity" "COLUMN_STEP" "[I") (.int (Int32.ofNat j))) (.int ((gf_sc 1).getD j 0)))) j hj)))) hA
  exact ⟨t, va_Zof (hts _ (ml_3 (List.mem_of_getElem? (i := 2) rfl))) (hts _ (ml_1 (List.mem_of_getElem? (i := 1) rfl))) ht hA, hT⟩
theorem en_s2 {b : Nat} {s : State} (hs : ∀ c ∈ fl9, c.before #[Value.ref b] s = true) (hts : ∀ w ∈ lw_tbl, w.before #[Value.ref b] s = true) {A : Nat → Prop} (hA : ∀ a : Nat, a < s.heap.size → ¬ A a) : ∃ t : Nat, va_Z "PlateCity" (gf_sn 2) "[I" (.ref t) A s s.heap ∧ va_T .int t (gf_sl 2) (fun j => .int ((gf_sc 2).getD j 0)) A s s.heap := by
  obtain ⟨t, ht, hT⟩ := va_Tof (tm := .static "PlateCity" "RESIST" "[I") (ty := .int) (N := 4) (f := fun j => .int ((gf_sc 2).getD j 0)) (A := A) (by decide) (hs _ (List.mem_of_getElem? (i := 27) rfl)) (va_eqt (hs _ (List.mem_of_getElem? (i := 28) rfl))) (fun j hj => va_eqt (hs _ (List.mem_of_getElem? ((by decide +kernel : ∀ j, j < 4 → fl9[29 + j]? = some (Cond.eq (.elem (.static "PlateCity" "RESIST" "[I") (.int (Int32.ofNat j))) (.int ((gf_sc 2).getD j 0)))) j hj)))) hA
  exact ⟨t, va_Zof (hts _ (ml_3 (List.mem_of_getElem? (i := 80) rfl))) (hts _ (ml_1 (List.mem_of_getElem? (i := 1) rfl))) ht hA, hT⟩
theorem en_s3 {b : Nat} {s : State} (hs : ∀ c ∈ fl9, c.before #[Value.ref b] s = true) (hts : ∀ w ∈ lw_tbl, w.before #[Value.ref b] s = true) {A : Nat → Prop} (hA : ∀ a : Nat, a < s.heap.size → ¬ A a) : ∃ t : Nat, va_Z "PlateCity" (gf_sn 3) "[I" (.ref t) A s s.heap ∧ va_T .int t (gf_sl 3) (fun j => .int ((gf_sc 3).getD j 0)) A s s.heap := by
  obtain ⟨t, ht, hT⟩ := va_Tof (tm := .static "PlateCity" "FUEL" "[I") (ty := .int) (N := 4) (f := fun j => .int ((gf_sc 3).getD j 0)) (A := A) (by decide) (hs _ (List.mem_of_getElem? (i := 39) rfl)) (va_eqt (hs _ (List.mem_of_getElem? (i := 40) rfl))) (fun j hj => va_eqt (hs _ (List.mem_of_getElem? ((by decide +kernel : ∀ j, j < 4 → fl9[41 + j]? = some (Cond.eq (.elem (.static "PlateCity" "FUEL" "[I") (.int (Int32.ofNat j))) (.int ((gf_sc 3).getD j 0)))) j hj)))) hA
  exact ⟨t, va_Zof (hts _ (ml_5 (List.mem_of_getElem? (i := 73) rfl))) (hts _ (ml_1 (List.mem_of_getElem? (i := 1) rfl))) ht hA, hT⟩
theorem en_co {b : Nat} {s : State} (hs : ∀ c ∈ fl9, c.before #[Value.ref b] s = true) (hts : ∀ w ∈ lw_tbl, w.before #[Value.ref b] s = true) {A : Nat → Prop} (hA : ∀ a : Nat, a < s.heap.size → ¬ A a) : va_Z "java/lang/String" "COMPACT_STRINGS" "Z" (.int 1) A s s.heap := va_Zof (hts _ (ml_3 (List.mem_of_getElem? (i := 157) rfl))) (hts _ (ml_1 (List.mem_of_getElem? (i := 14) rfl))) (va_eqi (hs _ (List.mem_of_getElem? (i := 33) rfl))) hA
theorem en_fo {b : Nat} {s : State} (hs : ∀ c ∈ fl9, c.before #[Value.ref b] s = true) (hts : ∀ w ∈ lw_tbl, w.before #[Value.ref b] s = true) {A : Nat → Prop} (hA : ∀ a : Nat, a < s.heap.size → ¬ A a) : va_Zq "jdk/internal/util/Preconditions" "SIOOBE_FORMATTER" "Ljava/util/function/BiFunction;" A s s.heap := va_Zqof (hts _ (ml_3 (List.mem_of_getElem? (i := 200) rfl))) (hts _ (ml_1 (List.mem_of_getElem? (i := 18) rfl))) (hs _ (List.mem_of_getElem? (i := 34) rfl)) hA
theorem en_tx {b : Nat} {s : State} (hs : ∀ c ∈ fl9, c.before #[Value.ref b] s = true) (hts : ∀ w ∈ lw_tbl, w.before #[Value.ref b] s = true) {A : Nat → Prop} (hA : ∀ a : Nat, a < s.heap.size → ¬ A a) : ∃ adK adV : Nat → Nat, vk_S 2 gf_tl gf_tb adK adV A s s.heap ∧ ∀ i : Nat, i < 2 → (Term.string "PlateCity$Reader" (gf_ti i)).eval #[Value.ref b] s none [] s = some (.ref (adK i)) := by
  refine vk_Sof (N := 2) (tm := fun i => .string "PlateCity$Reader" (gf_ti i)) (len := gf_tl) (byt := gf_tb) (by decide) ?_ ?_ ?_ ?_ ?_ ?_ hA
  · exact (fun i hi => by
      rcases (show i = 0 ∨ i = 1 by omega) with rfl | rfl
      · exact hs _ (List.mem_of_getElem? (i := 45) rfl)
      · exact hs _ (List.mem_of_getElem? (i := 62) rfl))
  · exact (fun i hi => by
      rcases (show i = 0 ∨ i = 1 by omega) with rfl | rfl
      · exact hs _ (List.mem_of_getElem? (i := 46) rfl)
      · exact hs _ (List.mem_of_getElem? (i := 63) rfl))
  · exact (fun i hi => by
      rcases (show i = 0 ∨ i = 1 by omega) with rfl | rfl
      · exact hs _ (List.mem_of_getElem? (i := 47) rfl)
      · exact hs _ (List.mem_of_getElem? (i := 64) rfl))
  · exact (fun i hi => by
      rcases (show i = 0 ∨ i = 1 by omega) with rfl | rfl
      · exact hs _ (List.mem_of_getElem? (i := 48) rfl)
      · exact hs _ (List.mem_of_getElem? (i := 65) rfl))
  · intro i hi j hj
    rcases (show i = 0 ∨ i = 1 by omega) with rfl | rfl
    · exact hs _ (List.mem_of_getElem? ((by decide +kernel : ∀ j, j < 13 → fl9[49 + j]? = some (Cond.eq (.elem (.field (.string "PlateCity$Reader" 75) "java/lang/String" "value" "[B") (.int (Int32.ofNat j))) (.int ((gf_tb.getD 0 []).getD j 0)))) j hj))
    · exact hs _ (List.mem_of_getElem? ((by decide +kernel : ∀ j, j < 121 → fl9[66 + j]? = some (Cond.eq (.elem (.field (.string "PlateCity$Reader" 92) "java/lang/String" "value" "[B") (.int (Int32.ofNat j))) (.int ((gf_tb.getD 1 []).getD j 0)))) j hj))
  · intro i j hi hj hij
    rcases (show i = 0 ∨ i = 1 by omega) with rfl | rfl
    · rcases (show j = 1 by omega) with rfl
      exact Or.inl (hs _ (List.mem_of_getElem? (i := 187) rfl))
    · rcases (show j = 0 by omega) with rfl
      exact Or.inr (hs _ (List.mem_of_getElem? (i := 187) rfl))
theorem en_tr {b : Nat} {s : State} (hts : ∀ w ∈ lw_tbl, w.before #[Value.ref b] s = true) {ad : Nat → Nat} (h : ∀ i : Nat, i < 2 → (Term.string "PlateCity$Reader" (gf_ti i)).eval #[Value.ref b] s none [] s = some (.ref (ad i))) : ∀ i : Nat, i < 2 → vk_R "PlateCity$Reader" (gf_ti i) (gf_tx i) (ad i) s := by
  intro i hi
  have h1 := h i hi
  rcases (show i = 0 ∨ i = 1 by omega) with rfl | rfl
  · exact vk_R.of (hts _ (ml_3 (List.mem_of_getElem? (i := 143) rfl))) h1
  · exact vk_R.of (hts _ (ml_3 (List.mem_of_getElem? (i := 238) rfl))) h1
theorem vk_S2 {len : List Nat} {byt : List (List Int32)} {a1 v1 a2 v2 : Nat → Nat} {A : Nat → Prop} {U : State} {H : Heap} (ha : ∀ i, i < 2 → a2 i = a1 i) (hv : ∀ i, i < 2 → v2 i = v1 i) (h : vk_S 2 len byt a1 v1 A U H) : vk_S 2 len byt a2 v2 A U H := by
  refine ⟨fun i hi => ?_, fun i j hi hj e => h.2 i j hi hj ?_⟩
  · rw [ha i hi, hv i hi]
    exact h.1 i hi
  · rw [← ha i hi, ← ha j hj]
    exact e
theorem en_nm {b : Nat} {s : State} (hts : ∀ w ∈ lw_tbl, w.before #[Value.ref b] s = true) : ∀ q ∈ gf_nm, va_Nw (.methodLinkNest q.1 q.2.1 q.2.2.1 q.2.2.2) s := List.forall_mem_cons.mpr ⟨va_Nw.of rfl (hts _ (ml_1 (List.mem_of_getElem? (i := 118) rfl))), List.forall_mem_cons.mpr ⟨va_Nw.of rfl (hts _ (ml_1 (List.mem_of_getElem? (i := 147) rfl))), List.forall_mem_cons.mpr ⟨va_Nw.of rfl (hts _ (ml_1 (List.mem_of_getElem? (i := 204) rfl))), List.forall_mem_cons.mpr ⟨va_Nw.of rfl (hts _ (ml_2 (List.mem_of_getElem? (i := 8) rfl))), List.forall_mem_cons.mpr ⟨va_Nw.of rfl (hts _ (ml_2 (List.mem_of_getElem? (i := 170) rfl))), List.forall_mem_cons.mpr ⟨va_Nw.of rfl (hts _ (ml_1 (List.mem_of_getElem? (i := 32) rfl))), List.forall_mem_cons.mpr ⟨va_Nw.of rfl (hts _ (ml_4 (List.mem_of_getElem? (i := 166) rfl))), List.forall_mem_cons.mpr ⟨va_Nw.of rfl (hts _ (ml_3 (List.mem_of_getElem? (i := 3) rfl))), List.forall_mem_cons.mpr ⟨va_Nw.of rfl (hts _ (ml_4 (List.mem_of_getElem? (i := 233) rfl))), (fun _ h => absurd h List.not_mem_nil)⟩⟩⟩⟩⟩⟩⟩⟩⟩
theorem en_nf {b : Nat} {s : State} (hts : ∀ w ∈ lw_tbl, w.before #[Value.ref b] s = true) : ∀ q ∈ gf_nf, va_Nw (.fieldLinkNest q.1 q.2.1 q.2.2.1 q.2.2.2.1 q.2.2.2.2.1 q.2.2.2.2.2) s := List.forall_mem_cons.mpr ⟨va_Nw.of rfl (hts _ (ml_2 (List.mem_of_getElem? (i := 239) rfl))), List.forall_mem_cons.mpr ⟨va_Nw.of rfl (hts _ (ml_3 (List.mem_of_getElem? (i := 1) rfl))), List.forall_mem_cons.mpr ⟨va_Nw.of rfl (hts _ (ml_5 (List.mem_of_getElem? (i := 91) rfl))), List.forall_mem_cons.mpr ⟨va_Nw.of rfl (hts _ (ml_5 (List.mem_of_getElem? (i := 72) rfl))), (fun _ h => absurd h List.not_mem_nil)⟩⟩⟩⟩
theorem en_oa {b : Nat} {s : State} (hts : ∀ w ∈ lw_tbl, w.before #[Value.ref b] s = true) : oa (.object RX10) s ∧ oa (.array .int) s ∧ oa (.array .long) s := ⟨hts _ (ml_1 (List.mem_of_getElem? (i := 209) rfl)), hts _ (ml_1 (List.mem_of_getElem? (i := 37) rfl)), hts _ (ml_2 (List.mem_of_getElem? (i := 175) rfl))⟩
theorem en_ca {b : Nat} {s : State} (hts : ∀ w ∈ lw_tbl, w.before #[Value.ref b] s = true) : va_Nw (.castable "[I" "java/lang/Cloneable") s := va_Nw.of rfl (hts _ (ml_4 (List.mem_of_getElem? (i := 94) rfl)))
theorem en_tt {b : Nat} {s : State} (hts : ∀ w ∈ lw_tbl, w.before #[Value.ref b] s = true) : ∀ w ∈ tt, w.before #[Value.ref b] s = true := fun w hw => hts w (List.mem_filter.mp hw).1
theorem ni_all : ∀ c, c < 13 → Cond.instantiable (hp_C c) (hp_N c) ∈ tt := by
  intro c hc
  rcases (show c = 0 ∨ c = 1 ∨ c = 2 ∨ c = 3 ∨ c = 4 ∨ c = 5 ∨ c = 6 ∨ c = 7 ∨ c = 8 ∨ c = 9 ∨ c = 10 ∨ c = 11 ∨ c = 12 by omega) with rfl | rfl | rfl | rfl | rfl | rfl | rfl | rfl | rfl | rfl | rfl | rfl | rfl
  · exact ni_X0
  · exact ni_X1
  · exact ni_X2
  · exact ni_X3
  · exact ni_X4
  · exact ni_X5
  · exact ni_X6
  · exact ni_X7
  · exact ni_X8
  · exact ni_X9
  · exact f_rdNI
  · exact ni_X11
  · exact ni_X12
theorem en_D {b : Nat} {s : State} (hts : ∀ w ∈ lw_tbl, w.before #[Value.ref b] s = true) : ∃ D : va_G, ∀ c, c < 13 → u_Kn s (hp_C c) (hp_TT c) (hp_N c) (D.1 c) (D.2 c) := by
  have h0 : ∀ c : Nat, ∃ q : ClassId × (Nat → Nat), c < 13 → u_Kn s (hp_C c) (hp_TT c) (hp_N c) q.1 q.2 := fun c => by
    by_cases hc : c < 13
    · obtain ⟨cC, iS, h⟩ := u_known (ws := tt) (en_tt hts) (hp_in c hc) (en_tt hts _ (ni_all c hc))
      exact ⟨(cC, iS), fun _ => h⟩
    · exact ⟨(0, fun _ => 0), fun h => absurd h hc⟩
  obtain ⟨f, hf⟩ := Classical.axiomOfChoice h0
  exact ⟨(fun c => (f c).1, fun c => (f c).2), hf⟩
theorem en_ac {b : Nat} {s : State} (hts : ∀ w ∈ lw_tbl, w.before #[Value.ref b] s = true) {ty : FieldType} (h : Cond.arrayClass ty ∈ tt) : ∃ c : ClassId, ArrOfT s c ty ∧ s.vm.findClass ("[" ++ ty.toString) = some c := by
  obtain ⟨c, k, comp, h1, h2, h3⟩ := Cond.arrayClass_spec (en_tt hts _ h)
  exact ⟨c, fun n z => ⟨(fun _ hx => by cases hx), k, h2, comp, h3⟩, h1⟩
theorem en_ao {s : State} {ty : FieldType} (h : oa (.array ty) s) : ∃ c : ClassId, ArrOfT s c (.array ty) ∧ s.vm.findClass ("[" ++ (FieldType.array ty).toString) = some c := by
  obtain ⟨comp, c, k, -, h4, h2, h3⟩ := mr_oa h
  exact ⟨c, fun n z => ⟨(fun _ hx => by cases hx), k, h2, comp, h3⟩, h4⟩
theorem en_at {b : Nat} {s : State} (hs : ∀ c ∈ fl9, c.before #[Value.ref b] s = true) (hts : ∀ w ∈ lw_tbl, w.before #[Value.ref b] s = true) : ∃ E : gE, E.1 = s.heap.size ∧ va_K E.2.1 vwCl (hp_tys E) s ∧ gf_St E s := by
  have hA : ∀ a : Nat, a < s.heap.size → ¬ (fun q : Nat => s.heap.size ≤ q) a := fun a h1 h2 => absurd h1 (Nat.not_lt.mpr h2)
  obtain ⟨D, hD⟩ := en_D hts
  obtain ⟨c13, x13, y13⟩ := en_ac hts na_char
  obtain ⟨c14, x14, y14⟩ := en_ac hts na_int
  obtain ⟨c15, x15, y15⟩ := en_ac hts na_long
  obtain ⟨c16, x16, y16⟩ := en_ac hts na_boolean
  obtain ⟨o1, o2, o3⟩ := en_oa hts
  obtain ⟨p17, c17, k17, r1, -, r2, r3, r4⟩ := Cond.arrayOver_spec o1
  obtain ⟨c18, x18, y18⟩ := en_ao o2
  obtain ⟨c19, x19, y19⟩ := en_ao o3
  obtain ⟨t0, a0, b0⟩ := en_s0 hs hts hA
  obtain ⟨t1, a1, b1⟩ := en_s1 hs hts hA
  obtain ⟨t2, a2, b2⟩ := en_s2 hs hts hA
  obtain ⟨t3, a3, b3⟩ := en_s3 hs hts hA
  obtain ⟨adK, adV, g1, g2⟩ := en_tx hs hts hA
  have g3 := en_tr hts g2
  refine ⟨(s.heap.size, D, (fun t => match t with | 13 => c13 | 14 => c14 | 15 => c15 | 16 => c16 | 17 => c17 | 18 => c18 | _ => c19), (fun k => match k with | 0 => t0 | 1 => t1 | 2 => t2 | 3 => t3 | 4 => adK 0 | 5 => adK 1 | 6 => adV 0 | _ => adV 1)), rfl, ⟨fun c q hq => ?_, fun k q hk => ?_⟩, ⟨fun k hk => ?_, vk_S2 (fun i hi => ?_) (fun i hi => ?_) g1, fun k hk => ?_, en_co hs hts hA, en_nm hts, en_nf hts, o1, o2, o3, en_fo hs hts hA, en_ca hts⟩⟩
  · have hc : c < 13 := (List.getElem?_eq_some_iff.mp hq).1
    rw [hp_cl c hc] at hq
    cases hq
    exact hD c hc
  · have hk7 : k < 7 := (List.getElem?_eq_some_iff.mp hk).1
    rcases (show k = 0 ∨ k = 1 ∨ k = 2 ∨ k = 3 ∨ k = 4 ∨ k = 5 ∨ k = 6 by omega) with rfl | rfl | rfl | rfl | rfl | rfl | rfl
    · cases hk
      exact ⟨x13, y13⟩
    · cases hk
      exact ⟨x14, y14⟩
    · cases hk
      exact ⟨x15, y15⟩
    · cases hk
      exact ⟨x16, y16⟩
    · cases hk
      exact ⟨fun n z => ⟨(fun _ hx => by cases hx), k17, r2, p17, r3⟩, k17, p17, r2, r3, r1, r4⟩
    · cases hk
      exact ⟨x18, y18⟩
    · cases hk
      exact ⟨x19, y19⟩
  · rcases (show k = 0 ∨ k = 1 ∨ k = 2 ∨ k = 3 by omega) with rfl | rfl | rfl | rfl
    · exact ⟨a0, b0⟩
    · exact ⟨a1, b1⟩
    · exact ⟨a2, b2⟩
    · exact ⟨a3, b3⟩
  · rcases (show i = 0 ∨ i = 1 by omega) with rfl | rfl <;> rfl
  · rcases (show i = 0 ∨ i = 1 by omega) with rfl | rfl <;> rfl
  · rcases (show k = 0 ∨ k = 1 by omega) with rfl | rfl
    · exact g3 0 (by decide)
    · exact g3 1 (by decide)
