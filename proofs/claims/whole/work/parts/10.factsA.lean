/-! ===== facts over the tables: methods, fields, calls ===== -/
theorem mp_in {y : MethodName} {n : Nat} (h : (y, n) ∈ lw_privs) (g : goodWord (Cond.selects y.cls y y) = true) : Cond.selects y.cls y y ∈ tt := List.mem_filter.mpr ⟨List.mem_append_left _ (List.mem_map.mpr ⟨(y, n), h, rfl⟩), g⟩
theorem icX0 : Cond.initialized RX0 ∈ tt := mt_1 (List.mem_of_getElem? (i := 5) rfl) rfl
theorem nhX0 : RX0 ≠ "java/lang/invoke/MethodHandle" ∧ RX0 ≠ "java/lang/invoke/VarHandle" := by decide +kernel
theorem icX1 : Cond.initialized RX1 ∈ tt := mt_1 (List.mem_of_getElem? (i := 2) rfl) rfl
theorem nhX1 : RX1 ≠ "java/lang/invoke/MethodHandle" ∧ RX1 ≠ "java/lang/invoke/VarHandle" := by decide +kernel
theorem icX2 : Cond.initialized RX2 ∈ tt := mt_1 (List.mem_of_getElem? (i := 9) rfl) rfl
theorem nhX2 : RX2 ≠ "java/lang/invoke/MethodHandle" ∧ RX2 ≠ "java/lang/invoke/VarHandle" := by decide +kernel
theorem icX3 : Cond.initialized RX3 ∈ tt := mt_1 (List.mem_of_getElem? (i := 3) rfl) rfl
theorem nhX3 : RX3 ≠ "java/lang/invoke/MethodHandle" ∧ RX3 ≠ "java/lang/invoke/VarHandle" := by decide +kernel
theorem icX4 : Cond.initialized RX4 ∈ tt := mt_1 (List.mem_of_getElem? (i := 10) rfl) rfl
theorem nhX4 : RX4 ≠ "java/lang/invoke/MethodHandle" ∧ RX4 ≠ "java/lang/invoke/VarHandle" := by decide +kernel
theorem icX5 : Cond.initialized RX5 ∈ tt := mt_1 (List.mem_of_getElem? (i := 8) rfl) rfl
theorem nhX5 : RX5 ≠ "java/lang/invoke/MethodHandle" ∧ RX5 ≠ "java/lang/invoke/VarHandle" := by decide +kernel
theorem icX6 : Cond.initialized RX6 ∈ tt := mt_1 (List.mem_of_getElem? (i := 7) rfl) rfl
theorem nhX6 : RX6 ≠ "java/lang/invoke/MethodHandle" ∧ RX6 ≠ "java/lang/invoke/VarHandle" := by decide +kernel
theorem icX7 : Cond.initialized RX7 ∈ tt := mt_1 (List.mem_of_getElem? (i := 6) rfl) rfl
theorem nhX7 : RX7 ≠ "java/lang/invoke/MethodHandle" ∧ RX7 ≠ "java/lang/invoke/VarHandle" := by decide +kernel
theorem icX8 : Cond.initialized RX8 ∈ tt := mt_1 (List.mem_of_getElem? (i := 11) rfl) rfl
theorem nhX8 : RX8 ≠ "java/lang/invoke/MethodHandle" ∧ RX8 ≠ "java/lang/invoke/VarHandle" := by decide +kernel
theorem icX9 : Cond.initialized RX9 ∈ tt := mt_1 (List.mem_of_getElem? (i := 4) rfl) rfl
theorem nhX9 : RX9 ≠ "java/lang/invoke/MethodHandle" ∧ RX9 ≠ "java/lang/invoke/VarHandle" := by decide +kernel
theorem icX10 : Cond.initialized RX10 ∈ tt := mt_1 (List.mem_of_getElem? (i := 20) rfl) rfl
theorem nhX10 : RX10 ≠ "java/lang/invoke/MethodHandle" ∧ RX10 ≠ "java/lang/invoke/VarHandle" := by decide +kernel
theorem icX11 : Cond.initialized RX11 ∈ tt := mt_1 (List.mem_of_getElem? (i := 1) rfl) rfl
theorem nhX11 : RX11 ≠ "java/lang/invoke/MethodHandle" ∧ RX11 ≠ "java/lang/invoke/VarHandle" := by decide +kernel
theorem icX12 : Cond.initialized RX12 ∈ tt := mt_1 (List.mem_of_getElem? (i := 13) rfl) rfl
theorem nhX12 : RX12 ≠ "java/lang/invoke/MethodHandle" ∧ RX12 ≠ "java/lang/invoke/VarHandle" := by decide +kernel
theorem icJ11 : Cond.initialized RJ11 ∈ tt := mt_1 (List.mem_of_getElem? (i := 19) rfl) rfl
theorem nhJ11 : RJ11 ≠ "java/lang/invoke/MethodHandle" ∧ RJ11 ≠ "java/lang/invoke/VarHandle" := by decide +kernel
theorem icJ9 : Cond.initialized RJ9 ∈ tt := mt_1 (List.mem_of_getElem? (i := 16) rfl) rfl
theorem nhJ9 : RJ9 ≠ "java/lang/invoke/MethodHandle" ∧ RJ9 ≠ "java/lang/invoke/VarHandle" := by decide +kernel
theorem icJ0 : Cond.initialized RJ0 ∈ tt := mt_1 (List.mem_of_getElem? (i := 14) rfl) rfl
theorem nhJ0 : RJ0 ≠ "java/lang/invoke/MethodHandle" ∧ RJ0 ≠ "java/lang/invoke/VarHandle" := by decide +kernel
theorem icJ1 : Cond.initialized RJ1 ∈ tt := mt_1 (List.mem_of_getElem? (i := 15) rfl) rfl
theorem nhJ1 : RJ1 ≠ "java/lang/invoke/MethodHandle" ∧ RJ1 ≠ "java/lang/invoke/VarHandle" := by decide +kernel
theorem icJ2 : Cond.initialized RJ2 ∈ tt := mt_1 (List.mem_of_getElem? (i := 17) rfl) rfl
theorem nhJ2 : RJ2 ≠ "java/lang/invoke/MethodHandle" ∧ RJ2 ≠ "java/lang/invoke/VarHandle" := by decide +kernel
theorem icJ10 : Cond.initialized RJ10 ∈ tt := mt_1 (List.mem_of_getElem? (i := 21) rfl) rfl
theorem nhJ10 : RJ10 ≠ "java/lang/invoke/MethodHandle" ∧ RJ10 ≠ "java/lang/invoke/VarHandle" := by decide +kernel
theorem icJ7 : Cond.initialized RJ7 ∈ tt := mt_1 (List.mem_of_getElem? (i := 12) rfl) rfl
theorem nhJ7 : RJ7 ≠ "java/lang/invoke/MethodHandle" ∧ RJ7 ≠ "java/lang/invoke/VarHandle" := by decide +kernel
theorem icJ3 : Cond.initialized RJ3 ∈ tt := mt_1 (List.mem_of_getElem? (i := 18) rfl) rfl
theorem nhJ3 : RJ3 ≠ "java/lang/invoke/MethodHandle" ∧ RJ3 ≠ "java/lang/invoke/VarHandle" := by decide +kernel
theorem icL : Cond.initialized RL ∈ tt := mt_1 (List.mem_of_getElem? (i := 0) rfl) rfl
theorem nhL : RL ≠ "java/lang/invoke/MethodHandle" ∧ RL ≠ "java/lang/invoke/VarHandle" := by decide +kernel
abbrev mX0_init : gM := (yX0_init, cX0_init, 1, none, true)
theorem cmX0_init : gf_CM mX0_init 0 := ⟨icX0, mt_1 (List.mem_of_getElem? (i := 206) rfl) rfl, ⟨nhX0.1, nhX0.2, by decide +kernel⟩, Nat.le_of_ble_eq_true rfl⟩
theorem imX0_init : Cond.instanceMethod yX0_init ∈ tt := mt_1 (List.mem_of_getElem? (i := 205) rfl) rfl
abbrev mX0_forget : gM := (yX0_forget, cX0_forget, 1, none, false)
theorem cmX0_forget : gf_CM mX0_forget 0 := ⟨icX0, mt_3 (List.mem_of_getElem? (i := 66) rfl) rfl, ⟨nhX0.1, nhX0.2, by decide +kernel⟩, Nat.le_of_ble_eq_true rfl⟩
theorem imX0_forget : Cond.instanceMethod yX0_forget ∈ tt := mt_3 (List.mem_of_getElem? (i := 64) rfl) rfl
theorem seX0_forget : Cond.selects (yX0_forget).cls yX0_forget yX0_forget ∈ tt := mt_3 (List.mem_of_getElem? (i := 65) rfl) rfl
abbrev mX0_full : gM := (yX0_full, cX0_full, 1, (some (Jvm.ClassFile.FieldType.boolean)), false)
theorem cmX0_full : gf_CM mX0_full 0 := ⟨icX0, mt_3 (List.mem_of_getElem? (i := 131) rfl) rfl, ⟨nhX0.1, nhX0.2, by decide +kernel⟩, Nat.le_of_ble_eq_true rfl⟩
theorem imX0_full : Cond.instanceMethod yX0_full ∈ tt := mt_3 (List.mem_of_getElem? (i := 129) rfl) rfl
theorem seX0_full : Cond.selects (yX0_full).cls yX0_full yX0_full ∈ tt := mt_3 (List.mem_of_getElem? (i := 130) rfl) rfl
abbrev mX0_addTerms : gM := (yX0_addTerms, cX0_addTerms, 3, (some (Jvm.ClassFile.FieldType.int)), false)
theorem cmX0_addTerms : gf_CM mX0_addTerms 2 := ⟨icX0, mt_4 (List.mem_of_getElem? (i := 134) rfl) rfl, ⟨nhX0.1, nhX0.2, by decide +kernel⟩, Nat.le_of_ble_eq_true rfl⟩
theorem imX0_addTerms : Cond.instanceMethod yX0_addTerms ∈ tt := mt_4 (List.mem_of_getElem? (i := 132) rfl) rfl
theorem seX0_addTerms : Cond.selects (yX0_addTerms).cls yX0_addTerms yX0_addTerms ∈ tt := mt_4 (List.mem_of_getElem? (i := 133) rfl) rfl
abbrev mX0_addPolicy : gM := (yX0_addPolicy, cX0_addPolicy, 4, (some (Jvm.ClassFile.FieldType.int)), false)
theorem cmX0_addPolicy : gf_CM mX0_addPolicy 3 := ⟨icX0, mt_4 (List.mem_of_getElem? (i := 157) rfl) rfl, ⟨nhX0.1, nhX0.2, by decide +kernel⟩, Nat.le_of_ble_eq_true rfl⟩
theorem imX0_addPolicy : Cond.instanceMethod yX0_addPolicy ∈ tt := mt_4 (List.mem_of_getElem? (i := 155) rfl) rfl
theorem seX0_addPolicy : Cond.selects (yX0_addPolicy).cls yX0_addPolicy yX0_addPolicy ∈ tt := mt_4 (List.mem_of_getElem? (i := 156) rfl) rfl
abbrev mX0_addVoid : gM := (yX0_addVoid, cX0_addVoid, 2, (some (Jvm.ClassFile.FieldType.int)), false)
theorem cmX0_addVoid : gf_CM mX0_addVoid 1 := ⟨icX0, mt_4 (List.mem_of_getElem? (i := 170) rfl) rfl, ⟨nhX0.1, nhX0.2, by decide +kernel⟩, Nat.le_of_ble_eq_true rfl⟩
theorem imX0_addVoid : Cond.instanceMethod yX0_addVoid ∈ tt := mt_4 (List.mem_of_getElem? (i := 168) rfl) rfl
theorem seX0_addVoid : Cond.selects (yX0_addVoid).cls yX0_addVoid yX0_addVoid ∈ tt := mt_4 (List.mem_of_getElem? (i := 169) rfl) rfl
abbrev mX0_add : gM := (yX0_add, cX0_add, 2, (some (Jvm.ClassFile.FieldType.boolean)), false)
theorem cmX0_add : gf_CM mX0_add 1 := ⟨icX0, mt_4 (List.mem_of_getElem? (i := 138) rfl) rfl, ⟨nhX0.1, nhX0.2, by decide +kernel⟩, Nat.le_of_ble_eq_true rfl⟩
theorem imX0_add : Cond.instanceMethod yX0_add ∈ tt := mt_4 (List.mem_of_getElem? (i := 137) rfl) rfl
theorem seX0_add : Cond.selects (yX0_add).cls yX0_add yX0_add ∈ tt := mp_in (n := 8) (List.mem_of_getElem? (i := 18) (by decide +kernel)) rfl
abbrev mX0_mayBeVoid : gM := (yX0_mayBeVoid, cX0_mayBeVoid, 2, (some (Jvm.ClassFile.FieldType.boolean)), false)
theorem cmX0_mayBeVoid : gf_CM mX0_mayBeVoid 1 := ⟨icX0, mt_4 (List.mem_of_getElem? (i := 165) rfl) rfl, ⟨nhX0.1, nhX0.2, by decide +kernel⟩, Nat.le_of_ble_eq_true rfl⟩
theorem imX0_mayBeVoid : Cond.instanceMethod yX0_mayBeVoid ∈ tt := mt_4 (List.mem_of_getElem? (i := 163) rfl) rfl
theorem seX0_mayBeVoid : Cond.selects (yX0_mayBeVoid).cls yX0_mayBeVoid yX0_mayBeVoid ∈ tt := mt_4 (List.mem_of_getElem? (i := 164) rfl) rfl
abbrev mX0_isPolicy : gM := (yX0_isPolicy, cX0_isPolicy, 2, (some (Jvm.ClassFile.FieldType.boolean)), false)
theorem cmX0_isPolicy : gf_CM mX0_isPolicy 1 := ⟨icX0, mt_4 (List.mem_of_getElem? (i := 205) rfl) rfl, ⟨nhX0.1, nhX0.2, by decide +kernel⟩, Nat.le_of_ble_eq_true rfl⟩
theorem imX0_isPolicy : Cond.instanceMethod yX0_isPolicy ∈ tt := mt_4 (List.mem_of_getElem? (i := 203) rfl) rfl
theorem seX0_isPolicy : Cond.selects (yX0_isPolicy).cls yX0_isPolicy yX0_isPolicy ∈ tt := mt_4 (List.mem_of_getElem? (i := 204) rfl) rfl
abbrev mX0_isTerms : gM := (yX0_isTerms, cX0_isTerms, 2, (some (Jvm.ClassFile.FieldType.boolean)), false)
theorem cmX0_isTerms : gf_CM mX0_isTerms 1 := ⟨icX0, mt_4 (List.mem_of_getElem? (i := 201) rfl) rfl, ⟨nhX0.1, nhX0.2, by decide +kernel⟩, Nat.le_of_ble_eq_true rfl⟩
theorem imX0_isTerms : Cond.instanceMethod yX0_isTerms ∈ tt := mt_4 (List.mem_of_getElem? (i := 199) rfl) rfl
theorem seX0_isTerms : Cond.selects (yX0_isTerms).cls yX0_isTerms yX0_isTerms ∈ tt := mt_4 (List.mem_of_getElem? (i := 200) rfl) rfl
abbrev mX0_knownAt : gM := (yX0_knownAt, cX0_knownAt, 3, (some (Jvm.ClassFile.FieldType.boolean)), false)
theorem cmX0_knownAt : gf_CM mX0_knownAt 2 := ⟨icX0, mt_4 (List.mem_of_getElem? (i := 192) rfl) rfl, ⟨nhX0.1, nhX0.2, by decide +kernel⟩, Nat.le_of_ble_eq_true rfl⟩
theorem imX0_knownAt : Cond.instanceMethod yX0_knownAt ∈ tt := mt_4 (List.mem_of_getElem? (i := 190) rfl) rfl
theorem seX0_knownAt : Cond.selects (yX0_knownAt).cls yX0_knownAt yX0_knownAt ∈ tt := mt_4 (List.mem_of_getElem? (i := 191) rfl) rfl
abbrev mX0_horizon : gM := (yX0_horizon, cX0_horizon, 1, (some (Jvm.ClassFile.FieldType.int)), false)
theorem cmX0_horizon : gf_CM mX0_horizon 0 := ⟨icX0, mt_4 (List.mem_of_getElem? (i := 188) rfl) rfl, ⟨nhX0.1, nhX0.2, by decide +kernel⟩, Nat.le_of_ble_eq_true rfl⟩
theorem imX0_horizon : Cond.instanceMethod yX0_horizon ∈ tt := mt_4 (List.mem_of_getElem? (i := 186) rfl) rfl
theorem seX0_horizon : Cond.selects (yX0_horizon).cls yX0_horizon yX0_horizon ∈ tt := mt_4 (List.mem_of_getElem? (i := 187) rfl) rfl
abbrev mX1_init : gM := (yX1_init, cX1_init, 1, none, true)
theorem cmX1_init : gf_CM mX1_init 0 := ⟨icX1, mt_1 (List.mem_of_getElem? (i := 34) rfl) rfl, ⟨nhX1.1, nhX1.2, by decide +kernel⟩, Nat.le_of_ble_eq_true rfl⟩
theorem imX1_init : Cond.instanceMethod yX1_init ∈ tt := mt_1 (List.mem_of_getElem? (i := 33) rfl) rfl
abbrev mX1_lay : gM := (yX1_lay, cX1_lay, 5, none, false)
theorem cmX1_lay : gf_CM mX1_lay 2 := ⟨icX1, mt_2 (List.mem_of_getElem? (i := 234) rfl) rfl, ⟨nhX1.1, nhX1.2, by decide +kernel⟩, Nat.le_of_ble_eq_true rfl⟩
theorem imX1_lay : Cond.instanceMethod yX1_lay ∈ tt := mt_2 (List.mem_of_getElem? (i := 232) rfl) rfl
theorem seX1_lay : Cond.selects (yX1_lay).cls yX1_lay yX1_lay ∈ tt := mt_2 (List.mem_of_getElem? (i := 233) rfl) rfl
abbrev mX1_layCell : gM := (yX1_layCell, cX1_layCell, 8, none, false)
theorem cmX1_layCell : gf_CM mX1_layCell 2 := ⟨icX1, mt_2 (List.mem_of_getElem? (i := 238) rfl) rfl, ⟨nhX1.1, nhX1.2, by decide +kernel⟩, Nat.le_of_ble_eq_true rfl⟩
theorem imX1_layCell : Cond.instanceMethod yX1_layCell ∈ tt := mt_2 (List.mem_of_getElem? (i := 237) rfl) rfl
theorem seX1_layCell : Cond.selects (yX1_layCell).cls yX1_layCell yX1_layCell ∈ tt := mp_in (n := 17) (List.mem_of_getElem? (i := 0) (by decide +kernel)) rfl
abbrev mX1_has : gM := (yX1_has, cX1_has, 2, (some (Jvm.ClassFile.FieldType.boolean)), false)
theorem cmX1_has : gf_CM mX1_has 1 := ⟨icX1, mt_3 (List.mem_of_getElem? (i := 78) rfl) rfl, ⟨nhX1.1, nhX1.2, by decide +kernel⟩, Nat.le_of_ble_eq_true rfl⟩
theorem imX1_has : Cond.instanceMethod yX1_has ∈ tt := mt_3 (List.mem_of_getElem? (i := 76) rfl) rfl
theorem seX1_has : Cond.selects (yX1_has).cls yX1_has yX1_has ∈ tt := mt_3 (List.mem_of_getElem? (i := 77) rfl) rfl
abbrev mX1_hasHouse : gM := (yX1_hasHouse, cX1_hasHouse, 2, (some (Jvm.ClassFile.FieldType.boolean)), false)
theorem cmX1_hasHouse : gf_CM mX1_hasHouse 1 := ⟨icX1, mt_4 (List.mem_of_getElem? (i := 151) rfl) rfl, ⟨nhX1.1, nhX1.2, by decide +kernel⟩, Nat.le_of_ble_eq_true rfl⟩
theorem imX1_hasHouse : Cond.instanceMethod yX1_hasHouse ∈ tt := mt_4 (List.mem_of_getElem? (i := 149) rfl) rfl
theorem seX1_hasHouse : Cond.selects (yX1_hasHouse).cls yX1_hasHouse yX1_hasHouse ∈ tt := mt_4 (List.mem_of_getElem? (i := 150) rfl) rfl
abbrev mX1_build : gM := (yX1_build, cX1_build, 5, none, false)
theorem cmX1_build : gf_CM mX1_build 4 := ⟨icX1, mt_3 (List.mem_of_getElem? (i := 84) rfl) rfl, ⟨nhX1.1, nhX1.2, by decide +kernel⟩, Nat.le_of_ble_eq_true rfl⟩
theorem imX1_build : Cond.instanceMethod yX1_build ∈ tt := mt_3 (List.mem_of_getElem? (i := 82) rfl) rfl
theorem seX1_build : Cond.selects (yX1_build).cls yX1_build yX1_build ∈ tt := mt_3 (List.mem_of_getElem? (i := 83) rfl) rfl
abbrev mX1_tellWind : gM := (yX1_tellWind, cX1_tellWind, 5, none, false)
theorem cmX1_tellWind : gf_CM mX1_tellWind 3 := ⟨icX1, mt_3 (List.mem_of_getElem? (i := 100) rfl) rfl, ⟨nhX1.1, nhX1.2, by decide +kernel⟩, Nat.le_of_ble_eq_true rfl⟩
theorem imX1_tellWind : Cond.instanceMethod yX1_tellWind ∈ tt := mt_3 (List.mem_of_getElem? (i := 98) rfl) rfl
theorem seX1_tellWind : Cond.selects (yX1_tellWind).cls yX1_tellWind yX1_tellWind ∈ tt := mt_3 (List.mem_of_getElem? (i := 99) rfl) rfl
abbrev mX1_resistOf : gM := (yX1_resistOf, cX1_resistOf, 2, (some (Jvm.ClassFile.FieldType.int)), false)
theorem cmX1_resistOf : gf_CM mX1_resistOf 1 := ⟨icX1, mt_5 (List.mem_of_getElem? (i := 90) rfl) rfl, ⟨nhX1.1, nhX1.2, by decide +kernel⟩, Nat.le_of_ble_eq_true rfl⟩
theorem imX1_resistOf : Cond.instanceMethod yX1_resistOf ∈ tt := mt_5 (List.mem_of_getElem? (i := 88) rfl) rfl
theorem seX1_resistOf : Cond.selects (yX1_resistOf).cls yX1_resistOf yX1_resistOf ∈ tt := mt_5 (List.mem_of_getElem? (i := 89) rfl) rfl
abbrev mX1_fuelOf : gM := (yX1_fuelOf, cX1_fuelOf, 2, (some (Jvm.ClassFile.FieldType.int)), false)
theorem cmX1_fuelOf : gf_CM mX1_fuelOf 1 := ⟨icX1, mt_5 (List.mem_of_getElem? (i := 71) rfl) rfl, ⟨nhX1.1, nhX1.2, by decide +kernel⟩, Nat.le_of_ble_eq_true rfl⟩
theorem imX1_fuelOf : Cond.instanceMethod yX1_fuelOf ∈ tt := mt_5 (List.mem_of_getElem? (i := 69) rfl) rfl
theorem seX1_fuelOf : Cond.selects (yX1_fuelOf).cls yX1_fuelOf yX1_fuelOf ∈ tt := mt_5 (List.mem_of_getElem? (i := 70) rfl) rfl
abbrev mX1_apart : gM := (yX1_apart, cX1_apart, 3, (some (Jvm.ClassFile.FieldType.int)), false)
theorem cmX1_apart : gf_CM mX1_apart 2 := ⟨icX1, mt_5 (List.mem_of_getElem? (i := 55) rfl) rfl, ⟨nhX1.1, nhX1.2, by decide +kernel⟩, Nat.le_of_ble_eq_true rfl⟩
theorem imX1_apart : Cond.instanceMethod yX1_apart ∈ tt := mt_5 (List.mem_of_getElem? (i := 53) rfl) rfl
theorem seX1_apart : Cond.selects (yX1_apart).cls yX1_apart yX1_apart ∈ tt := mt_5 (List.mem_of_getElem? (i := 54) rfl) rfl
abbrev mX1_plugNear : gM := (yX1_plugNear, cX1_plugNear, 3, (some (Jvm.ClassFile.FieldType.boolean)), false)
theorem cmX1_plugNear : gf_CM mX1_plugNear 1 := ⟨icX1, mt_5 (List.mem_of_getElem? (i := 51) rfl) rfl, ⟨nhX1.1, nhX1.2, by decide +kernel⟩, Nat.le_of_ble_eq_true rfl⟩
theorem imX1_plugNear : Cond.instanceMethod yX1_plugNear ∈ tt := mt_5 (List.mem_of_getElem? (i := 49) rfl) rfl
theorem seX1_plugNear : Cond.selects (yX1_plugNear).cls yX1_plugNear yX1_plugNear ∈ tt := mt_5 (List.mem_of_getElem? (i := 50) rfl) rfl
abbrev mX1_housesAround : gM := (yX1_housesAround, cX1_housesAround, 5, (some (Jvm.ClassFile.FieldType.int)), false)
theorem cmX1_housesAround : gf_CM mX1_housesAround 1 := ⟨icX1, mt_4 (List.mem_of_getElem? (i := 220) rfl) rfl, ⟨nhX1.1, nhX1.2, by decide +kernel⟩, Nat.le_of_ble_eq_true rfl⟩
theorem imX1_housesAround : Cond.instanceMethod yX1_housesAround ∈ tt := mt_4 (List.mem_of_getElem? (i := 218) rfl) rfl
theorem seX1_housesAround : Cond.selects (yX1_housesAround).cls yX1_housesAround yX1_housesAround ∈ tt := mt_4 (List.mem_of_getElem? (i := 219) rfl) rfl
abbrev mX1_many : gM := (yX1_many, cX1_many, 4, (some (Jvm.ClassFile.FieldType.int)), false)
theorem cmX1_many : gf_CM mX1_many 1 := ⟨icX1, mt_6 (List.mem_of_getElem? (i := 29) rfl) rfl, ⟨nhX1.1, nhX1.2, by decide +kernel⟩, Nat.le_of_ble_eq_true rfl⟩
theorem imX1_many : Cond.instanceMethod yX1_many ∈ tt := mt_6 (List.mem_of_getElem? (i := 27) rfl) rfl
theorem seX1_many : Cond.selects (yX1_many).cls yX1_many yX1_many ∈ tt := mt_6 (List.mem_of_getElem? (i := 28) rfl) rfl
abbrev mX2_init : gM := (yX2_init, cX2_init, 4, none, true)
theorem cmX2_init : gf_CM mX2_init 3 := ⟨icX2, mt_2 (List.mem_of_getElem? (i := 130) rfl) rfl, ⟨nhX2.1, nhX2.2, by decide +kernel⟩, Nat.le_of_ble_eq_true rfl⟩
theorem imX2_init : Cond.instanceMethod yX2_init ∈ tt := mt_2 (List.mem_of_getElem? (i := 129) rfl) rfl
abbrev mX2_settleAll : gM := (yX2_settleAll, cX2_settleAll, 4, none, false)
theorem cmX2_settleAll : gf_CM mX2_settleAll 1 := ⟨icX2, mt_5 (List.mem_of_getElem? (i := 120) rfl) rfl, ⟨nhX2.1, nhX2.2, by decide +kernel⟩, Nat.le_of_ble_eq_true rfl⟩
theorem imX2_settleAll : Cond.instanceMethod yX2_settleAll ∈ tt := mt_5 (List.mem_of_getElem? (i := 118) rfl) rfl
theorem seX2_settleAll : Cond.selects (yX2_settleAll).cls yX2_settleAll yX2_settleAll ∈ tt := mt_5 (List.mem_of_getElem? (i := 119) rfl) rfl
abbrev mX2_settleHouse : gM := (yX2_settleHouse, cX2_settleHouse, 5, none, false)
theorem cmX2_settleHouse : gf_CM mX2_settleHouse 2 := ⟨icX2, mt_5 (List.mem_of_getElem? (i := 125) rfl) rfl, ⟨nhX2.1, nhX2.2, by decide +kernel⟩, Nat.le_of_ble_eq_true rfl⟩
theorem imX2_settleHouse : Cond.instanceMethod yX2_settleHouse ∈ tt := mt_5 (List.mem_of_getElem? (i := 124) rfl) rfl
theorem seX2_settleHouse : Cond.selects (yX2_settleHouse).cls yX2_settleHouse yX2_settleHouse ∈ tt := mp_in (n := 10) (List.mem_of_getElem? (i := 35) (by decide +kernel)) rfl
abbrev mX2_isBeside : gM := (yX2_isBeside, cX2_isBeside, 4, (some (Jvm.ClassFile.FieldType.boolean)), false)
theorem cmX2_isBeside : gf_CM mX2_isBeside 2 := ⟨icX2, mt_5 (List.mem_of_getElem? (i := 139) rfl) rfl, ⟨nhX2.1, nhX2.2, by decide +kernel⟩, Nat.le_of_ble_eq_true rfl⟩
theorem imX2_isBeside : Cond.instanceMethod yX2_isBeside ∈ tt := mt_5 (List.mem_of_getElem? (i := 138) rfl) rfl
theorem seX2_isBeside : Cond.selects (yX2_isBeside).cls yX2_isBeside yX2_isBeside ∈ tt := mp_in (n := 10) (List.mem_of_getElem? (i := 37) (by decide +kernel)) rfl
abbrev mX2_payInTurn : gM := (yX2_payInTurn, cX2_payInTurn, 5, (some (Jvm.ClassFile.FieldType.int)), false)
theorem cmX2_payInTurn : gf_CM mX2_payInTurn 2 := ⟨icX2, mt_5 (List.mem_of_getElem? (i := 135) rfl) rfl, ⟨nhX2.1, nhX2.2, by decide +kernel⟩, Nat.le_of_ble_eq_true rfl⟩
theorem imX2_payInTurn : Cond.instanceMethod yX2_payInTurn ∈ tt := mt_5 (List.mem_of_getElem? (i := 134) rfl) rfl
theorem seX2_payInTurn : Cond.selects (yX2_payInTurn).cls yX2_payInTurn yX2_payInTurn ∈ tt := mp_in (n := 10) (List.mem_of_getElem? (i := 36) (by decide +kernel)) rfl
abbrev mX2_payByParts : gM := (yX2_payByParts, cX2_payByParts, 4, (some (Jvm.ClassFile.FieldType.int)), false)
theorem cmX2_payByParts : gf_CM mX2_payByParts 1 := ⟨icX2, mt_5 (List.mem_of_getElem? (i := 144) rfl) rfl, ⟨nhX2.1, nhX2.2, by decide +kernel⟩, Nat.le_of_ble_eq_true rfl⟩
theorem imX2_payByParts : Cond.instanceMethod yX2_payByParts ∈ tt := mt_5 (List.mem_of_getElem? (i := 143) rfl) rfl
theorem seX2_payByParts : Cond.selects (yX2_payByParts).cls yX2_payByParts yX2_payByParts ∈ tt := mp_in (n := 10) (List.mem_of_getElem? (i := 38) (by decide +kernel)) rfl
abbrev mX2_payFloors : gM := (yX2_payFloors, cX2_payFloors, 7, (some (Jvm.ClassFile.FieldType.int)), false)
theorem cmX2_payFloors : gf_CM mX2_payFloors 2 := ⟨icX2, mt_5 (List.mem_of_getElem? (i := 148) rfl) rfl, ⟨nhX2.1, nhX2.2, by decide +kernel⟩, Nat.le_of_ble_eq_true rfl⟩
theorem imX2_payFloors : Cond.instanceMethod yX2_payFloors ∈ tt := mt_5 (List.mem_of_getElem? (i := 147) rfl) rfl
theorem seX2_payFloors : Cond.selects (yX2_payFloors).cls yX2_payFloors yX2_payFloors ∈ tt := mp_in (n := 10) (List.mem_of_getElem? (i := 39) (by decide +kernel)) rfl
abbrev mX2_payRests : gM := (yX2_payRests, cX2_payRests, 5, none, false)
theorem cmX2_payRests : gf_CM mX2_payRests 1 := ⟨icX2, mt_5 (List.mem_of_getElem? (i := 153) rfl) rfl, ⟨nhX2.1, nhX2.2, by decide +kernel⟩, Nat.le_of_ble_eq_true rfl⟩
theorem imX2_payRests : Cond.instanceMethod yX2_payRests ∈ tt := mt_5 (List.mem_of_getElem? (i := 152) rfl) rfl
theorem seX2_payRests : Cond.selects (yX2_payRests).cls yX2_payRests yX2_payRests ∈ tt := mp_in (n := 10) (List.mem_of_getElem? (i := 40) (by decide +kernel)) rfl
abbrev mX3_init : gM := (yX3_init, cX3_init, 1, none, true)
theorem cmX3_init : gf_CM mX3_init 0 := ⟨icX3, mt_1 (List.mem_of_getElem? (i := 120) rfl) rfl, ⟨nhX3.1, nhX3.2, by decide +kernel⟩, Nat.le_of_ble_eq_true rfl⟩
theorem imX3_init : Cond.instanceMethod yX3_init ∈ tt := mt_1 (List.mem_of_getElem? (i := 119) rfl) rfl
abbrev mX3_add : gM := (yX3_add, cX3_add, 5, none, false)
theorem cmX3_add : gf_CM mX3_add 4 := ⟨icX3, mt_3 (List.mem_of_getElem? (i := 119) rfl) rfl, ⟨nhX3.1, nhX3.2, by decide +kernel⟩, Nat.le_of_ble_eq_true rfl⟩
theorem imX3_add : Cond.instanceMethod yX3_add ∈ tt := mt_3 (List.mem_of_getElem? (i := 117) rfl) rfl
theorem seX3_add : Cond.selects (yX3_add).cls yX3_add yX3_add ∈ tt := mt_3 (List.mem_of_getElem? (i := 118) rfl) rfl
abbrev mX4_init : gM := (yX4_init, cX4_init, 1, none, true)
theorem cmX4_init : gf_CM mX4_init 0 := ⟨icX4, mt_2 (List.mem_of_getElem? (i := 172) rfl) rfl, ⟨nhX4.1, nhX4.2, by decide +kernel⟩, Nat.le_of_ble_eq_true rfl⟩
theorem imX4_init : Cond.instanceMethod yX4_init ∈ tt := mt_2 (List.mem_of_getElem? (i := 171) rfl) rfl
abbrev mX4_work : gM := (yX4_work, cX4_work, 5, none, false)
theorem cmX4_work : gf_CM mX4_work 2 := ⟨icX4, mt_5 (List.mem_of_getElem? (i := 194) rfl) rfl, ⟨nhX4.1, nhX4.2, by decide +kernel⟩, Nat.le_of_ble_eq_true rfl⟩
theorem imX4_work : Cond.instanceMethod yX4_work ∈ tt := mt_5 (List.mem_of_getElem? (i := 192) rfl) rfl
theorem seX4_work : Cond.selects (yX4_work).cls yX4_work yX4_work ∈ tt := mt_5 (List.mem_of_getElem? (i := 193) rfl) rfl
abbrev mX4_goRound : gM := (yX4_goRound, cX4_goRound, 5, (some (Jvm.ClassFile.FieldType.boolean)), false)
theorem cmX4_goRound : gf_CM mX4_goRound 1 := ⟨icX4, mt_5 (List.mem_of_getElem? (i := 199) rfl) rfl, ⟨nhX4.1, nhX4.2, by decide +kernel⟩, Nat.le_of_ble_eq_true rfl⟩
theorem imX4_goRound : Cond.instanceMethod yX4_goRound ∈ tt := mt_5 (List.mem_of_getElem? (i := 198) rfl) rfl
theorem seX4_goRound : Cond.selects (yX4_goRound).cls yX4_goRound yX4_goRound ∈ tt := mp_in (n := 4) (List.mem_of_getElem? (i := 41) (by decide +kernel)) rfl
abbrev mX4_payFrom : gM := (yX4_payFrom, cX4_payFrom, 9, none, false)
theorem cmX4_payFrom : gf_CM mX4_payFrom 2 := ⟨icX4, mt_5 (List.mem_of_getElem? (i := 207) rfl) rfl, ⟨nhX4.1, nhX4.2, by decide +kernel⟩, Nat.le_of_ble_eq_true rfl⟩
theorem imX4_payFrom : Cond.instanceMethod yX4_payFrom ∈ tt := mt_5 (List.mem_of_getElem? (i := 206) rfl) rfl
theorem seX4_payFrom : Cond.selects (yX4_payFrom).cls yX4_payFrom yX4_payFrom ∈ tt := mp_in (n := 4) (List.mem_of_getElem? (i := 43) (by decide +kernel)) rfl
abbrev mX4_got : gM := (yX4_got, cX4_got, 5, (some (Jvm.ClassFile.FieldType.long)), false)
theorem cmX4_got : gf_CM mX4_got 1 := ⟨icX4, mt_5 (List.mem_of_getElem? (i := 203) rfl) rfl, ⟨nhX4.1, nhX4.2, by decide +kernel⟩, Nat.le_of_ble_eq_true rfl⟩
theorem imX4_got : Cond.instanceMethod yX4_got ∈ tt := mt_5 (List.mem_of_getElem? (i := 202) rfl) rfl
theorem seX4_got : Cond.selects (yX4_got).cls yX4_got yX4_got ∈ tt := mp_in (n := 4) (List.mem_of_getElem? (i := 42) (by decide +kernel)) rfl
abbrev mX4_sumOf : gM := (yX4_sumOf, cX4_sumOf, 4, (some (Jvm.ClassFile.FieldType.long)), false)
theorem cmX4_sumOf : gf_CM mX4_sumOf 1 := ⟨icX4, mt_5 (List.mem_of_getElem? (i := 210) rfl) rfl, ⟨nhX4.1, nhX4.2, by decide +kernel⟩, Nat.le_of_ble_eq_true rfl⟩
theorem stX4_sumOf : Cond.static yX4_sumOf ∈ tt := mt_5 (List.mem_of_getElem? (i := 209) rfl) rfl
abbrev mX4_tell : gM := (yX4_tell, cX4_tell, 3, (some (Jvm.ClassFile.FieldType.long)), false)
theorem cmX4_tell : gf_CM mX4_tell 2 := ⟨icX4, mt_5 (List.mem_of_getElem? (i := 214) rfl) rfl, ⟨nhX4.1, nhX4.2, by decide +kernel⟩, Nat.le_of_ble_eq_true rfl⟩
theorem imX4_tell : Cond.instanceMethod yX4_tell ∈ tt := mt_5 (List.mem_of_getElem? (i := 212) rfl) rfl
theorem seX4_tell : Cond.selects (yX4_tell).cls yX4_tell yX4_tell ∈ tt := mt_5 (List.mem_of_getElem? (i := 213) rfl) rfl
abbrev mX5_init : gM := (yX5_init, cX5_init, 3, none, true)
theorem cmX5_init : gf_CM mX5_init 2 := ⟨icX5, mt_2 (List.mem_of_getElem? (i := 69) rfl) rfl, ⟨nhX5.1, nhX5.2, by decide +kernel⟩, Nat.le_of_ble_eq_true rfl⟩
theorem imX5_init : Cond.instanceMethod yX5_init ∈ tt := mt_2 (List.mem_of_getElem? (i := 68) rfl) rfl
abbrev mX5_burn : gM := (yX5_burn, cX5_burn, 5, none, false)
theorem cmX5_burn : gf_CM mX5_burn 3 := ⟨icX5, mt_5 (List.mem_of_getElem? (i := 43) rfl) rfl, ⟨nhX5.1, nhX5.2, by decide +kernel⟩, Nat.le_of_ble_eq_true rfl⟩
theorem imX5_burn : Cond.instanceMethod yX5_burn ∈ tt := mt_5 (List.mem_of_getElem? (i := 41) rfl) rfl
theorem seX5_burn : Cond.selects (yX5_burn).cls yX5_burn yX5_burn ∈ tt := mt_5 (List.mem_of_getElem? (i := 42) rfl) rfl
abbrev mX5_makeReady : gM := (yX5_makeReady, cX5_makeReady, 2, none, false)
theorem cmX5_makeReady : gf_CM mX5_makeReady 0 := ⟨icX5, mt_5 (List.mem_of_getElem? (i := 47) rfl) rfl, ⟨nhX5.1, nhX5.2, by decide +kernel⟩, Nat.le_of_ble_eq_true rfl⟩
theorem imX5_makeReady : Cond.instanceMethod yX5_makeReady ∈ tt := mt_5 (List.mem_of_getElem? (i := 46) rfl) rfl
theorem seX5_makeReady : Cond.selects (yX5_makeReady).cls yX5_makeReady yX5_makeReady ∈ tt := mp_in (n := 16) (List.mem_of_getElem? (i := 24) (by decide +kernel)) rfl
abbrev mX5_kindle : gM := (yX5_kindle, cX5_kindle, 3, none, false)
theorem cmX5_kindle : gf_CM mX5_kindle 2 := ⟨icX5, mt_5 (List.mem_of_getElem? (i := 62) rfl) rfl, ⟨nhX5.1, nhX5.2, by decide +kernel⟩, Nat.le_of_ble_eq_true rfl⟩
theorem imX5_kindle : Cond.instanceMethod yX5_kindle ∈ tt := mt_5 (List.mem_of_getElem? (i := 61) rfl) rfl
theorem seX5_kindle : Cond.selects (yX5_kindle).cls yX5_kindle yX5_kindle ∈ tt := mp_in (n := 16) (List.mem_of_getElem? (i := 25) (by decide +kernel)) rfl
abbrev mX5_consume : gM := (yX5_consume, cX5_consume, 2, none, false)
theorem cmX5_consume : gf_CM mX5_consume 0 := ⟨icX5, mt_5 (List.mem_of_getElem? (i := 66) rfl) rfl, ⟨nhX5.1, nhX5.2, by decide +kernel⟩, Nat.le_of_ble_eq_true rfl⟩
theorem imX5_consume : Cond.instanceMethod yX5_consume ∈ tt := mt_5 (List.mem_of_getElem? (i := 65) rfl) rfl
theorem seX5_consume : Cond.selects (yX5_consume).cls yX5_consume yX5_consume ∈ tt := mp_in (n := 16) (List.mem_of_getElem? (i := 26) (by decide +kernel)) rfl
abbrev mX5_spread : gM := (yX5_spread, cX5_spread, 3, none, false)
theorem cmX5_spread : gf_CM mX5_spread 1 := ⟨icX5, mt_5 (List.mem_of_getElem? (i := 77) rfl) rfl, ⟨nhX5.1, nhX5.2, by decide +kernel⟩, Nat.le_of_ble_eq_true rfl⟩
theorem imX5_spread : Cond.instanceMethod yX5_spread ∈ tt := mt_5 (List.mem_of_getElem? (i := 76) rfl) rfl
theorem seX5_spread : Cond.selects (yX5_spread).cls yX5_spread yX5_spread ∈ tt := mp_in (n := 16) (List.mem_of_getElem? (i := 27) (by decide +kernel)) rfl
abbrev mX5_mayCatch : gM := (yX5_mayCatch, cX5_mayCatch, 2, (some (Jvm.ClassFile.FieldType.boolean)), false)
theorem cmX5_mayCatch : gf_CM mX5_mayCatch 1 := ⟨icX5, mt_5 (List.mem_of_getElem? (i := 81) rfl) rfl, ⟨nhX5.1, nhX5.2, by decide +kernel⟩, Nat.le_of_ble_eq_true rfl⟩
theorem imX5_mayCatch : Cond.instanceMethod yX5_mayCatch ∈ tt := mt_5 (List.mem_of_getElem? (i := 80) rfl) rfl
theorem seX5_mayCatch : Cond.selects (yX5_mayCatch).cls yX5_mayCatch yX5_mayCatch ∈ tt := mp_in (n := 16) (List.mem_of_getElem? (i := 28) (by decide +kernel)) rfl
abbrev mX5_warmAround : gM := (yX5_warmAround, cX5_warmAround, 7, none, false)
theorem cmX5_warmAround : gf_CM mX5_warmAround 3 := ⟨icX5, mt_5 (List.mem_of_getElem? (i := 86) rfl) rfl, ⟨nhX5.1, nhX5.2, by decide +kernel⟩, Nat.le_of_ble_eq_true rfl⟩
theorem imX5_warmAround : Cond.instanceMethod yX5_warmAround ∈ tt := mt_5 (List.mem_of_getElem? (i := 85) rfl) rfl
theorem seX5_warmAround : Cond.selects (yX5_warmAround).cls yX5_warmAround yX5_warmAround ∈ tt := mp_in (n := 16) (List.mem_of_getElem? (i := 29) (by decide +kernel)) rfl
abbrev mX5_drive : gM := (yX5_drive, cX5_drive, 4, none, false)
theorem cmX5_drive : gf_CM mX5_drive 2 := ⟨icX5, mt_5 (List.mem_of_getElem? (i := 95) rfl) rfl, ⟨nhX5.1, nhX5.2, by decide +kernel⟩, Nat.le_of_ble_eq_true rfl⟩
theorem imX5_drive : Cond.instanceMethod yX5_drive ∈ tt := mt_5 (List.mem_of_getElem? (i := 94) rfl) rfl
theorem seX5_drive : Cond.selects (yX5_drive).cls yX5_drive yX5_drive ∈ tt := mp_in (n := 16) (List.mem_of_getElem? (i := 30) (by decide +kernel)) rfl
abbrev mX5_nearest : gM := (yX5_nearest, cX5_nearest, 7, (some (Jvm.ClassFile.FieldType.int)), false)
theorem cmX5_nearest : gf_CM mX5_nearest 3 := ⟨icX5, mt_5 (List.mem_of_getElem? (i := 99) rfl) rfl, ⟨nhX5.1, nhX5.2, by decide +kernel⟩, Nat.le_of_ble_eq_true rfl⟩
theorem imX5_nearest : Cond.instanceMethod yX5_nearest ∈ tt := mt_5 (List.mem_of_getElem? (i := 98) rfl) rfl
theorem seX5_nearest : Cond.selects (yX5_nearest).cls yX5_nearest yX5_nearest ∈ tt := mp_in (n := 16) (List.mem_of_getElem? (i := 31) (by decide +kernel)) rfl
abbrev mX5_gone : gM := (yX5_gone, cX5_gone, 7, (some (Jvm.ClassFile.FieldType.int)), false)
theorem cmX5_gone : gf_CM mX5_gone 3 := ⟨icX5, mt_5 (List.mem_of_getElem? (i := 104) rfl) rfl, ⟨nhX5.1, nhX5.2, by decide +kernel⟩, Nat.le_of_ble_eq_true rfl⟩
theorem imX5_gone : Cond.instanceMethod yX5_gone ∈ tt := mt_5 (List.mem_of_getElem? (i := 103) rfl) rfl
theorem seX5_gone : Cond.selects (yX5_gone).cls yX5_gone yX5_gone ∈ tt := mp_in (n := 16) (List.mem_of_getElem? (i := 32) (by decide +kernel)) rfl
abbrev mX5_toward : gM := (yX5_toward, cX5_toward, 2, (some (Jvm.ClassFile.FieldType.int)), false)
theorem cmX5_toward : gf_CM mX5_toward 2 := ⟨icX5, mt_5 (List.mem_of_getElem? (i := 107) rfl) rfl, ⟨nhX5.1, nhX5.2, by decide +kernel⟩, Nat.le_of_ble_eq_true rfl⟩
theorem stX5_toward : Cond.static yX5_toward ∈ tt := mt_5 (List.mem_of_getElem? (i := 106) rfl) rfl
abbrev mX5_pour : gM := (yX5_pour, cX5_pour, 5, none, false)
theorem cmX5_pour : gf_CM mX5_pour 2 := ⟨icX5, mt_5 (List.mem_of_getElem? (i := 112) rfl) rfl, ⟨nhX5.1, nhX5.2, by decide +kernel⟩, Nat.le_of_ble_eq_true rfl⟩
theorem imX5_pour : Cond.instanceMethod yX5_pour ∈ tt := mt_5 (List.mem_of_getElem? (i := 111) rfl) rfl
theorem seX5_pour : Cond.selects (yX5_pour).cls yX5_pour yX5_pour ∈ tt := mp_in (n := 16) (List.mem_of_getElem? (i := 33) (by decide +kernel)) rfl
abbrev mX5_tally : gM := (yX5_tally, cX5_tally, 3, none, false)
theorem cmX5_tally : gf_CM mX5_tally 0 := ⟨icX5, mt_5 (List.mem_of_getElem? (i := 116) rfl) rfl, ⟨nhX5.1, nhX5.2, by decide +kernel⟩, Nat.le_of_ble_eq_true rfl⟩
theorem imX5_tally : Cond.instanceMethod yX5_tally ∈ tt := mt_5 (List.mem_of_getElem? (i := 115) rfl) rfl
theorem seX5_tally : Cond.selects (yX5_tally).cls yX5_tally yX5_tally ∈ tt := mp_in (n := 16) (List.mem_of_getElem? (i := 34) (by decide +kernel)) rfl
abbrev mX5_touched : gM := (yX5_touched, cX5_touched, 3, (some (Jvm.ClassFile.FieldType.int)), false)
theorem cmX5_touched : gf_CM mX5_touched 0 := ⟨icX5, mt_5 (List.mem_of_getElem? (i := 157) rfl) rfl, ⟨nhX5.1, nhX5.2, by decide +kernel⟩, Nat.le_of_ble_eq_true rfl⟩
theorem imX5_touched : Cond.instanceMethod yX5_touched ∈ tt := mt_5 (List.mem_of_getElem? (i := 155) rfl) rfl
theorem seX5_touched : Cond.selects (yX5_touched).cls yX5_touched yX5_touched ∈ tt := mt_5 (List.mem_of_getElem? (i := 156) rfl) rfl
abbrev mX5_tellHouse : gM := (yX5_tellHouse, cX5_tellHouse, 3, (some (Jvm.ClassFile.FieldType.int)), false)
theorem cmX5_tellHouse : gf_CM mX5_tellHouse 2 := ⟨icX5, mt_5 (List.mem_of_getElem? (i := 165) rfl) rfl, ⟨nhX5.1, nhX5.2, by decide +kernel⟩, Nat.le_of_ble_eq_true rfl⟩
theorem imX5_tellHouse : Cond.instanceMethod yX5_tellHouse ∈ tt := mt_5 (List.mem_of_getElem? (i := 163) rfl) rfl
theorem seX5_tellHouse : Cond.selects (yX5_tellHouse).cls yX5_tellHouse yX5_tellHouse ∈ tt := mt_5 (List.mem_of_getElem? (i := 164) rfl) rfl
abbrev mX5_tellEngine : gM := (yX5_tellEngine, cX5_tellEngine, 3, (some (Jvm.ClassFile.FieldType.int)), false)
theorem cmX5_tellEngine : gf_CM mX5_tellEngine 2 := ⟨icX5, mt_5 (List.mem_of_getElem? (i := 173) rfl) rfl, ⟨nhX5.1, nhX5.2, by decide +kernel⟩, Nat.le_of_ble_eq_true rfl⟩
theorem imX5_tellEngine : Cond.instanceMethod yX5_tellEngine ∈ tt := mt_5 (List.mem_of_getElem? (i := 171) rfl) rfl
theorem seX5_tellEngine : Cond.selects (yX5_tellEngine).cls yX5_tellEngine yX5_tellEngine ∈ tt := mt_5 (List.mem_of_getElem? (i := 172) rfl) rfl
abbrev mX6_init : gM := (yX6_init, cX6_init, 3, none, true)
theorem cmX6_init : gf_CM mX6_init 2 := ⟨icX6, mt_2 (List.mem_of_getElem? (i := 47) rfl) rfl, ⟨nhX6.1, nhX6.2, by decide +kernel⟩, Nat.le_of_ble_eq_true rfl⟩
theorem imX6_init : Cond.instanceMethod yX6_init ∈ tt := mt_2 (List.mem_of_getElem? (i := 46) rfl) rfl
abbrev mX6_goTo : gM := (yX6_goTo, cX6_goTo, 2, none, false)
theorem cmX6_goTo : gf_CM mX6_goTo 1 := ⟨icX6, mt_4 (List.mem_of_getElem? (i := 216) rfl) rfl, ⟨nhX6.1, nhX6.2, by decide +kernel⟩, Nat.le_of_ble_eq_true rfl⟩
theorem imX6_goTo : Cond.instanceMethod yX6_goTo ∈ tt := mt_4 (List.mem_of_getElem? (i := 214) rfl) rfl
theorem seX6_goTo : Cond.selects (yX6_goTo).cls yX6_goTo yX6_goTo ∈ tt := mt_4 (List.mem_of_getElem? (i := 215) rfl) rfl
abbrev mX6_takePolicy : gM := (yX6_takePolicy, cX6_takePolicy, 4, none, false)
theorem cmX6_takePolicy : gf_CM mX6_takePolicy 3 := ⟨icX6, mt_4 (List.mem_of_getElem? (i := 224) rfl) rfl, ⟨nhX6.1, nhX6.2, by decide +kernel⟩, Nat.le_of_ble_eq_true rfl⟩
theorem imX6_takePolicy : Cond.instanceMethod yX6_takePolicy ∈ tt := mt_4 (List.mem_of_getElem? (i := 222) rfl) rfl
theorem seX6_takePolicy : Cond.selects (yX6_takePolicy).cls yX6_takePolicy yX6_takePolicy ∈ tt := mt_4 (List.mem_of_getElem? (i := 223) rfl) rfl
abbrev mX6_findHelpers : gM := (yX6_findHelpers, cX6_findHelpers, 2, none, false)
theorem cmX6_findHelpers : gf_CM mX6_findHelpers 0 := ⟨icX6, mt_5 (List.mem_of_getElem? (i := 38) rfl) rfl, ⟨nhX6.1, nhX6.2, by decide +kernel⟩, Nat.le_of_ble_eq_true rfl⟩
theorem imX6_findHelpers : Cond.instanceMethod yX6_findHelpers ∈ tt := mt_5 (List.mem_of_getElem? (i := 36) rfl) rfl
theorem seX6_findHelpers : Cond.selects (yX6_findHelpers).cls yX6_findHelpers yX6_findHelpers ∈ tt := mt_5 (List.mem_of_getElem? (i := 37) rfl) rfl
abbrev mX6_helpersAt : gM := (yX6_helpersAt, cX6_helpersAt, 4, (some (Jvm.ClassFile.FieldType.int)), false)
theorem cmX6_helpersAt : gf_CM mX6_helpersAt 1 := ⟨icX6, mt_5 (List.mem_of_getElem? (i := 20) rfl) rfl, ⟨nhX6.1, nhX6.2, by decide +kernel⟩, Nat.le_of_ble_eq_true rfl⟩
theorem imX6_helpersAt : Cond.instanceMethod yX6_helpersAt ∈ tt := mt_5 (List.mem_of_getElem? (i := 18) rfl) rfl
theorem seX6_helpersAt : Cond.selects (yX6_helpersAt).cls yX6_helpersAt yX6_helpersAt ∈ tt := mt_5 (List.mem_of_getElem? (i := 19) rfl) rfl
abbrev mX6_premiumBy : gM := (yX6_premiumBy, cX6_premiumBy, 2, (some (Jvm.ClassFile.FieldType.int)), false)
theorem cmX6_premiumBy : gf_CM mX6_premiumBy 1 := ⟨icX6, mt_4 (List.mem_of_getElem? (i := 228) rfl) rfl, ⟨nhX6.1, nhX6.2, by decide +kernel⟩, Nat.le_of_ble_eq_true rfl⟩
theorem imX6_premiumBy : Cond.instanceMethod yX6_premiumBy ∈ tt := mt_4 (List.mem_of_getElem? (i := 226) rfl) rfl
theorem seX6_premiumBy : Cond.selects (yX6_premiumBy).cls yX6_premiumBy yX6_premiumBy ∈ tt := mt_4 (List.mem_of_getElem? (i := 227) rfl) rfl
abbrev mX6_askBy : gM := (yX6_askBy, cX6_askBy, 3, (some (Jvm.ClassFile.FieldType.int)), false)
theorem cmX6_askBy : gf_CM mX6_askBy 1 := ⟨icX6, mt_5 (List.mem_of_getElem? (i := 131) rfl) rfl, ⟨nhX6.1, nhX6.2, by decide +kernel⟩, Nat.le_of_ble_eq_true rfl⟩
theorem imX6_askBy : Cond.instanceMethod yX6_askBy ∈ tt := mt_5 (List.mem_of_getElem? (i := 129) rfl) rfl
theorem seX6_askBy : Cond.selects (yX6_askBy).cls yX6_askBy yX6_askBy ∈ tt := mt_5 (List.mem_of_getElem? (i := 130) rfl) rfl
abbrev mX6_some : gM := (yX6_some, cX6_some, 4, (some (Jvm.ClassFile.FieldType.boolean)), false)
theorem cmX6_some : gf_CM mX6_some 2 := ⟨icX6, mt_5 (List.mem_of_getElem? (i := 26) rfl) rfl, ⟨nhX6.1, nhX6.2, by decide +kernel⟩, Nat.le_of_ble_eq_true rfl⟩
theorem imX6_some : Cond.instanceMethod yX6_some ∈ tt := mt_5 (List.mem_of_getElem? (i := 25) rfl) rfl
theorem seX6_some : Cond.selects (yX6_some).cls yX6_some yX6_some ∈ tt := mp_in (n := 5) (List.mem_of_getElem? (i := 22) (by decide +kernel)) rfl
abbrev mX6_valueOf : gM := (yX6_valueOf, cX6_valueOf, 7, (some (Jvm.ClassFile.FieldType.int)), false)
theorem cmX6_valueOf : gf_CM mX6_valueOf 2 := ⟨icX6, mt_4 (List.mem_of_getElem? (i := 232) rfl) rfl, ⟨nhX6.1, nhX6.2, by decide +kernel⟩, Nat.le_of_ble_eq_true rfl⟩
theorem imX6_valueOf : Cond.instanceMethod yX6_valueOf ∈ tt := mt_4 (List.mem_of_getElem? (i := 231) rfl) rfl
theorem seX6_valueOf : Cond.selects (yX6_valueOf).cls yX6_valueOf yX6_valueOf ∈ tt := mp_in (n := 5) (List.mem_of_getElem? (i := 20) (by decide +kernel)) rfl
abbrev mX6_isJoin : gM := (yX6_isJoin, cX6_isJoin, 1, (some (Jvm.ClassFile.FieldType.boolean)), false)
theorem cmX6_isJoin : gf_CM mX6_isJoin 1 := ⟨icX6, mt_4 (List.mem_of_getElem? (i := 237) rfl) rfl, ⟨nhX6.1, nhX6.2, by decide +kernel⟩, Nat.le_of_ble_eq_true rfl⟩
theorem stX6_isJoin : Cond.static yX6_isJoin ∈ tt := mt_4 (List.mem_of_getElem? (i := 236) rfl) rfl
abbrev mX6_single : gM := (yX6_single, cX6_single, 3, (some (Jvm.ClassFile.FieldType.int)), false)
theorem cmX6_single : gf_CM mX6_single 2 := ⟨icX6, mt_5 (List.mem_of_getElem? (i := 11) rfl) rfl, ⟨nhX6.1, nhX6.2, by decide +kernel⟩, Nat.le_of_ble_eq_true rfl⟩
theorem imX6_single : Cond.instanceMethod yX6_single ∈ tt := mt_5 (List.mem_of_getElem? (i := 10) rfl) rfl
theorem seX6_single : Cond.selects (yX6_single).cls yX6_single yX6_single ∈ tt := mp_in (n := 5) (List.mem_of_getElem? (i := 21) (by decide +kernel)) rfl
abbrev mX6_joined : gM := (yX6_joined, cX6_joined, 5, (some (Jvm.ClassFile.FieldType.int)), false)
theorem cmX6_joined : gf_CM mX6_joined 3 := ⟨icX6, mt_5 (List.mem_of_getElem? (i := 0) rfl) rfl, ⟨nhX6.1, nhX6.2, by decide +kernel⟩, Nat.le_of_ble_eq_true rfl⟩
theorem stX6_joined : Cond.static yX6_joined ∈ tt := mt_4 (List.mem_of_getElem? (i := 239) rfl) rfl
abbrev mX7_init : gM := (yX7_init, cX7_init, 1, none, true)
theorem cmX7_init : gf_CM mX7_init 0 := ⟨icX7, mt_2 (List.mem_of_getElem? (i := 10) rfl) rfl, ⟨nhX7.1, nhX7.2, by decide +kernel⟩, Nat.le_of_ble_eq_true rfl⟩
theorem imX7_init : Cond.instanceMethod yX7_init ∈ tt := mt_2 (List.mem_of_getElem? (i := 9) rfl) rfl
abbrev mX7_gather : gM := (yX7_gather, cX7_gather, 4, none, false)
theorem cmX7_gather : gf_CM mX7_gather 1 := ⟨icX7, mt_4 (List.mem_of_getElem? (i := 183) rfl) rfl, ⟨nhX7.1, nhX7.2, by decide +kernel⟩, Nat.le_of_ble_eq_true rfl⟩
theorem imX7_gather : Cond.instanceMethod yX7_gather ∈ tt := mt_4 (List.mem_of_getElem? (i := 181) rfl) rfl
theorem seX7_gather : Cond.selects (yX7_gather).cls yX7_gather yX7_gather ∈ tt := mt_4 (List.mem_of_getElem? (i := 182) rfl) rfl
abbrev mX7_note : gM := (yX7_note, cX7_note, 5, none, false)
theorem cmX7_note : gf_CM mX7_note 2 := ⟨icX7, mt_4 (List.mem_of_getElem? (i := 197) rfl) rfl, ⟨nhX7.1, nhX7.2, by decide +kernel⟩, Nat.le_of_ble_eq_true rfl⟩
theorem imX7_note : Cond.instanceMethod yX7_note ∈ tt := mt_4 (List.mem_of_getElem? (i := 196) rfl) rfl
theorem seX7_note : Cond.selects (yX7_note).cls yX7_note yX7_note ∈ tt := mp_in (n := 6) (List.mem_of_getElem? (i := 19) (by decide +kernel)) rfl
abbrev mX8_init : gM := (yX8_init, cX8_init, 3, none, true)
theorem cmX8_init : gf_CM mX8_init 2 := ⟨icX8, mt_2 (List.mem_of_getElem? (i := 194) rfl) rfl, ⟨nhX8.1, nhX8.2, by decide +kernel⟩, Nat.le_of_ble_eq_true rfl⟩
theorem imX8_init : Cond.instanceMethod yX8_init ∈ tt := mt_2 (List.mem_of_getElem? (i := 193) rfl) rfl
abbrev mX8_forget : gM := (yX8_forget, cX8_forget, 1, none, false)
theorem cmX8_forget : gf_CM mX8_forget 0 := ⟨icX8, mt_3 (List.mem_of_getElem? (i := 70) rfl) rfl, ⟨nhX8.1, nhX8.2, by decide +kernel⟩, Nat.le_of_ble_eq_true rfl⟩
theorem imX8_forget : Cond.instanceMethod yX8_forget ∈ tt := mt_3 (List.mem_of_getElem? (i := 68) rfl) rfl
theorem seX8_forget : Cond.selects (yX8_forget).cls yX8_forget yX8_forget ∈ tt := mt_3 (List.mem_of_getElem? (i := 69) rfl) rfl
abbrev mX8_isTold : gM := (yX8_isTold, cX8_isTold, 3, (some (Jvm.ClassFile.FieldType.boolean)), false)
theorem cmX8_isTold : gf_CM mX8_isTold 1 := ⟨icX8, mt_5 (List.mem_of_getElem? (i := 231) rfl) rfl, ⟨nhX8.1, nhX8.2, by decide +kernel⟩, Nat.le_of_ble_eq_true rfl⟩
theorem imX8_isTold : Cond.instanceMethod yX8_isTold ∈ tt := mt_5 (List.mem_of_getElem? (i := 229) rfl) rfl
theorem seX8_isTold : Cond.selects (yX8_isTold).cls yX8_isTold yX8_isTold ∈ tt := mt_5 (List.mem_of_getElem? (i := 230) rfl) rfl
abbrev mX8_order : gM := (yX8_order, cX8_order, 4, none, false)
theorem cmX8_order : gf_CM mX8_order 3 := ⟨icX8, mt_5 (List.mem_of_getElem? (i := 239) rfl) rfl, ⟨nhX8.1, nhX8.2, by decide +kernel⟩, Nat.le_of_ble_eq_true rfl⟩
theorem imX8_order : Cond.instanceMethod yX8_order ∈ tt := mt_5 (List.mem_of_getElem? (i := 237) rfl) rfl
theorem seX8_order : Cond.selects (yX8_order).cls yX8_order yX8_order ∈ tt := mt_5 (List.mem_of_getElem? (i := 238) rfl) rfl
abbrev mX8_seek : gM := (yX8_seek, cX8_seek, 9, (some (Jvm.ClassFile.FieldType.int)), false)
theorem cmX8_seek : gf_CM mX8_seek 4 := ⟨icX8, mt_6 (List.mem_of_getElem? (i := 3) rfl) rfl, ⟨nhX8.1, nhX8.2, by decide +kernel⟩, Nat.le_of_ble_eq_true rfl⟩
theorem imX8_seek : Cond.instanceMethod yX8_seek ∈ tt := mt_6 (List.mem_of_getElem? (i := 1) rfl) rfl
theorem seX8_seek : Cond.selects (yX8_seek).cls yX8_seek yX8_seek ∈ tt := mt_6 (List.mem_of_getElem? (i := 2) rfl) rfl
abbrev mX8_addChosen : gM := (yX8_addChosen, cX8_addChosen, 3, none, false)
theorem cmX8_addChosen : gf_CM mX8_addChosen 1 := ⟨icX8, mt_6 (List.mem_of_getElem? (i := 7) rfl) rfl, ⟨nhX8.1, nhX8.2, by decide +kernel⟩, Nat.le_of_ble_eq_true rfl⟩
theorem imX8_addChosen : Cond.instanceMethod yX8_addChosen ∈ tt := mt_6 (List.mem_of_getElem? (i := 6) rfl) rfl
theorem seX8_addChosen : Cond.selects (yX8_addChosen).cls yX8_addChosen yX8_addChosen ∈ tt := mp_in (n := 10) (List.mem_of_getElem? (i := 44) (by decide +kernel)) rfl
abbrev mX8_keep : gM := (yX8_keep, cX8_keep, 3, none, false)
theorem cmX8_keep : gf_CM mX8_keep 1 := ⟨icX8, mt_6 (List.mem_of_getElem? (i := 13) rfl) rfl, ⟨nhX8.1, nhX8.2, by decide +kernel⟩, Nat.le_of_ble_eq_true rfl⟩
theorem imX8_keep : Cond.instanceMethod yX8_keep ∈ tt := mt_6 (List.mem_of_getElem? (i := 12) rfl) rfl
theorem seX8_keep : Cond.selects (yX8_keep).cls yX8_keep yX8_keep ∈ tt := mp_in (n := 10) (List.mem_of_getElem? (i := 45) (by decide +kernel)) rfl
abbrev mX8_chooseNext : gM := (yX8_chooseNext, cX8_chooseNext, 4, (some (Jvm.ClassFile.FieldType.boolean)), false)
theorem cmX8_chooseNext : gf_CM mX8_chooseNext 1 := ⟨icX8, mt_6 (List.mem_of_getElem? (i := 17) rfl) rfl, ⟨nhX8.1, nhX8.2, by decide +kernel⟩, Nat.le_of_ble_eq_true rfl⟩
theorem imX8_chooseNext : Cond.instanceMethod yX8_chooseNext ∈ tt := mt_6 (List.mem_of_getElem? (i := 16) rfl) rfl
theorem seX8_chooseNext : Cond.selects (yX8_chooseNext).cls yX8_chooseNext yX8_chooseNext ∈ tt := mp_in (n := 10) (List.mem_of_getElem? (i := 46) (by decide +kernel)) rfl
abbrev mX9_init : gM := (yX9_init, cX9_init, 1, none, true)
theorem cmX9_init : gf_CM mX9_init 0 := ⟨icX9, mt_1 (List.mem_of_getElem? (i := 149) rfl) rfl, ⟨nhX9.1, nhX9.2, by decide +kernel⟩, Nat.le_of_ble_eq_true rfl⟩
theorem imX9_init : Cond.instanceMethod yX9_init ∈ tt := mt_1 (List.mem_of_getElem? (i := 148) rfl) rfl
abbrev mX9_take : gM := (yX9_take, cX9_take, 3, none, false)
theorem cmX9_take : gf_CM mX9_take 1 := ⟨icX9, mt_3 (List.mem_of_getElem? (i := 53) rfl) rfl, ⟨nhX9.1, nhX9.2, by decide +kernel⟩, Nat.le_of_ble_eq_true rfl⟩
theorem imX9_take : Cond.instanceMethod yX9_take ∈ tt := mt_3 (List.mem_of_getElem? (i := 51) rfl) rfl
theorem seX9_take : Cond.selects (yX9_take).cls yX9_take yX9_take ∈ tt := mt_3 (List.mem_of_getElem? (i := 52) rfl) rfl
abbrev mX9_read : gM := (yX9_read, cX9_read, 2, (some ((Jvm.ClassFile.FieldType.object "PlateCity$Terms"))), false)
theorem cmX9_read : gf_CM mX9_read 0 := ⟨icX9, mt_3 (List.mem_of_getElem? (i := 135) rfl) rfl, ⟨nhX9.1, nhX9.2, by decide +kernel⟩, Nat.le_of_ble_eq_true rfl⟩
theorem imX9_read : Cond.instanceMethod yX9_read ∈ tt := mt_3 (List.mem_of_getElem? (i := 133) rfl) rfl
theorem seX9_read : Cond.selects (yX9_read).cls yX9_read yX9_read ∈ tt := mt_3 (List.mem_of_getElem? (i := 134) rfl) rfl
abbrev mX9_scan : gM := (yX9_scan, cX9_scan, 5, none, false)
theorem cmX9_scan : gf_CM mX9_scan 0 := ⟨icX9, mt_3 (List.mem_of_getElem? (i := 139) rfl) rfl, ⟨nhX9.1, nhX9.2, by decide +kernel⟩, Nat.le_of_ble_eq_true rfl⟩
theorem imX9_scan : Cond.instanceMethod yX9_scan ∈ tt := mt_3 (List.mem_of_getElem? (i := 138) rfl) rfl
theorem seX9_scan : Cond.selects (yX9_scan).cls yX9_scan yX9_scan ∈ tt := mp_in (n := 14) (List.mem_of_getElem? (i := 1) (by decide +kernel)) rfl
abbrev mX9_sortOf : gM := (yX9_sortOf, cX9_sortOf, 1, (some (Jvm.ClassFile.FieldType.int)), false)
theorem cmX9_sortOf : gf_CM mX9_sortOf 1 := ⟨icX9, mt_3 (List.mem_of_getElem? (i := 142) rfl) rfl, ⟨nhX9.1, nhX9.2, by decide +kernel⟩, Nat.le_of_ble_eq_true rfl⟩
theorem stX9_sortOf : Cond.static yX9_sortOf ∈ tt := mt_3 (List.mem_of_getElem? (i := 141) rfl) rfl
abbrev mX9_addToken : gM := (yX9_addToken, cX9_addToken, 4, none, false)
theorem cmX9_addToken : gf_CM mX9_addToken 3 := ⟨icX9, mt_3 (List.mem_of_getElem? (i := 233) rfl) rfl, ⟨nhX9.1, nhX9.2, by decide +kernel⟩, Nat.le_of_ble_eq_true rfl⟩
theorem imX9_addToken : Cond.instanceMethod yX9_addToken ∈ tt := mt_3 (List.mem_of_getElem? (i := 232) rfl) rfl
theorem seX9_addToken : Cond.selects (yX9_addToken).cls yX9_addToken yX9_addToken ∈ tt := mp_in (n := 14) (List.mem_of_getElem? (i := 2) (by decide +kernel)) rfl
abbrev mX9_wordAt : gM := (yX9_wordAt, cX9_wordAt, 7, (some (Jvm.ClassFile.FieldType.int)), false)
theorem cmX9_wordAt : gf_CM mX9_wordAt 1 := ⟨icX9, mt_3 (List.mem_of_getElem? (i := 237) rfl) rfl, ⟨nhX9.1, nhX9.2, by decide +kernel⟩, Nat.le_of_ble_eq_true rfl⟩
theorem imX9_wordAt : Cond.instanceMethod yX9_wordAt ∈ tt := mt_3 (List.mem_of_getElem? (i := 236) rfl) rfl
theorem seX9_wordAt : Cond.selects (yX9_wordAt).cls yX9_wordAt yX9_wordAt ∈ tt := mp_in (n := 14) (List.mem_of_getElem? (i := 3) (by decide +kernel)) rfl
abbrev mX9_numberAt : gM := (yX9_numberAt, cX9_numberAt, 4, (some (Jvm.ClassFile.FieldType.int)), false)
theorem cmX9_numberAt : gf_CM mX9_numberAt 1 := ⟨icX9, mt_4 (List.mem_of_getElem? (i := 23) rfl) rfl, ⟨nhX9.1, nhX9.2, by decide +kernel⟩, Nat.le_of_ble_eq_true rfl⟩
theorem imX9_numberAt : Cond.instanceMethod yX9_numberAt ∈ tt := mt_4 (List.mem_of_getElem? (i := 22) rfl) rfl
theorem seX9_numberAt : Cond.selects (yX9_numberAt).cls yX9_numberAt yX9_numberAt ∈ tt := mp_in (n := 14) (List.mem_of_getElem? (i := 4) (by decide +kernel)) rfl
abbrev mX9_token : gM := (yX9_token, cX9_token, 1, (some (Jvm.ClassFile.FieldType.int)), false)
theorem cmX9_token : gf_CM mX9_token 0 := ⟨icX9, mt_4 (List.mem_of_getElem? (i := 27) rfl) rfl, ⟨nhX9.1, nhX9.2, by decide +kernel⟩, Nat.le_of_ble_eq_true rfl⟩
theorem imX9_token : Cond.instanceMethod yX9_token ∈ tt := mt_4 (List.mem_of_getElem? (i := 26) rfl) rfl
theorem seX9_token : Cond.selects (yX9_token).cls yX9_token yX9_token ∈ tt := mp_in (n := 14) (List.mem_of_getElem? (i := 5) (by decide +kernel)) rfl
abbrev mX9_here : gM := (yX9_here, cX9_here, 1, (some (Jvm.ClassFile.FieldType.int)), false)
theorem cmX9_here : gf_CM mX9_here 0 := ⟨icX9, mt_4 (List.mem_of_getElem? (i := 35) rfl) rfl, ⟨nhX9.1, nhX9.2, by decide +kernel⟩, Nat.le_of_ble_eq_true rfl⟩
theorem imX9_here : Cond.instanceMethod yX9_here ∈ tt := mt_4 (List.mem_of_getElem? (i := 34) rfl) rfl
theorem seX9_here : Cond.selects (yX9_here).cls yX9_here yX9_here ∈ tt := mp_in (n := 14) (List.mem_of_getElem? (i := 7) (by decide +kernel)) rfl
abbrev mX9_refuse : gM := (yX9_refuse, cX9_refuse, 3, (some (Jvm.ClassFile.FieldType.boolean)), false)
theorem cmX9_refuse : gf_CM mX9_refuse 2 := ⟨icX9, mt_4 (List.mem_of_getElem? (i := 39) rfl) rfl, ⟨nhX9.1, nhX9.2, by decide +kernel⟩, Nat.le_of_ble_eq_true rfl⟩
theorem imX9_refuse : Cond.instanceMethod yX9_refuse ∈ tt := mt_4 (List.mem_of_getElem? (i := 38) rfl) rfl
theorem seX9_refuse : Cond.selects (yX9_refuse).cls yX9_refuse yX9_refuse ∈ tt := mp_in (n := 14) (List.mem_of_getElem? (i := 8) (by decide +kernel)) rfl
abbrev mX9_pass : gM := (yX9_pass, cX9_pass, 2, (some (Jvm.ClassFile.FieldType.boolean)), false)
theorem cmX9_pass : gf_CM mX9_pass 1 := ⟨icX9, mt_4 (List.mem_of_getElem? (i := 63) rfl) rfl, ⟨nhX9.1, nhX9.2, by decide +kernel⟩, Nat.le_of_ble_eq_true rfl⟩
theorem imX9_pass : Cond.instanceMethod yX9_pass ∈ tt := mt_4 (List.mem_of_getElem? (i := 62) rfl) rfl
theorem seX9_pass : Cond.selects (yX9_pass).cls yX9_pass yX9_pass ∈ tt := mp_in (n := 14) (List.mem_of_getElem? (i := 14) (by decide +kernel)) rfl
abbrev mX9_enter : gM := (yX9_enter, cX9_enter, 3, (some (Jvm.ClassFile.FieldType.boolean)), false)
theorem cmX9_enter : gf_CM mX9_enter 2 := ⟨icX9, mt_4 (List.mem_of_getElem? (i := 55) rfl) rfl, ⟨nhX9.1, nhX9.2, by decide +kernel⟩, Nat.le_of_ble_eq_true rfl⟩
theorem imX9_enter : Cond.instanceMethod yX9_enter ∈ tt := mt_4 (List.mem_of_getElem? (i := 54) rfl) rfl
theorem seX9_enter : Cond.selects (yX9_enter).cls yX9_enter yX9_enter ∈ tt := mp_in (n := 14) (List.mem_of_getElem? (i := 12) (by decide +kernel)) rfl
abbrev mX9_emit : gM := (yX9_emit, cX9_emit, 3, (some (Jvm.ClassFile.FieldType.boolean)), false)
theorem cmX9_emit : gf_CM mX9_emit 2 := ⟨icX9, mt_4 (List.mem_of_getElem? (i := 59) rfl) rfl, ⟨nhX9.1, nhX9.2, by decide +kernel⟩, Nat.le_of_ble_eq_true rfl⟩
theorem imX9_emit : Cond.instanceMethod yX9_emit ∈ tt := mt_4 (List.mem_of_getElem? (i := 58) rfl) rfl
theorem seX9_emit : Cond.selects (yX9_emit).cls yX9_emit yX9_emit ∈ tt := mp_in (n := 14) (List.mem_of_getElem? (i := 13) (by decide +kernel)) rfl
abbrev mX9_readStatement : gM := (yX9_readStatement, cX9_readStatement, 2, (some (Jvm.ClassFile.FieldType.boolean)), false)
theorem cmX9_readStatement : gf_CM mX9_readStatement 0 := ⟨icX9, mt_4 (List.mem_of_getElem? (i := 31) rfl) rfl, ⟨nhX9.1, nhX9.2, by decide +kernel⟩, Nat.le_of_ble_eq_true rfl⟩
theorem imX9_readStatement : Cond.instanceMethod yX9_readStatement ∈ tt := mt_4 (List.mem_of_getElem? (i := 30) rfl) rfl
theorem seX9_readStatement : Cond.selects (yX9_readStatement).cls yX9_readStatement yX9_readStatement ∈ tt := mp_in (n := 14) (List.mem_of_getElem? (i := 6) (by decide +kernel)) rfl
abbrev mX9_readRow : gM := (yX9_readRow, cX9_readRow, 5, (some (Jvm.ClassFile.FieldType.boolean)), false)
theorem cmX9_readRow : gf_CM mX9_readRow 2 := ⟨icX9, mt_4 (List.mem_of_getElem? (i := 43) rfl) rfl, ⟨nhX9.1, nhX9.2, by decide +kernel⟩, Nat.le_of_ble_eq_true rfl⟩
theorem imX9_readRow : Cond.instanceMethod yX9_readRow ∈ tt := mt_4 (List.mem_of_getElem? (i := 42) rfl) rfl
theorem seX9_readRow : Cond.selects (yX9_readRow).cls yX9_readRow yX9_readRow ∈ tt := mp_in (n := 14) (List.mem_of_getElem? (i := 9) (by decide +kernel)) rfl
abbrev mX9_joins : gM := (yX9_joins, cX9_joins, 2, (some (Jvm.ClassFile.FieldType.boolean)), false)
theorem cmX9_joins : gf_CM mX9_joins 2 := ⟨icX9, mt_4 (List.mem_of_getElem? (i := 79) rfl) rfl, ⟨nhX9.1, nhX9.2, by decide +kernel⟩, Nat.le_of_ble_eq_true rfl⟩
theorem stX9_joins : Cond.static yX9_joins ∈ tt := mt_4 (List.mem_of_getElem? (i := 78) rfl) rfl
abbrev mX9_readItem : gM := (yX9_readItem, cX9_readItem, 3, (some (Jvm.ClassFile.FieldType.boolean)), false)
theorem cmX9_readItem : gf_CM mX9_readItem 2 := ⟨icX9, mt_4 (List.mem_of_getElem? (i := 47) rfl) rfl, ⟨nhX9.1, nhX9.2, by decide +kernel⟩, Nat.le_of_ble_eq_true rfl⟩
theorem imX9_readItem : Cond.instanceMethod yX9_readItem ∈ tt := mt_4 (List.mem_of_getElem? (i := 46) rfl) rfl
theorem seX9_readItem : Cond.selects (yX9_readItem).cls yX9_readItem yX9_readItem ∈ tt := mp_in (n := 14) (List.mem_of_getElem? (i := 10) (by decide +kernel)) rfl
abbrev mX9_readFact : gM := (yX9_readFact, cX9_readFact, 2, (some (Jvm.ClassFile.FieldType.boolean)), false)
theorem cmX9_readFact : gf_CM mX9_readFact 1 := ⟨icX9, mt_4 (List.mem_of_getElem? (i := 51) rfl) rfl, ⟨nhX9.1, nhX9.2, by decide +kernel⟩, Nat.le_of_ble_eq_true rfl⟩
theorem imX9_readFact : Cond.instanceMethod yX9_readFact ∈ tt := mt_4 (List.mem_of_getElem? (i := 50) rfl) rfl
theorem seX9_readFact : Cond.selects (yX9_readFact).cls yX9_readFact yX9_readFact ∈ tt := mp_in (n := 14) (List.mem_of_getElem? (i := 11) (by decide +kernel)) rfl
abbrev mX9_readComparison : gM := (yX9_readComparison, cX9_readComparison, 3, (some (Jvm.ClassFile.FieldType.boolean)), false)
theorem cmX9_readComparison : gf_CM mX9_readComparison 1 := ⟨icX9, mt_4 (List.mem_of_getElem? (i := 71) rfl) rfl, ⟨nhX9.1, nhX9.2, by decide +kernel⟩, Nat.le_of_ble_eq_true rfl⟩
theorem imX9_readComparison : Cond.instanceMethod yX9_readComparison ∈ tt := mt_4 (List.mem_of_getElem? (i := 70) rfl) rfl
theorem seX9_readComparison : Cond.selects (yX9_readComparison).cls yX9_readComparison yX9_readComparison ∈ tt := mp_in (n := 14) (List.mem_of_getElem? (i := 16) (by decide +kernel)) rfl
abbrev mX9_readPart : gM := (yX9_readPart, cX9_readPart, 3, (some (Jvm.ClassFile.FieldType.boolean)), false)
theorem cmX9_readPart : gf_CM mX9_readPart 1 := ⟨icX9, mt_4 (List.mem_of_getElem? (i := 75) rfl) rfl, ⟨nhX9.1, nhX9.2, by decide +kernel⟩, Nat.le_of_ble_eq_true rfl⟩
theorem imX9_readPart : Cond.instanceMethod yX9_readPart ∈ tt := mt_4 (List.mem_of_getElem? (i := 74) rfl) rfl
theorem seX9_readPart : Cond.selects (yX9_readPart).cls yX9_readPart yX9_readPart ∈ tt := mp_in (n := 14) (List.mem_of_getElem? (i := 17) (by decide +kernel)) rfl
abbrev mX9_readNumber : gM := (yX9_readNumber, cX9_readNumber, 4, (some (Jvm.ClassFile.FieldType.boolean)), false)
theorem cmX9_readNumber : gf_CM mX9_readNumber 2 := ⟨icX9, mt_4 (List.mem_of_getElem? (i := 67) rfl) rfl, ⟨nhX9.1, nhX9.2, by decide +kernel⟩, Nat.le_of_ble_eq_true rfl⟩
theorem imX9_readNumber : Cond.instanceMethod yX9_readNumber ∈ tt := mt_4 (List.mem_of_getElem? (i := 66) rfl) rfl
theorem seX9_readNumber : Cond.selects (yX9_readNumber).cls yX9_readNumber yX9_readNumber ∈ tt := mp_in (n := 14) (List.mem_of_getElem? (i := 15) (by decide +kernel)) rfl
abbrev mX10_init : gM := (yX10_init, cX10_init, 6, none, true)
theorem cmX10_init : gf_CM mX10_init 1 := ⟨icX10, mt_4 (List.mem_of_getElem? (i := 84) rfl) rfl, ⟨nhX10.1, nhX10.2, by decide +kernel⟩, Nat.le_of_ble_eq_true rfl⟩
theorem imX10_init : Cond.instanceMethod yX10_init ∈ tt := mt_4 (List.mem_of_getElem? (i := 83) rfl) rfl
abbrev mX11_init : gM := (yX11_init, cX11_init, 1, none, true)
