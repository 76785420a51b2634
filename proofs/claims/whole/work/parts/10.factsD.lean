theorem flX12_329 : gf_FL RX12 329 12 37 := ⟨by decide, by decide, mt_6 (List.mem_of_getElem? (i := 74) rfl) rfl⟩
theorem flX12_103 : gf_FL RX12 103 12 38 := ⟨by decide, by decide, mt_6 (List.mem_of_getElem? (i := 75) rfl) rfl⟩
theorem flX12_335 : gf_FL RX12 335 12 39 := ⟨by decide, by decide, mt_6 (List.mem_of_getElem? (i := 76) rfl) rfl⟩
theorem flX12_332 : gf_FL RX12 332 12 40 := ⟨by decide, by decide, mt_6 (List.mem_of_getElem? (i := 77) rfl) rfl⟩
theorem flX12_342 : gf_FL RX12 342 12 41 := ⟨by decide, by decide, mt_6 (List.mem_of_getElem? (i := 78) rfl) rfl⟩
theorem flX12_106 : gf_FL RX12 106 12 42 := ⟨by decide, by decide, mt_6 (List.mem_of_getElem? (i := 79) rfl) rfl⟩
theorem flX12_109 : gf_FL RX12 109 12 43 := ⟨by decide, by decide, mt_6 (List.mem_of_getElem? (i := 80) rfl) rfl⟩
theorem flX12_112 : gf_FL RX12 112 12 44 := ⟨by decide, by decide, mt_6 (List.mem_of_getElem? (i := 81) rfl) rfl⟩
theorem flX12_115 : gf_FL RX12 115 12 45 := ⟨by decide, by decide, mt_6 (List.mem_of_getElem? (i := 82) rfl) rfl⟩
theorem flX12_118 : gf_FL RX12 118 12 46 := ⟨by decide, by decide, mt_6 (List.mem_of_getElem? (i := 83) rfl) rfl⟩
theorem flX12_121 : gf_FL RX12 121 12 47 := ⟨by decide, by decide, mt_6 (List.mem_of_getElem? (i := 84) rfl) rfl⟩
theorem flX12_125 : gf_FL RX12 125 12 48 := ⟨by decide, by decide, mt_6 (List.mem_of_getElem? (i := 85) rfl) rfl⟩
theorem flX12_128 : gf_FL RX12 128 12 49 := ⟨by decide, by decide, mt_6 (List.mem_of_getElem? (i := 86) rfl) rfl⟩
theorem flX12_131 : gf_FL RX12 131 12 50 := ⟨by decide, by decide, mt_6 (List.mem_of_getElem? (i := 87) rfl) rfl⟩
theorem flX12_134 : gf_FL RX12 134 12 51 := ⟨by decide, by decide, mt_6 (List.mem_of_getElem? (i := 88) rfl) rfl⟩
theorem flX12_137 : gf_FL RX12 137 12 52 := ⟨by decide, by decide, mt_6 (List.mem_of_getElem? (i := 89) rfl) rfl⟩
theorem flX12_140 : gf_FL RX12 140 12 53 := ⟨by decide, by decide, mt_6 (List.mem_of_getElem? (i := 90) rfl) rfl⟩
theorem flX12_421 : gf_FL RX12 421 12 54 := ⟨by decide, by decide, mt_6 (List.mem_of_getElem? (i := 91) rfl) rfl⟩
theorem flX12_143 : gf_FL RX12 143 12 55 := ⟨by decide, by decide, mt_6 (List.mem_of_getElem? (i := 92) rfl) rfl⟩
theorem flX12_146 : gf_FL RX12 146 12 56 := ⟨by decide, by decide, mt_6 (List.mem_of_getElem? (i := 93) rfl) rfl⟩
theorem flX12_149 : gf_FL RX12 149 12 57 := ⟨by decide, by decide, mt_6 (List.mem_of_getElem? (i := 94) rfl) rfl⟩
theorem flX12_152 : gf_FL RX12 152 12 58 := ⟨by decide, by decide, mt_6 (List.mem_of_getElem? (i := 95) rfl) rfl⟩
theorem flX12_155 : gf_FL RX12 155 12 59 := ⟨by decide, by decide, mt_6 (List.mem_of_getElem? (i := 96) rfl) rfl⟩
theorem flX12_427 : gf_FL RX12 427 12 60 := ⟨by decide, by decide, mt_6 (List.mem_of_getElem? (i := 97) rfl) rfl⟩
theorem flX12_158 : gf_FL RX12 158 12 61 := ⟨by decide, by decide, mt_6 (List.mem_of_getElem? (i := 98) rfl) rfl⟩
theorem flX12_424 : gf_FL RX12 424 12 62 := ⟨by decide, by decide, mt_6 (List.mem_of_getElem? (i := 99) rfl) rfl⟩
theorem flX12_161 : gf_FL RX12 161 12 63 := ⟨by decide, by decide, mt_6 (List.mem_of_getElem? (i := 100) rfl) rfl⟩
theorem flX12_164 : gf_FL RX12 164 12 64 := ⟨by decide, by decide, mt_6 (List.mem_of_getElem? (i := 101) rfl) rfl⟩
theorem flX12_167 : gf_FL RX12 167 12 65 := ⟨by decide, by decide, mt_6 (List.mem_of_getElem? (i := 102) rfl) rfl⟩
theorem flX12_170 : gf_FL RX12 170 12 66 := ⟨by decide, by decide, mt_6 (List.mem_of_getElem? (i := 103) rfl) rfl⟩
theorem flX12_173 : gf_FL RX12 173 12 67 := ⟨by decide, by decide, mt_6 (List.mem_of_getElem? (i := 104) rfl) rfl⟩
theorem flX12_176 : gf_FL RX12 176 12 68 := ⟨by decide, by decide, mt_6 (List.mem_of_getElem? (i := 105) rfl) rfl⟩
theorem flX12_179 : gf_FL RX12 179 12 69 := ⟨by decide, by decide, mt_6 (List.mem_of_getElem? (i := 106) rfl) rfl⟩
theorem flX12_502 : gf_FL RX12 502 12 70 := ⟨by decide, by decide, mt_6 (List.mem_of_getElem? (i := 107) rfl) rfl⟩
theorem flX12_523 : gf_FL RX12 523 12 71 := ⟨by decide, by decide, mt_6 (List.mem_of_getElem? (i := 108) rfl) rfl⟩
theorem flX12_526 : gf_FL RX12 526 12 72 := ⟨by decide, by decide, mt_6 (List.mem_of_getElem? (i := 109) rfl) rfl⟩
theorem flX12_529 : gf_FL RX12 529 12 73 := ⟨by decide, by decide, mt_6 (List.mem_of_getElem? (i := 110) rfl) rfl⟩
theorem flX12_532 : gf_FL RX12 532 12 74 := ⟨by decide, by decide, mt_6 (List.mem_of_getElem? (i := 111) rfl) rfl⟩
theorem flX12_183 : gf_FL RX12 183 12 75 := ⟨by decide, by decide, mt_6 (List.mem_of_getElem? (i := 112) rfl) rfl⟩
theorem flX12_186 : gf_FL RX12 186 12 76 := ⟨by decide, by decide, mt_6 (List.mem_of_getElem? (i := 113) rfl) rfl⟩
theorem flX12_189 : gf_FL RX12 189 12 77 := ⟨by decide, by decide, mt_6 (List.mem_of_getElem? (i := 114) rfl) rfl⟩
theorem flX12_192 : gf_FL RX12 192 12 78 := ⟨by decide, by decide, mt_6 (List.mem_of_getElem? (i := 115) rfl) rfl⟩
theorem flX12_195 : gf_FL RX12 195 12 79 := ⟨by decide, by decide, mt_6 (List.mem_of_getElem? (i := 116) rfl) rfl⟩
theorem flX12_198 : gf_FL RX12 198 12 80 := ⟨by decide, by decide, mt_6 (List.mem_of_getElem? (i := 117) rfl) rfl⟩
theorem flX12_201 : gf_FL RX12 201 12 81 := ⟨by decide, by decide, mt_6 (List.mem_of_getElem? (i := 118) rfl) rfl⟩
theorem flX12_204 : gf_FL RX12 204 12 82 := ⟨by decide, by decide, mt_6 (List.mem_of_getElem? (i := 119) rfl) rfl⟩
theorem flX12_207 : gf_FL RX12 207 12 83 := ⟨by decide, by decide, mt_6 (List.mem_of_getElem? (i := 120) rfl) rfl⟩
theorem flX12_210 : gf_FL RX12 210 12 84 := ⟨by decide, by decide, mt_6 (List.mem_of_getElem? (i := 121) rfl) rfl⟩
theorem flX12_213 : gf_FL RX12 213 12 85 := ⟨by decide, by decide, mt_6 (List.mem_of_getElem? (i := 122) rfl) rfl⟩
theorem flX12_216 : gf_FL RX12 216 12 86 := ⟨by decide, by decide, mt_6 (List.mem_of_getElem? (i := 123) rfl) rfl⟩
theorem flX12_219 : gf_FL RX12 219 12 87 := ⟨by decide, by decide, mt_6 (List.mem_of_getElem? (i := 124) rfl) rfl⟩
theorem flX12_222 : gf_FL RX12 222 12 88 := ⟨by decide, by decide, mt_6 (List.mem_of_getElem? (i := 125) rfl) rfl⟩
theorem flX12_225 : gf_FL RX12 225 12 89 := ⟨by decide, by decide, mt_6 (List.mem_of_getElem? (i := 126) rfl) rfl⟩
theorem flX12_430 : gf_FL RX12 430 12 90 := ⟨by decide, by decide, mt_6 (List.mem_of_getElem? (i := 127) rfl) rfl⟩
theorem flX12_617 : gf_FL RX12 617 12 91 := ⟨by decide, by decide, mt_6 (List.mem_of_getElem? (i := 128) rfl) rfl⟩
theorem flX12_620 : gf_FL RX12 620 12 92 := ⟨by decide, by decide, mt_6 (List.mem_of_getElem? (i := 129) rfl) rfl⟩
theorem flX12_228 : gf_FL RX12 228 12 93 := ⟨by decide, by decide, mt_6 (List.mem_of_getElem? (i := 130) rfl) rfl⟩
theorem flX12_231 : gf_FL RX12 231 12 94 := ⟨by decide, by decide, mt_6 (List.mem_of_getElem? (i := 131) rfl) rfl⟩
theorem flX12_234 : gf_FL RX12 234 12 95 := ⟨by decide, by decide, mt_6 (List.mem_of_getElem? (i := 132) rfl) rfl⟩
theorem flX12_237 : gf_FL RX12 237 12 96 := ⟨by decide, by decide, mt_6 (List.mem_of_getElem? (i := 133) rfl) rfl⟩
theorem flX12_240 : gf_FL RX12 240 12 97 := ⟨by decide, by decide, mt_6 (List.mem_of_getElem? (i := 134) rfl) rfl⟩
theorem flX12_243 : gf_FL RX12 243 12 98 := ⟨by decide, by decide, mt_6 (List.mem_of_getElem? (i := 135) rfl) rfl⟩
theorem flX12_246 : gf_FL RX12 246 12 99 := ⟨by decide, by decide, mt_6 (List.mem_of_getElem? (i := 136) rfl) rfl⟩
theorem flX12_249 : gf_FL RX12 249 12 100 := ⟨by decide, by decide, mt_6 (List.mem_of_getElem? (i := 137) rfl) rfl⟩
theorem flX12_252 : gf_FL RX12 252 12 101 := ⟨by decide, by decide, mt_6 (List.mem_of_getElem? (i := 138) rfl) rfl⟩
theorem flX12_255 : gf_FL RX12 255 12 102 := ⟨by decide, by decide, mt_6 (List.mem_of_getElem? (i := 139) rfl) rfl⟩
theorem flX12_626 : gf_FL RX12 626 12 103 := ⟨by decide, by decide, mt_6 (List.mem_of_getElem? (i := 140) rfl) rfl⟩
theorem flX12_258 : gf_FL RX12 258 12 104 := ⟨by decide, by decide, mt_6 (List.mem_of_getElem? (i := 141) rfl) rfl⟩
theorem flX12_261 : gf_FL RX12 261 12 105 := ⟨by decide, by decide, mt_6 (List.mem_of_getElem? (i := 142) rfl) rfl⟩
theorem flX12_264 : gf_FL RX12 264 12 106 := ⟨by decide, by decide, mt_6 (List.mem_of_getElem? (i := 143) rfl) rfl⟩
theorem flX12_267 : gf_FL RX12 267 12 107 := ⟨by decide, by decide, mt_6 (List.mem_of_getElem? (i := 144) rfl) rfl⟩
theorem flX12_270 : gf_FL RX12 270 12 108 := ⟨by decide, by decide, mt_6 (List.mem_of_getElem? (i := 145) rfl) rfl⟩
theorem flX12_273 : gf_FL RX12 273 12 109 := ⟨by decide, by decide, mt_6 (List.mem_of_getElem? (i := 146) rfl) rfl⟩
theorem flX12_276 : gf_FL RX12 276 12 110 := ⟨by decide, by decide, mt_6 (List.mem_of_getElem? (i := 147) rfl) rfl⟩
theorem flX12_634 : gf_FL RX12 634 12 111 := ⟨by decide, by decide, mt_6 (List.mem_of_getElem? (i := 148) rfl) rfl⟩
theorem flX12_434 : gf_FL RX12 434 12 112 := ⟨by decide, by decide, mt_6 (List.mem_of_getElem? (i := 149) rfl) rfl⟩
theorem flX12_279 : gf_FL RX12 279 12 113 := ⟨by decide, by decide, mt_6 (List.mem_of_getElem? (i := 150) rfl) rfl⟩
theorem fsX1_77 : (RX1, 77, "PlateCity", gf_sn 0, "[I", "PlateCity") ∈ gf_nf := by decide +kernel
theorem fsX1_80 : (RX1, 80, "PlateCity", gf_sn 1, "[I", "PlateCity") ∈ gf_nf := by decide +kernel
theorem fsX11_124 : Cond.fieldLink RX11 124 "PlateCity" (gf_sn 2) "[I" ∈ tt := mt_3 (List.mem_of_getElem? (i := 79) rfl) rfl
theorem fsX1_94 : (RX1, 94, "PlateCity", gf_sn 3, "[I", "PlateCity") ∈ gf_nf := by decide +kernel
theorem fsX1_91 : (RX1, 91, "PlateCity", gf_sn 2, "[I", "PlateCity") ∈ gf_nf := by decide +kernel
theorem lkL_9 : Cond.methodLink RL 9 yX11_init ∈ tt := mt_1 (List.mem_of_getElem? (i := 24) rfl) rfl
theorem lkX11_1 : Cond.methodLink RX11 1 ({ cls := "java/lang/Object", name := "<init>", desc := "()V" } : Jvm.MethodName) ∈ tt := mt_1 (List.mem_of_getElem? (i := 27) rfl) rfl
theorem lkX11_9 : (RX11, 9, yX1_init, "PlateCity") ∈ gf_nm := by decide +kernel
theorem lkX1_3 : Cond.methodLink RX1 3 ({ cls := "java/lang/Object", name := "<init>", desc := "()V" } : Jvm.MethodName) ∈ tt := mt_1 (List.mem_of_getElem? (i := 35) rfl) rfl
theorem lkX11_18 : (RX11, 18, yX3_init, "PlateCity") ∈ gf_nm := by decide +kernel
theorem lkX3_3 : Cond.methodLink RX3 3 ({ cls := "java/lang/Object", name := "<init>", desc := "()V" } : Jvm.MethodName) ∈ tt := mt_1 (List.mem_of_getElem? (i := 121) rfl) rfl
theorem lkX11_25 : (RX11, 25, yX9_init, "PlateCity") ∈ gf_nm := by decide +kernel
theorem lkX9_3 : Cond.methodLink RX9 3 ({ cls := "java/lang/Object", name := "<init>", desc := "()V" } : Jvm.MethodName) ∈ tt := mt_1 (List.mem_of_getElem? (i := 150) rfl) rfl
theorem lkX11_32 : (RX11, 32, yX0_init, "PlateCity") ∈ gf_nm := by decide +kernel
theorem lkX0_3 : Cond.methodLink RX0 3 ({ cls := "java/lang/Object", name := "<init>", desc := "()V" } : Jvm.MethodName) ∈ tt := mt_1 (List.mem_of_getElem? (i := 207) rfl) rfl
theorem lkX11_39 : (RX11, 39, yX7_init, "PlateCity") ∈ gf_nm := by decide +kernel
theorem lkX7_3 : Cond.methodLink RX7 3 ({ cls := "java/lang/Object", name := "<init>", desc := "()V" } : Jvm.MethodName) ∈ tt := mt_2 (List.mem_of_getElem? (i := 11) rfl) rfl
theorem lkX11_46 : Cond.methodLink RX11 46 yX6_init ∈ tt := mt_2 (List.mem_of_getElem? (i := 45) rfl) rfl
theorem lkX6_3 : Cond.methodLink RX6 3 ({ cls := "java/lang/Object", name := "<init>", desc := "()V" } : Jvm.MethodName) ∈ tt := mt_2 (List.mem_of_getElem? (i := 48) rfl) rfl
theorem lkX11_55 : Cond.methodLink RX11 55 yX5_init ∈ tt := mt_2 (List.mem_of_getElem? (i := 67) rfl) rfl
theorem lkX5_3 : Cond.methodLink RX5 3 ({ cls := "java/lang/Object", name := "<init>", desc := "()V" } : Jvm.MethodName) ∈ tt := mt_2 (List.mem_of_getElem? (i := 70) rfl) rfl
theorem lkX11_64 : Cond.methodLink RX11 64 yX2_init ∈ tt := mt_2 (List.mem_of_getElem? (i := 128) rfl) rfl
theorem lkX2_3 : Cond.methodLink RX2 3 ({ cls := "java/lang/Object", name := "<init>", desc := "()V" } : Jvm.MethodName) ∈ tt := mt_2 (List.mem_of_getElem? (i := 131) rfl) rfl
theorem lkX11_79 : (RX11, 79, yX4_init, "PlateCity") ∈ gf_nm := by decide +kernel
theorem lkX4_3 : Cond.methodLink RX4 3 ({ cls := "java/lang/Object", name := "<init>", desc := "()V" } : Jvm.MethodName) ∈ tt := mt_2 (List.mem_of_getElem? (i := 173) rfl) rfl
theorem lkX11_86 : Cond.methodLink RX11 86 yX8_init ∈ tt := mt_2 (List.mem_of_getElem? (i := 192) rfl) rfl
theorem lkX8_3 : Cond.methodLink RX8 3 ({ cls := "java/lang/Object", name := "<init>", desc := "()V" } : Jvm.MethodName) ∈ tt := mt_2 (List.mem_of_getElem? (i := 195) rfl) rfl
theorem lkX11_93 : Cond.methodLink RX11 93 yX1_lay ∈ tt := mt_2 (List.mem_of_getElem? (i := 231) rfl) rfl
theorem lkX1_67 : Cond.methodLink RX1 67 yX1_layCell ∈ tt := mt_2 (List.mem_of_getElem? (i := 235) rfl) rfl
theorem lkX1_83 : (RX1, 83, yX11_within, "PlateCity") ∈ gf_nm := by decide +kernel
theorem lkX1_71 : Cond.methodLink RX1 71 yJ7_fill_53178 ∈ tt := mt_3 (List.mem_of_getElem? (i := 6) rfl) rfl
theorem lkL_13 : Cond.methodLink RL 13 yX11_feed ∈ tt := mt_3 (List.mem_of_getElem? (i := 46) rfl) rfl
theorem lkX11_101 : Cond.methodLink RX11 101 yX9_take ∈ tt := mt_3 (List.mem_of_getElem? (i := 50) rfl) rfl
theorem lkL_18 : Cond.methodLink RL 18 yX11_end ∈ tt := mt_3 (List.mem_of_getElem? (i := 54) rfl) rfl
theorem lkL_23 : Cond.methodLink RL 23 yX11_city ∈ tt := mt_3 (List.mem_of_getElem? (i := 58) rfl) rfl
theorem lkX11_105 : Cond.methodLink RX11 105 yX11_within ∈ tt := mt_3 (List.mem_of_getElem? (i := 62) rfl) rfl
theorem lkX11_112 : Cond.methodLink RX11 112 yX0_forget ∈ tt := mt_3 (List.mem_of_getElem? (i := 63) rfl) rfl
theorem lkX11_119 : Cond.methodLink RX11 119 yX8_forget ∈ tt := mt_3 (List.mem_of_getElem? (i := 67) rfl) rfl
theorem lkL_28 : Cond.methodLink RL 28 yX11_house ∈ tt := mt_3 (List.mem_of_getElem? (i := 71) rfl) rfl
theorem lkX11_120 : Cond.methodLink RX11 120 yX1_has ∈ tt := mt_3 (List.mem_of_getElem? (i := 75) rfl) rfl
theorem lkX11_128 : Cond.methodLink RX11 128 yX1_build ∈ tt := mt_3 (List.mem_of_getElem? (i := 81) rfl) rfl
theorem lkL_33 : Cond.methodLink RL 33 yX11_plug ∈ tt := mt_3 (List.mem_of_getElem? (i := 85) rfl) rfl
theorem lkL_38 : Cond.methodLink RL 38 yX11_hazard ∈ tt := mt_3 (List.mem_of_getElem? (i := 89) rfl) rfl
theorem lkL_42 : Cond.methodLink RL 42 yX11_wind ∈ tt := mt_3 (List.mem_of_getElem? (i := 93) rfl) rfl
theorem lkX11_139 : Cond.methodLink RX11 139 yX1_tellWind ∈ tt := mt_3 (List.mem_of_getElem? (i := 97) rfl) rfl
theorem lkL_47 : Cond.methodLink RL 47 yX11_coin ∈ tt := mt_3 (List.mem_of_getElem? (i := 101) rfl) rfl
theorem lkX11_143 : Cond.methodLink RX11 143 yX11_isOffice ∈ tt := mt_3 (List.mem_of_getElem? (i := 105) rfl) rfl
theorem kcX11_146 : Cond.constant RX11 146 (100000000 : Int32) ∈ tt := mt_3 (List.mem_of_getElem? (i := 108) rfl) rfl
theorem lkL_51 : Cond.methodLink RL 51 yX11_engine ∈ tt := mt_3 (List.mem_of_getElem? (i := 109) rfl) rfl
theorem lkX11_150 : Cond.methodLink RX11 150 yX11_mayServe ∈ tt := mt_3 (List.mem_of_getElem? (i := 113) rfl) rfl
theorem lkX11_153 : Cond.methodLink RX11 153 yX3_add ∈ tt := mt_3 (List.mem_of_getElem? (i := 116) rfl) rfl
theorem lkL_56 : Cond.methodLink RL 56 yX11_deal ∈ tt := mt_3 (List.mem_of_getElem? (i := 120) rfl) rfl
theorem lkL_60 : Cond.methodLink RL 60 yX11_terms ∈ tt := mt_3 (List.mem_of_getElem? (i := 124) rfl) rfl
theorem lkX11_160 : Cond.methodLink RX11 160 yX0_full ∈ tt := mt_3 (List.mem_of_getElem? (i := 128) rfl) rfl
theorem lkX11_164 : Cond.methodLink RX11 164 yX9_read ∈ tt := mt_3 (List.mem_of_getElem? (i := 132) rfl) rfl
theorem lkX9_52 : Cond.methodLink RX9 52 yX9_scan ∈ tt := mt_3 (List.mem_of_getElem? (i := 136) rfl) rfl
theorem lkX9_71 : Cond.methodLink RX9 71 yX9_sortOf ∈ tt := mt_3 (List.mem_of_getElem? (i := 140) rfl) rfl
theorem lkX9_77 : Cond.methodLink RX9 77 yJ0_indexOf_0f7a4 ∈ tt := mt_3 (List.mem_of_getElem? (i := 144) rfl) rfl
theorem lkJ0_633 : Cond.methodLink RJ0 633 yJ0_indexOf_7cf53 ∈ tt := mt_3 (List.mem_of_getElem? (i := 148) rfl) rfl
theorem lkJ0_492 : Cond.methodLink RJ0 492 yJ0_isLatin1_aae02 ∈ tt := mt_3 (List.mem_of_getElem? (i := 152) rfl) rfl
theorem lkJ0_505 : Cond.methodLink RJ0 505 yJ0_length_8abf5 ∈ tt := mt_3 (List.mem_of_getElem? (i := 158) rfl) rfl
theorem lkJ0_335 : Cond.methodLink RJ0 335 yJ0_coder_7d493 ∈ tt := mt_3 (List.mem_of_getElem? (i := 162) rfl) rfl
theorem lkJ0_637 : Cond.methodLink RJ0 637 yJ1_indexOf_4cfef ∈ tt := mt_3 (List.mem_of_getElem? (i := 166) rfl) rfl
theorem lkJ1_88 : Cond.methodLink RJ1 88 yJ1_canEncode_9a6ad ∈ tt := mt_3 (List.mem_of_getElem? (i := 169) rfl) rfl
theorem lkJ1_92 : Cond.methodLink RJ1 92 yJ9_max_7cf53 ∈ tt := mt_3 (List.mem_of_getElem? (i := 172) rfl) rfl
theorem lkJ1_38 : Cond.methodLink RJ1 38 yJ9_min_7cf53 ∈ tt := mt_3 (List.mem_of_getElem? (i := 175) rfl) rfl
theorem lkJ1_95 : Cond.methodLink RJ1 95 yJ1_indexOfChar_4cfef ∈ tt := mt_3 (List.mem_of_getElem? (i := 178) rfl) rfl
theorem lkJ0_640 : Cond.methodLink RJ0 640 yJ2_indexOf_4cfef ∈ tt := mt_3 (List.mem_of_getElem? (i := 181) rfl) rfl
theorem lkJ2_224 : Cond.methodLink RJ2 224 yJ9_max_7cf53 ∈ tt := mt_3 (List.mem_of_getElem? (i := 184) rfl) rfl
theorem lkJ2_183 : Cond.methodLink RJ2 183 yJ9_min_7cf53 ∈ tt := mt_3 (List.mem_of_getElem? (i := 185) rfl) rfl
theorem kcJ2_227 : Cond.constant RJ2 227 (65536 : Int32) ∈ tt := mt_3 (List.mem_of_getElem? (i := 186) rfl) rfl
theorem lkJ2_228 : Cond.methodLink RJ2 228 yJ2_indexOfChar_4cfef ∈ tt := mt_3 (List.mem_of_getElem? (i := 187) rfl) rfl
theorem lkJ2_96 : Cond.methodLink RJ2 96 yJ2_checkBoundsBeginEnd_d044e ∈ tt := mt_3 (List.mem_of_getElem? (i := 190) rfl) rfl
theorem lkJ2_48 : Cond.methodLink RJ2 48 yJ2_length_9d52b ∈ tt := mt_3 (List.mem_of_getElem? (i := 193) rfl) rfl
theorem lkJ2_241 : Cond.methodLink RJ2 241 yJ0_checkBoundsBeginEnd_23922 ∈ tt := mt_3 (List.mem_of_getElem? (i := 196) rfl) rfl
theorem lkJ0_1062 : Cond.methodLink RJ0 1062 yJ3_checkFromToIndex_8c36e ∈ tt := mt_3 (List.mem_of_getElem? (i := 201) rfl) rfl
theorem lkJ2_244 : Cond.methodLink RJ2 244 yJ2_indexOfCharUnsafe_4cfef ∈ tt := mt_3 (List.mem_of_getElem? (i := 204) rfl) rfl
theorem lkJ2_71 : Cond.methodLink RJ2 71 yJ2_getChar_3b067 ∈ tt := mt_3 (List.mem_of_getElem? (i := 207) rfl) rfl
theorem lkJ2_232 : Cond.methodLink RJ2 232 yJ2_indexOfSupplementary_4cfef ∈ tt := mt_3 (List.mem_of_getElem? (i := 216) rfl) rfl
theorem lkJ2_164 : Cond.methodLink RJ2 164 yJ11_isValidCodePoint_9a6ad ∈ tt := mt_3 (List.mem_of_getElem? (i := 219) rfl) rfl
theorem lkJ2_157 : Cond.methodLink RJ2 157 yJ11_highSurrogate_5068e ∈ tt := mt_3 (List.mem_of_getElem? (i := 222) rfl) rfl
theorem kcJ11_110 : Cond.constant RJ11 110 (55232 : Int32) ∈ tt := mt_3 (List.mem_of_getElem? (i := 225) rfl) rfl
theorem lkJ2_161 : Cond.methodLink RJ2 161 yJ11_lowSurrogate_5068e ∈ tt := mt_3 (List.mem_of_getElem? (i := 226) rfl) rfl
theorem kcJ11_76 : Cond.constant RJ11 76 (56320 : Int32) ∈ tt := mt_3 (List.mem_of_getElem? (i := 229) rfl) rfl
theorem lkX9_82 : Cond.methodLink RX9 82 yX9_addToken ∈ tt := mt_3 (List.mem_of_getElem? (i := 230) rfl) rfl
theorem lkX9_86 : Cond.methodLink RX9 86 yX9_wordAt ∈ tt := mt_3 (List.mem_of_getElem? (i := 234) rfl) rfl
theorem lkX9_94 : Cond.methodLink RX9 94 yJ0_length_8abf5 ∈ tt := mt_3 (List.mem_of_getElem? (i := 239) rfl) rfl
theorem lkX9_96 : Cond.methodLink RX9 96 yJ0_charAt_5068e ∈ tt := mt_4 (List.mem_of_getElem? (i := 0) rfl) rfl
theorem lkJ0_495 : Cond.methodLink RJ0 495 yJ1_charAt_3b067 ∈ tt := mt_4 (List.mem_of_getElem? (i := 4) rfl) rfl
theorem lkJ1_9 : Cond.methodLink RJ1 9 yJ0_checkIndex_df160 ∈ tt := mt_4 (List.mem_of_getElem? (i := 7) rfl) rfl
theorem lkJ0_1059 : Cond.methodLink RJ0 1059 yJ3_checkIndex_8e157 ∈ tt := mt_4 (List.mem_of_getElem? (i := 10) rfl) rfl
theorem lkJ0_498 : Cond.methodLink RJ0 498 yJ2_charAt_3b067 ∈ tt := mt_4 (List.mem_of_getElem? (i := 13) rfl) rfl
theorem lkJ2_67 : Cond.methodLink RJ2 67 yJ2_checkIndex_2214a ∈ tt := mt_4 (List.mem_of_getElem? (i := 16) rfl) rfl
theorem lkJ2_414 : Cond.methodLink RJ2 414 yJ0_checkIndex_df160 ∈ tt := mt_4 (List.mem_of_getElem? (i := 19) rfl) rfl
theorem lkX9_89 : Cond.methodLink RX9 89 yX9_numberAt ∈ tt := mt_4 (List.mem_of_getElem? (i := 20) rfl) rfl
theorem lkX9_55 : Cond.methodLink RX9 55 yX9_token ∈ tt := mt_4 (List.mem_of_getElem? (i := 24) rfl) rfl
theorem lkX9_59 : Cond.methodLink RX9 59 yX9_readStatement ∈ tt := mt_4 (List.mem_of_getElem? (i := 28) rfl) rfl
theorem lkX9_100 : Cond.methodLink RX9 100 yX9_here ∈ tt := mt_4 (List.mem_of_getElem? (i := 32) rfl) rfl
theorem lkX9_103 : Cond.methodLink RX9 103 yX9_refuse ∈ tt := mt_4 (List.mem_of_getElem? (i := 36) rfl) rfl
theorem lkX9_107 : Cond.methodLink RX9 107 yX9_readRow ∈ tt := mt_4 (List.mem_of_getElem? (i := 40) rfl) rfl
theorem lkX9_114 : Cond.methodLink RX9 114 yX9_readItem ∈ tt := mt_4 (List.mem_of_getElem? (i := 44) rfl) rfl
theorem lkX9_123 : Cond.methodLink RX9 123 yX9_readFact ∈ tt := mt_4 (List.mem_of_getElem? (i := 48) rfl) rfl
theorem lkX9_129 : Cond.methodLink RX9 129 yX9_enter ∈ tt := mt_4 (List.mem_of_getElem? (i := 52) rfl) rfl
theorem lkX9_120 : Cond.methodLink RX9 120 yX9_emit ∈ tt := mt_4 (List.mem_of_getElem? (i := 56) rfl) rfl
theorem lkX9_110 : Cond.methodLink RX9 110 yX9_pass ∈ tt := mt_4 (List.mem_of_getElem? (i := 60) rfl) rfl
theorem lkX9_132 : Cond.methodLink RX9 132 yX9_readNumber ∈ tt := mt_4 (List.mem_of_getElem? (i := 64) rfl) rfl
theorem lkX9_135 : Cond.methodLink RX9 135 yX9_readComparison ∈ tt := mt_4 (List.mem_of_getElem? (i := 68) rfl) rfl
theorem lkX9_126 : Cond.methodLink RX9 126 yX9_readPart ∈ tt := mt_4 (List.mem_of_getElem? (i := 72) rfl) rfl
theorem kcX9_138 : Cond.constant RX9 138 (99999 : Int32) ∈ tt := mt_4 (List.mem_of_getElem? (i := 76) rfl) rfl
theorem lkX9_117 : Cond.methodLink RX9 117 yX9_joins ∈ tt := mt_4 (List.mem_of_getElem? (i := 77) rfl) rfl
theorem lkX9_65 : Cond.methodLink RX9 65 yX10_init ∈ tt := mt_4 (List.mem_of_getElem? (i := 82) rfl) rfl
theorem lkX10_3 : Cond.methodLink RX10 3 ({ cls := "java/lang/Object", name := "<init>", desc := "()V" } : Jvm.MethodName) ∈ tt := mt_4 (List.mem_of_getElem? (i := 85) rfl) rfl
theorem lkX10_25 : Cond.methodLink RX10 25 yJ7_copyOf_59c91 ∈ tt := mt_4 (List.mem_of_getElem? (i := 86) rfl) rfl
theorem lkJ7_316 : Cond.methodLink RJ7 316 ({ cls := "[I", name := "clone", desc := "()Ljava/lang/Object;" } : Jvm.MethodName) ∈ tt := mt_4 (List.mem_of_getElem? (i := 89) rfl) rfl
theorem lkJ7_304 : Cond.methodLink RJ7 304 yJ9_min_7cf53 ∈ tt := mt_4 (List.mem_of_getElem? (i := 96) rfl) rfl
theorem lkJ7_150 : Cond.methodLink RJ7 150 ({ cls := "java/lang/System", name := "arraycopy", desc := "(Ljava/lang/Object;ILjava/lang/Object;II)V" } : Jvm.MethodName) ∈ tt := mt_4 (List.mem_of_getElem? (i := 97) rfl) rfl
theorem lkX11_168 : Cond.methodLink RX11 168 yX0_addTerms ∈ tt := mt_4 (List.mem_of_getElem? (i := 131) rfl) rfl
theorem lkX0_40 : Cond.methodLink RX0 40 yX0_add ∈ tt := mt_4 (List.mem_of_getElem? (i := 135) rfl) rfl
theorem lkX0_47 : Cond.methodLink RX0 47 yX0_full ∈ tt := mt_4 (List.mem_of_getElem? (i := 139) rfl) rfl
theorem lkL_65 : Cond.methodLink RL 65 yX11_fault ∈ tt := mt_4 (List.mem_of_getElem? (i := 140) rfl) rfl
theorem lkL_69 : Cond.methodLink RL 69 yX11_policy ∈ tt := mt_4 (List.mem_of_getElem? (i := 144) rfl) rfl
theorem lkX11_178 : Cond.methodLink RX11 178 yX1_hasHouse ∈ tt := mt_4 (List.mem_of_getElem? (i := 148) rfl) rfl
theorem lkX1_87 : Cond.methodLink RX1 87 yX1_has ∈ tt := mt_4 (List.mem_of_getElem? (i := 152) rfl) rfl
theorem kcX11_181 : Cond.constant RX11 181 (99999 : Int32) ∈ tt := mt_4 (List.mem_of_getElem? (i := 153) rfl) rfl
theorem lkX11_182 : Cond.methodLink RX11 182 yX0_addPolicy ∈ tt := mt_4 (List.mem_of_getElem? (i := 154) rfl) rfl
theorem lkL_74 : Cond.methodLink RL 74 yX11_annul ∈ tt := mt_4 (List.mem_of_getElem? (i := 158) rfl) rfl
theorem lkX11_186 : Cond.methodLink RX11 186 yX0_mayBeVoid ∈ tt := mt_4 (List.mem_of_getElem? (i := 162) rfl) rfl
theorem lkX0_51 : (RX0, 51, yX11_within, "PlateCity") ∈ gf_nm := by decide +kernel
theorem lkX11_189 : Cond.methodLink RX11 189 yX0_addVoid ∈ tt := mt_4 (List.mem_of_getElem? (i := 167) rfl) rfl
theorem lkX0_44 : Cond.methodLink RX0 44 yX0_mayBeVoid ∈ tt := mt_4 (List.mem_of_getElem? (i := 171) rfl) rfl
theorem lkL_78 : Cond.methodLink RL 78 yX11_as ∈ tt := mt_4 (List.mem_of_getElem? (i := 172) rfl) rfl
theorem lkL_82 : Cond.methodLink RL 82 yX11_force ∈ tt := mt_4 (List.mem_of_getElem? (i := 176) rfl) rfl
theorem lkX11_197 : Cond.methodLink RX11 197 yX7_gather ∈ tt := mt_4 (List.mem_of_getElem? (i := 180) rfl) rfl
theorem lkX7_34 : Cond.methodLink RX7 34 yJ7_fill_53178 ∈ tt := mt_4 (List.mem_of_getElem? (i := 184) rfl) rfl
theorem lkX7_40 : Cond.methodLink RX7 40 yX0_horizon ∈ tt := mt_4 (List.mem_of_getElem? (i := 185) rfl) rfl
theorem lkX7_46 : Cond.methodLink RX7 46 yX0_knownAt ∈ tt := mt_4 (List.mem_of_getElem? (i := 189) rfl) rfl
theorem lkX0_55 : Cond.methodLink RX0 55 yJ9_min_7cf53 ∈ tt := mt_4 (List.mem_of_getElem? (i := 193) rfl) rfl
theorem lkX7_50 : Cond.methodLink RX7 50 yX7_note ∈ tt := mt_4 (List.mem_of_getElem? (i := 194) rfl) rfl
theorem lkX7_57 : Cond.methodLink RX7 57 yX0_isTerms ∈ tt := mt_4 (List.mem_of_getElem? (i := 198) rfl) rfl
theorem lkX7_64 : Cond.methodLink RX7 64 yX0_isPolicy ∈ tt := mt_4 (List.mem_of_getElem? (i := 202) rfl) rfl
theorem lkL_86 : Cond.methodLink RL 86 yX11_premium ∈ tt := mt_4 (List.mem_of_getElem? (i := 206) rfl) rfl
theorem lkX11_208 : Cond.methodLink RX11 208 yX0_isPolicy ∈ tt := mt_4 (List.mem_of_getElem? (i := 210) rfl) rfl
theorem lkX11_211 : Cond.methodLink RX11 211 yX0_horizon ∈ tt := mt_4 (List.mem_of_getElem? (i := 211) rfl) rfl
theorem lkX11_215 : Cond.methodLink RX11 215 yX0_knownAt ∈ tt := mt_4 (List.mem_of_getElem? (i := 212) rfl) rfl
theorem lkX11_222 : Cond.methodLink RX11 222 yX6_goTo ∈ tt := mt_4 (List.mem_of_getElem? (i := 213) rfl) rfl
theorem lkX6_37 : Cond.methodLink RX6 37 yX1_housesAround ∈ tt := mt_4 (List.mem_of_getElem? (i := 217) rfl) rfl
theorem lkX11_231 : Cond.methodLink RX11 231 yX6_takePolicy ∈ tt := mt_4 (List.mem_of_getElem? (i := 221) rfl) rfl
theorem lkX11_237 : Cond.methodLink RX11 237 yX6_premiumBy ∈ tt := mt_4 (List.mem_of_getElem? (i := 225) rfl) rfl
theorem lkX6_87 : Cond.methodLink RX6 87 yX6_valueOf ∈ tt := mt_4 (List.mem_of_getElem? (i := 229) rfl) rfl
theorem lkX6_109 : (RX6, 109, yX11_within, "PlateCity") ∈ gf_nm := by decide +kernel
theorem lkX6_100 : Cond.methodLink RX6 100 yJ9_min_7cf53 ∈ tt := mt_4 (List.mem_of_getElem? (i := 234) rfl) rfl
theorem lkX6_119 : Cond.methodLink RX6 119 yX6_isJoin ∈ tt := mt_4 (List.mem_of_getElem? (i := 235) rfl) rfl
theorem lkX6_123 : Cond.methodLink RX6 123 yX6_joined ∈ tt := mt_4 (List.mem_of_getElem? (i := 238) rfl) rfl
theorem lkX6_130 : Cond.methodLink RX6 130 yJ9_floorDiv_7cf53 ∈ tt := mt_5 (List.mem_of_getElem? (i := 1) rfl) rfl
theorem kcX6_133 : Cond.constantLong RX6 133 (1000000000 : Int64) ∈ tt := mt_5 (List.mem_of_getElem? (i := 4) rfl) rfl
theorem kcX6_135 : Cond.constant RX6 135 (1000000000 : Int32) ∈ tt := mt_5 (List.mem_of_getElem? (i := 5) rfl) rfl
theorem kcX6_136 : Cond.constantLong RX6 136 (-1000000000 : Int64) ∈ tt := mt_5 (List.mem_of_getElem? (i := 6) rfl) rfl
theorem kcX6_138 : Cond.constant RX6 138 (-1000000000 : Int32) ∈ tt := mt_5 (List.mem_of_getElem? (i := 7) rfl) rfl
theorem lkX6_127 : Cond.methodLink RX6 127 yX6_single ∈ tt := mt_5 (List.mem_of_getElem? (i := 8) rfl) rfl
theorem lkX6_91 : Cond.methodLink RX6 91 yJ9_max_7cf53 ∈ tt := mt_5 (List.mem_of_getElem? (i := 12) rfl) rfl
theorem lkL_90 : Cond.methodLink RL 90 yX11_helps ∈ tt := mt_5 (List.mem_of_getElem? (i := 13) rfl) rfl
theorem lkX11_241 : Cond.methodLink RX11 241 yX6_helpersAt ∈ tt := mt_5 (List.mem_of_getElem? (i := 17) rfl) rfl
theorem lkX6_63 : Cond.methodLink RX6 63 yX6_goTo ∈ tt := mt_5 (List.mem_of_getElem? (i := 21) rfl) rfl
theorem lkX6_70 : Cond.methodLink RX6 70 yX6_takePolicy ∈ tt := mt_5 (List.mem_of_getElem? (i := 22) rfl) rfl
theorem lkX6_78 : Cond.methodLink RX6 78 yX6_some ∈ tt := mt_5 (List.mem_of_getElem? (i := 23) rfl) rfl
theorem lkL_94 : Cond.methodLink RL 94 yX11_run ∈ tt := mt_5 (List.mem_of_getElem? (i := 27) rfl) rfl
theorem lkX11_244 : Cond.methodLink RX11 244 yX11_learn ∈ tt := mt_5 (List.mem_of_getElem? (i := 31) rfl) rfl
theorem lkX11_334 : Cond.methodLink RX11 334 yX6_findHelpers ∈ tt := mt_5 (List.mem_of_getElem? (i := 35) rfl) rfl
theorem lkX6_60 : Cond.methodLink RX6 60 yX6_helpersAt ∈ tt := mt_5 (List.mem_of_getElem? (i := 39) rfl) rfl
theorem lkX11_250 : Cond.methodLink RX11 250 yX5_burn ∈ tt := mt_5 (List.mem_of_getElem? (i := 40) rfl) rfl
theorem lkX5_54 : Cond.methodLink RX5 54 yX5_makeReady ∈ tt := mt_5 (List.mem_of_getElem? (i := 44) rfl) rfl
theorem lkX5_88 : Cond.methodLink RX5 88 yX1_plugNear ∈ tt := mt_5 (List.mem_of_getElem? (i := 48) rfl) rfl
theorem lkX1_103 : Cond.methodLink RX1 103 yX1_apart ∈ tt := mt_5 (List.mem_of_getElem? (i := 52) rfl) rfl
theorem lkX1_97 : Cond.methodLink RX1 97 yJ9_abs_0f7a4 ∈ tt := mt_5 (List.mem_of_getElem? (i := 56) rfl) rfl
theorem lkX5_57 : Cond.methodLink RX5 57 yX5_kindle ∈ tt := mt_5 (List.mem_of_getElem? (i := 59) rfl) rfl
theorem lkX5_61 : Cond.methodLink RX5 61 yX5_consume ∈ tt := mt_5 (List.mem_of_getElem? (i := 63) rfl) rfl
theorem lkX5_103 : Cond.methodLink RX5 103 yJ9_min_7cf53 ∈ tt := mt_5 (List.mem_of_getElem? (i := 67) rfl) rfl
theorem lkX5_109 : Cond.methodLink RX5 109 yX1_fuelOf ∈ tt := mt_5 (List.mem_of_getElem? (i := 68) rfl) rfl
theorem lkX5_64 : Cond.methodLink RX5 64 yX5_spread ∈ tt := mt_5 (List.mem_of_getElem? (i := 74) rfl) rfl
theorem lkX5_113 : Cond.methodLink RX5 113 yX5_mayCatch ∈ tt := mt_5 (List.mem_of_getElem? (i := 78) rfl) rfl
theorem lkX5_116 : Cond.methodLink RX5 116 yJ9_max_7cf53 ∈ tt := mt_5 (List.mem_of_getElem? (i := 82) rfl) rfl
theorem lkX5_125 : Cond.methodLink RX5 125 yX5_warmAround ∈ tt := mt_5 (List.mem_of_getElem? (i := 83) rfl) rfl
theorem lkX5_129 : Cond.methodLink RX5 129 yX1_resistOf ∈ tt := mt_5 (List.mem_of_getElem? (i := 87) rfl) rfl
theorem lkX5_68 : Cond.methodLink RX5 68 yX5_drive ∈ tt := mt_5 (List.mem_of_getElem? (i := 92) rfl) rfl
theorem lkX5_145 : Cond.methodLink RX5 145 yX5_nearest ∈ tt := mt_5 (List.mem_of_getElem? (i := 96) rfl) rfl
theorem lkX5_159 : Cond.methodLink RX5 159 yX1_apart ∈ tt := mt_5 (List.mem_of_getElem? (i := 100) rfl) rfl
theorem lkX5_152 : Cond.methodLink RX5 152 yX5_gone ∈ tt := mt_5 (List.mem_of_getElem? (i := 101) rfl) rfl
theorem lkX5_165 : Cond.methodLink RX5 165 yX5_toward ∈ tt := mt_5 (List.mem_of_getElem? (i := 105) rfl) rfl
theorem lkX5_168 : Cond.methodLink RX5 168 yJ9_abs_0f7a4 ∈ tt := mt_5 (List.mem_of_getElem? (i := 108) rfl) rfl
theorem lkX5_156 : Cond.methodLink RX5 156 yX5_pour ∈ tt := mt_5 (List.mem_of_getElem? (i := 109) rfl) rfl
theorem lkX5_72 : Cond.methodLink RX5 72 yX5_tally ∈ tt := mt_5 (List.mem_of_getElem? (i := 113) rfl) rfl
theorem lkX11_254 : Cond.methodLink RX11 254 yX2_settleAll ∈ tt := mt_5 (List.mem_of_getElem? (i := 117) rfl) rfl
theorem lkX2_44 : Cond.methodLink RX2 44 yJ7_fill_53178 ∈ tt := mt_5 (List.mem_of_getElem? (i := 121) rfl) rfl
theorem lkX2_67 : Cond.methodLink RX2 67 yX2_settleHouse ∈ tt := mt_5 (List.mem_of_getElem? (i := 122) rfl) rfl
theorem lkX2_76 : Cond.methodLink RX2 76 yX6_goTo ∈ tt := mt_5 (List.mem_of_getElem? (i := 126) rfl) rfl
theorem lkX2_91 : Cond.methodLink RX2 91 yX6_takePolicy ∈ tt := mt_5 (List.mem_of_getElem? (i := 127) rfl) rfl
theorem lkX2_99 : Cond.methodLink RX2 99 yX6_askBy ∈ tt := mt_5 (List.mem_of_getElem? (i := 128) rfl) rfl
theorem lkX2_103 : Cond.methodLink RX2 103 yX2_payInTurn ∈ tt := mt_5 (List.mem_of_getElem? (i := 132) rfl) rfl
theorem lkX2_116 : Cond.methodLink RX2 116 yX2_isBeside ∈ tt := mt_5 (List.mem_of_getElem? (i := 136) rfl) rfl
theorem lkX2_120 : Cond.methodLink RX2 120 yJ9_min_7cf53 ∈ tt := mt_5 (List.mem_of_getElem? (i := 140) rfl) rfl
theorem lkX2_107 : Cond.methodLink RX2 107 yX2_payByParts ∈ tt := mt_5 (List.mem_of_getElem? (i := 141) rfl) rfl
theorem lkX2_125 : Cond.methodLink RX2 125 yX2_payFloors ∈ tt := mt_5 (List.mem_of_getElem? (i := 145) rfl) rfl
theorem kcX2_131 : Cond.constantLong RX2 131 (-1 : Int64) ∈ tt := mt_5 (List.mem_of_getElem? (i := 149) rfl) rfl
theorem lkX2_128 : Cond.methodLink RX2 128 yX2_payRests ∈ tt := mt_5 (List.mem_of_getElem? (i := 150) rfl) rfl
theorem lkX11_258 : Cond.methodLink RX11 258 yX5_touched ∈ tt := mt_5 (List.mem_of_getElem? (i := 154) rfl) rfl
theorem lkL_99 : Cond.methodLink RL 99 yX11_burnt ∈ tt := mt_5 (List.mem_of_getElem? (i := 158) rfl) rfl
theorem lkX11_264 : Cond.methodLink RX11 264 yX5_tellHouse ∈ tt := mt_5 (List.mem_of_getElem? (i := 162) rfl) rfl
theorem lkL_103 : Cond.methodLink RL 103 yX11_came ∈ tt := mt_5 (List.mem_of_getElem? (i := 166) rfl) rfl
theorem lkX11_271 : Cond.methodLink RX11 271 yX5_tellEngine ∈ tt := mt_5 (List.mem_of_getElem? (i := 170) rfl) rfl
theorem lkL_107 : Cond.methodLink RL 107 yX11_lost ∈ tt := mt_5 (List.mem_of_getElem? (i := 174) rfl) rfl
theorem lkL_112 : Cond.methodLink RL 112 yX11_claim ∈ tt := mt_5 (List.mem_of_getElem? (i := 178) rfl) rfl
theorem lkL_116 : Cond.methodLink RL 116 yX11_settled ∈ tt := mt_5 (List.mem_of_getElem? (i := 182) rfl) rfl
theorem lkL_120 : Cond.methodLink RL 120 yX11_fall ∈ tt := mt_5 (List.mem_of_getElem? (i := 186) rfl) rfl
theorem kcX11_289 : Cond.constantLong RX11 289 (-1 : Int64) ∈ tt := mt_5 (List.mem_of_getElem? (i := 190) rfl) rfl
theorem lkX11_291 : Cond.methodLink RX11 291 yX4_work ∈ tt := mt_5 (List.mem_of_getElem? (i := 191) rfl) rfl
theorem kcX4_28 : Cond.constantLong RX4 28 (1000 : Int64) ∈ tt := mt_5 (List.mem_of_getElem? (i := 195) rfl) rfl
theorem lkX4_34 : Cond.methodLink RX4 34 yX4_goRound ∈ tt := mt_5 (List.mem_of_getElem? (i := 196) rfl) rfl
theorem lkX4_42 : Cond.methodLink RX4 42 yX4_got ∈ tt := mt_5 (List.mem_of_getElem? (i := 200) rfl) rfl
theorem lkX4_46 : Cond.methodLink RX4 46 yX4_payFrom ∈ tt := mt_5 (List.mem_of_getElem? (i := 204) rfl) rfl
theorem lkX4_50 : Cond.methodLink RX4 50 yX4_sumOf ∈ tt := mt_5 (List.mem_of_getElem? (i := 208) rfl) rfl
theorem lkX11_295 : Cond.methodLink RX11 295 yX4_tell ∈ tt := mt_5 (List.mem_of_getElem? (i := 211) rfl) rfl
theorem kcX4_54 : Cond.constantLong RX4 54 (-1 : Int64) ∈ tt := mt_5 (List.mem_of_getElem? (i := 215) rfl) rfl
theorem lkL_125 : Cond.methodLink RL 125 yX11_rounds ∈ tt := mt_5 (List.mem_of_getElem? (i := 216) rfl) rfl
theorem lkL_129 : Cond.methodLink RL 129 yX11_worst ∈ tt := mt_5 (List.mem_of_getElem? (i := 220) rfl) rfl
theorem lkL_133 : Cond.methodLink RL 133 yX11_place ∈ tt := mt_5 (List.mem_of_getElem? (i := 224) rfl) rfl
theorem lkX11_308 : Cond.methodLink RX11 308 yX8_isTold ∈ tt := mt_5 (List.mem_of_getElem? (i := 228) rfl) rfl
theorem lkL_137 : Cond.methodLink RL 137 yX11_plan ∈ tt := mt_5 (List.mem_of_getElem? (i := 232) rfl) rfl
theorem lkX11_317 : Cond.methodLink RX11 317 yX8_order ∈ tt := mt_5 (List.mem_of_getElem? (i := 236) rfl) rfl
theorem lkX11_320 : Cond.methodLink RX11 320 yX8_seek ∈ tt := mt_6 (List.mem_of_getElem? (i := 0) rfl) rfl
theorem lkX8_50 : Cond.methodLink RX8 50 yX8_addChosen ∈ tt := mt_6 (List.mem_of_getElem? (i := 4) rfl) rfl
theorem lkX8_70 : Cond.methodLink RX8 70 yX3_add ∈ tt := mt_6 (List.mem_of_getElem? (i := 8) rfl) rfl
theorem lkX8_54 : Cond.methodLink RX8 54 yX5_burn ∈ tt := mt_6 (List.mem_of_getElem? (i := 9) rfl) rfl
theorem lkX8_63 : Cond.methodLink RX8 63 yX8_keep ∈ tt := mt_6 (List.mem_of_getElem? (i := 10) rfl) rfl
theorem lkX8_66 : Cond.methodLink RX8 66 yX8_chooseNext ∈ tt := mt_6 (List.mem_of_getElem? (i := 14) rfl) rfl
theorem lkL_142 : Cond.methodLink RL 142 yX11_planned ∈ tt := mt_6 (List.mem_of_getElem? (i := 18) rfl) rfl
theorem lkL_146 : Cond.methodLink RL 146 yX11_all ∈ tt := mt_6 (List.mem_of_getElem? (i := 22) rfl) rfl
theorem lkX11_330 : Cond.methodLink RX11 330 yX1_many ∈ tt := mt_6 (List.mem_of_getElem? (i := 26) rfl) rfl
theorem lkL_12 : Cond.methodLink RL 12 yX12_init ∈ tt := mt_6 (List.mem_of_getElem? (i := 32) rfl) rfl
theorem lkX12_1 : Cond.methodLink RX12 1 ({ cls := "java/lang/Object", name := "<init>", desc := "()V" } : Jvm.MethodName) ∈ tt := mt_6 (List.mem_of_getElem? (i := 35) rfl) rfl
theorem kcX12_99 : Cond.constant RX12 99 (128640 : Int32) ∈ tt := mt_6 (List.mem_of_getElem? (i := 36) rfl) rfl
theorem lkL_17 : Cond.methodLink RL 17 yX12_feed ∈ tt := mt_7 (List.mem_of_getElem? (i := 141) rfl) rfl
theorem lkL_22 : Cond.methodLink RL 22 yX12_end ∈ tt := mt_7 (List.mem_of_getElem? (i := 145) rfl) rfl
theorem lkL_27 : Cond.methodLink RL 27 yX12_city ∈ tt := mt_7 (List.mem_of_getElem? (i := 149) rfl) rfl
theorem kcX12_417 : Cond.constantLong RX12 417 (12 : Int64) ∈ tt := mt_7 (List.mem_of_getElem? (i := 153) rfl) rfl
theorem lkX12_325 : Cond.methodLink RX12 325 yX12_isIn ∈ tt := mt_7 (List.mem_of_getElem? (i := 154) rfl) rfl
theorem kcX12_419 : Cond.constantLong RX12 419 (10 : Int64) ∈ tt := mt_7 (List.mem_of_getElem? (i := 157) rfl) rfl
theorem lkL_32 : Cond.methodLink RL 32 yX12_house ∈ tt := mt_7 (List.mem_of_getElem? (i := 158) rfl) rfl
theorem lkX12_412 : Cond.methodLink RX12 412 yX12_isCell ∈ tt := mt_7 (List.mem_of_getElem? (i := 162) rfl) rfl
theorem lkX12_409 : Cond.methodLink RX12 409 yX12_cells ∈ tt := mt_7 (List.mem_of_getElem? (i := 166) rfl) rfl
theorem kcX12_437 : Cond.constantLong RX12 437 (3 : Int64) ∈ tt := mt_7 (List.mem_of_getElem? (i := 170) rfl) rfl
theorem kcX12_439 : Cond.constantLong RX12 439 (5 : Int64) ∈ tt := mt_7 (List.mem_of_getElem? (i := 171) rfl) rfl
theorem kcX12_441 : Cond.constantLong RX12 441 (9999 : Int64) ∈ tt := mt_7 (List.mem_of_getElem? (i := 172) rfl) rfl
theorem lkL_37 : Cond.methodLink RL 37 yX12_plug ∈ tt := mt_7 (List.mem_of_getElem? (i := 173) rfl) rfl
theorem lkL_41 : Cond.methodLink RL 41 yX12_hazard ∈ tt := mt_7 (List.mem_of_getElem? (i := 177) rfl) rfl
theorem kcX12_443 : Cond.constantLong RX12 443 (9 : Int64) ∈ tt := mt_7 (List.mem_of_getElem? (i := 181) rfl) rfl
theorem lkL_46 : Cond.methodLink RL 46 yX12_wind ∈ tt := mt_7 (List.mem_of_getElem? (i := 182) rfl) rfl
theorem kcX12_445 : Cond.constantLong RX12 445 (120 : Int64) ∈ tt := mt_7 (List.mem_of_getElem? (i := 186) rfl) rfl
theorem kcX12_447 : Cond.constantLong RX12 447 (7 : Int64) ∈ tt := mt_7 (List.mem_of_getElem? (i := 187) rfl) rfl
theorem kcX12_449 : Cond.constantLong RX12 449 (20 : Int64) ∈ tt := mt_7 (List.mem_of_getElem? (i := 188) rfl) rfl
theorem lkL_50 : Cond.methodLink RL 50 yX12_coin ∈ tt := mt_7 (List.mem_of_getElem? (i := 189) rfl) rfl
theorem lkX12_451 : Cond.methodLink RX12 451 yX12_isOffice ∈ tt := mt_7 (List.mem_of_getElem? (i := 193) rfl) rfl
theorem kcX12_415 : Cond.constantLong RX12 415 (8 : Int64) ∈ tt := mt_7 (List.mem_of_getElem? (i := 196) rfl) rfl
theorem kcX12_454 : Cond.constantLong RX12 454 (100000000 : Int64) ∈ tt := mt_7 (List.mem_of_getElem? (i := 197) rfl) rfl
theorem lkL_55 : Cond.methodLink RL 55 yX12_engine ∈ tt := mt_7 (List.mem_of_getElem? (i := 198) rfl) rfl
theorem lkX12_456 : Cond.methodLink RX12 456 yX12_stands ∈ tt := mt_7 (List.mem_of_getElem? (i := 202) rfl) rfl
theorem lkL_59 : Cond.methodLink RL 59 yX12_deal ∈ tt := mt_7 (List.mem_of_getElem? (i := 206) rfl) rfl
theorem kcX12_460 : Cond.constantLong RX12 460 (1000 : Int64) ∈ tt := mt_7 (List.mem_of_getElem? (i := 210) rfl) rfl
theorem lkL_64 : Cond.methodLink RL 64 yX12_terms ∈ tt := mt_7 (List.mem_of_getElem? (i := 211) rfl) rfl
theorem lkX12_472 : Cond.methodLink RX12 472 yX12_reads ∈ tt := mt_7 (List.mem_of_getElem? (i := 215) rfl) rfl
theorem lkX12_297 : Cond.methodLink RX12 297 yX12_look ∈ tt := mt_7 (List.mem_of_getElem? (i := 219) rfl) rfl
theorem lkX12_403 : Cond.methodLink RX12 403 yX12_statement ∈ tt := mt_7 (List.mem_of_getElem? (i := 223) rfl) rfl
theorem lkX12_315 : Cond.methodLink RX12 315 yX12_fail ∈ tt := mt_7 (List.mem_of_getElem? (i := 227) rfl) rfl
theorem lkX12_312 : Cond.methodLink RX12 312 yX12_takes ∈ tt := mt_7 (List.mem_of_getElem? (i := 231) rfl) rfl
theorem lkX12_308 : Cond.methodLink RX12 308 yX12_isHere ∈ tt := mt_7 (List.mem_of_getElem? (i := 235) rfl) rfl
theorem lkX12_301 : Cond.methodLink RX12 301 yX12_isLetter ∈ tt := mt_7 (List.mem_of_getElem? (i := 239) rfl) rfl
theorem lkX12_400 : Cond.methodLink RX12 400 yX12_test ∈ tt := mt_8 (List.mem_of_getElem? (i := 2) rfl) rfl
theorem lkX12_351 : Cond.methodLink RX12 351 yX12_opens ∈ tt := mt_8 (List.mem_of_getElem? (i := 6) rfl) rfl
theorem lkX12_354 : Cond.methodLink RX12 354 yX12_asks ∈ tt := mt_8 (List.mem_of_getElem? (i := 10) rfl) rfl
theorem lkX12_388 : Cond.methodLink RX12 388 yX12_fact ∈ tt := mt_8 (List.mem_of_getElem? (i := 14) rfl) rfl
theorem lkX12_338 : Cond.methodLink RX12 338 yX12_code ∈ tt := mt_8 (List.mem_of_getElem? (i := 18) rfl) rfl
theorem lkX12_365 : Cond.methodLink RX12 365 yX12_number ∈ tt := mt_8 (List.mem_of_getElem? (i := 22) rfl) rfl
theorem lkX12_322 : Cond.methodLink RX12 322 yX12_isDigit ∈ tt := mt_8 (List.mem_of_getElem? (i := 26) rfl) rfl
theorem lkX12_385 : Cond.methodLink RX12 385 yX12_sums ∈ tt := mt_8 (List.mem_of_getElem? (i := 29) rfl) rfl
theorem lkX12_378 : Cond.methodLink RX12 378 yX12_onePart ∈ tt := mt_8 (List.mem_of_getElem? (i := 33) rfl) rfl
theorem lkX12_358 : Cond.methodLink RX12 358 yX12_asksSign ∈ tt := mt_8 (List.mem_of_getElem? (i := 37) rfl) rfl
theorem lkX12_319 : Cond.methodLink RX12 319 yX12_takesSign ∈ tt := mt_8 (List.mem_of_getElem? (i := 41) rfl) rfl
theorem lkX12_361 : Cond.methodLink RX12 361 yX12_numberPart ∈ tt := mt_8 (List.mem_of_getElem? (i := 45) rfl) rfl
theorem kcX12_364 : Cond.constant RX12 364 (99999 : Int32) ∈ tt := mt_8 (List.mem_of_getElem? (i := 49) rfl) rfl
theorem lkX12_381 : Cond.methodLink RX12 381 yX12_goesOn ∈ tt := mt_8 (List.mem_of_getElem? (i := 50) rfl) rfl
theorem lkX12_369 : Cond.methodLink RX12 369 yX12_mark ∈ tt := mt_8 (List.mem_of_getElem? (i := 54) rfl) rfl
theorem lkX12_345 : Cond.methodLink RX12 345 yX12_isMark ∈ tt := mt_8 (List.mem_of_getElem? (i := 58) rfl) rfl
theorem lkX12_372 : Cond.methodLink RX12 372 yX12_dropsToMark ∈ tt := mt_8 (List.mem_of_getElem? (i := 62) rfl) rfl
theorem lkX12_348 : Cond.methodLink RX12 348 yX12_drops ∈ tt := mt_8 (List.mem_of_getElem? (i := 66) rfl) rfl
theorem lkX12_375 : Cond.methodLink RX12 375 yX12_isOn ∈ tt := mt_8 (List.mem_of_getElem? (i := 70) rfl) rfl
theorem lkX12_391 : Cond.methodLink RX12 391 yX12_dropsNots ∈ tt := mt_8 (List.mem_of_getElem? (i := 74) rfl) rfl
theorem lkX12_394 : Cond.methodLink RX12 394 yX12_goesOnTest ∈ tt := mt_8 (List.mem_of_getElem? (i := 78) rfl) rfl
theorem lkX12_397 : Cond.methodLink RX12 397 yX12_hasSquare ∈ tt := mt_8 (List.mem_of_getElem? (i := 82) rfl) rfl
theorem lkX12_475 : Cond.methodLink RX12 475 yX12_act ∈ tt := mt_8 (List.mem_of_getElem? (i := 86) rfl) rfl
theorem lkX12_479 : Cond.methodLink RX12 479 yX12_copies ∈ tt := mt_8 (List.mem_of_getElem? (i := 90) rfl) rfl
theorem lkL_68 : Cond.methodLink RL 68 yX12_fault ∈ tt := mt_8 (List.mem_of_getElem? (i := 94) rfl) rfl
theorem lkL_73 : Cond.methodLink RL 73 yX12_policy ∈ tt := mt_8 (List.mem_of_getElem? (i := 98) rfl) rfl
theorem lkX12_482 : Cond.methodLink RX12 482 yX12_hasHouse ∈ tt := mt_8 (List.mem_of_getElem? (i := 102) rfl) rfl
theorem kcX12_485 : Cond.constantLong RX12 485 (99999 : Int64) ∈ tt := mt_8 (List.mem_of_getElem? (i := 106) rfl) rfl
theorem lkL_77 : Cond.methodLink RL 77 yX12_annul ∈ tt := mt_8 (List.mem_of_getElem? (i := 107) rfl) rfl
theorem lkL_81 : Cond.methodLink RL 81 yX12_as ∈ tt := mt_8 (List.mem_of_getElem? (i := 111) rfl) rfl
theorem kcX12_487 : Cond.constantLong RX12 487 (-1 : Int64) ∈ tt := mt_8 (List.mem_of_getElem? (i := 115) rfl) rfl
theorem lkL_85 : Cond.methodLink RL 85 yX12_force ∈ tt := mt_8 (List.mem_of_getElem? (i := 116) rfl) rfl
theorem lkX12_495 : Cond.methodLink RX12 495 yX12_termsOf ∈ tt := mt_8 (List.mem_of_getElem? (i := 120) rfl) rfl
theorem lkX12_492 : Cond.methodLink RX12 492 yX12_isKnown ∈ tt := mt_8 (List.mem_of_getElem? (i := 124) rfl) rfl
theorem lkX12_489 : Cond.methodLink RX12 489 yX12_now ∈ tt := mt_8 (List.mem_of_getElem? (i := 128) rfl) rfl
theorem lkL_89 : Cond.methodLink RL 89 yX12_premium ∈ tt := mt_8 (List.mem_of_getElem? (i := 132) rfl) rfl
theorem lkX12_517 : Cond.methodLink RX12 517 yX12_isPolicy ∈ tt := mt_8 (List.mem_of_getElem? (i := 136) rfl) rfl
theorem lkX12_549 : Cond.methodLink RX12 549 yX12_lastOf ∈ tt := mt_8 (List.mem_of_getElem? (i := 140) rfl) rfl
theorem lkX12_552 : Cond.methodLink RX12 552 yX12_policiesOn ∈ tt := mt_8 (List.mem_of_getElem? (i := 144) rfl) rfl
theorem lkX12_555 : Cond.methodLink RX12 555 yX12_asksOf ∈ tt := mt_8 (List.mem_of_getElem? (i := 148) rfl) rfl
theorem lkX12_545 : Cond.methodLink RX12 545 yX12_tells ∈ tt := mt_8 (List.mem_of_getElem? (i := 152) rfl) rfl
theorem lkX12_509 : Cond.methodLink RX12 509 yX12_puts ∈ tt := mt_8 (List.mem_of_getElem? (i := 156) rfl) rfl
theorem lkX12_535 : Cond.methodLink RX12 535 yX12_hasPolicy ∈ tt := mt_8 (List.mem_of_getElem? (i := 160) rfl) rfl
theorem lkX12_539 : Cond.methodLink RX12 539 yX12_near ∈ tt := mt_8 (List.mem_of_getElem? (i := 164) rfl) rfl
theorem lkX12_520 : Cond.methodLink RX12 520 yX12_beside ∈ tt := mt_8 (List.mem_of_getElem? (i := 168) rfl) rfl
theorem lkX12_462 : Cond.methodLink RX12 462 yX12_rowOfWay ∈ tt := mt_8 (List.mem_of_getElem? (i := 172) rfl) rfl
theorem lkX12_466 : Cond.methodLink RX12 466 yX12_columnOfWay ∈ tt := mt_8 (List.mem_of_getElem? (i := 175) rfl) rfl
theorem lkX12_542 : Cond.methodLink RX12 542 yX12_joins ∈ tt := mt_8 (List.mem_of_getElem? (i := 178) rfl) rfl
theorem lkX12_505 : Cond.methodLink RX12 505 yX12_clip ∈ tt := mt_8 (List.mem_of_getElem? (i := 182) rfl) rfl
theorem kcX12_498 : Cond.constantLong RX12 498 (1000000000 : Int64) ∈ tt := mt_8 (List.mem_of_getElem? (i := 185) rfl) rfl
theorem kcX12_500 : Cond.constantLong RX12 500 (-1000000000 : Int64) ∈ tt := mt_8 (List.mem_of_getElem? (i := 186) rfl) rfl
theorem lkX12_513 : Cond.methodLink RX12 513 yX12_floor ∈ tt := mt_8 (List.mem_of_getElem? (i := 187) rfl) rfl
theorem lkL_93 : Cond.methodLink RL 93 yX12_helps ∈ tt := mt_8 (List.mem_of_getElem? (i := 190) rfl) rfl
theorem lkX12_562 : Cond.methodLink RX12 562 yX12_helpsAt ∈ tt := mt_8 (List.mem_of_getElem? (i := 194) rfl) rfl
theorem lkX12_559 : Cond.methodLink RX12 559 yX12_holds ∈ tt := mt_8 (List.mem_of_getElem? (i := 198) rfl) rfl
theorem lkL_98 : Cond.methodLink RL 98 yX12_run ∈ tt := mt_8 (List.mem_of_getElem? (i := 202) rfl) rfl
theorem lkX12_611 : Cond.methodLink RX12 611 yX12_goes ∈ tt := mt_8 (List.mem_of_getElem? (i := 206) rfl) rfl
theorem lkX12_565 : Cond.methodLink RX12 565 yX12_helps ∈ tt := mt_8 (List.mem_of_getElem? (i := 210) rfl) rfl
theorem lkX12_568 : Cond.methodLink RX12 568 yX12_grows ∈ tt := mt_8 (List.mem_of_getElem? (i := 211) rfl) rfl
theorem lkX12_577 : Cond.methodLink RX12 577 yX12_fuel ∈ tt := mt_8 (List.mem_of_getElem? (i := 215) rfl) rfl
theorem lkX12_571 : Cond.methodLink RX12 571 yX12_spreads ∈ tt := mt_8 (List.mem_of_getElem? (i := 218) rfl) rfl
theorem lkX12_580 : Cond.methodLink RX12 580 yX12_windOf ∈ tt := mt_8 (List.mem_of_getElem? (i := 222) rfl) rfl
theorem lkX12_583 : Cond.methodLink RX12 583 yX12_resist ∈ tt := mt_8 (List.mem_of_getElem? (i := 226) rfl) rfl
theorem lkX12_574 : Cond.methodLink RX12 574 yX12_drives ∈ tt := mt_8 (List.mem_of_getElem? (i := 229) rfl) rfl
theorem lkX12_586 : Cond.methodLink RX12 586 yX12_apart ∈ tt := mt_8 (List.mem_of_getElem? (i := 233) rfl) rfl
theorem lkX12_469 : Cond.methodLink RX12 469 yX12_size ∈ tt := mt_8 (List.mem_of_getElem? (i := 237) rfl) rfl
theorem lkX12_589 : Cond.methodLink RX12 589 yX12_pours ∈ tt := mt_9 (List.mem_of_getElem? (i := 0) rfl) rfl
theorem lkX12_592 : Cond.methodLink RX12 592 yX12_hasPlugNear ∈ tt := mt_9 (List.mem_of_getElem? (i := 4) rfl) rfl
theorem lkX12_614 : Cond.methodLink RX12 614 yX12_claims ∈ tt := mt_9 (List.mem_of_getElem? (i := 8) rfl) rfl
theorem lkX12_602 : Cond.methodLink RX12 602 yX12_askOf ∈ tt := mt_9 (List.mem_of_getElem? (i := 12) rfl) rfl
theorem lkX12_595 : Cond.methodLink RX12 595 yX12_lossOf ∈ tt := mt_9 (List.mem_of_getElem? (i := 16) rfl) rfl
theorem lkX12_605 : Cond.methodLink RX12 605 yX12_mannerOf ∈ tt := mt_9 (List.mem_of_getElem? (i := 20) rfl) rfl
theorem lkX12_598 : Cond.methodLink RX12 598 yX12_inRow ∈ tt := mt_9 (List.mem_of_getElem? (i := 24) rfl) rfl
theorem lkX12_608 : Cond.methodLink RX12 608 yX12_byParts ∈ tt := mt_9 (List.mem_of_getElem? (i := 28) rfl) rfl
theorem lkX12_623 : Cond.methodLink RX12 623 yX12_lossOfAll ∈ tt := mt_9 (List.mem_of_getElem? (i := 32) rfl) rfl
theorem lkX12_629 : Cond.methodLink RX12 629 yX12_settledOf ∈ tt := mt_9 (List.mem_of_getElem? (i := 36) rfl) rfl
theorem lkL_102 : Cond.methodLink RL 102 yX12_burnt ∈ tt := mt_9 (List.mem_of_getElem? (i := 40) rfl) rfl
theorem lkL_106 : Cond.methodLink RL 106 yX12_came ∈ tt := mt_9 (List.mem_of_getElem? (i := 44) rfl) rfl
theorem lkL_111 : Cond.methodLink RL 111 yX12_lost ∈ tt := mt_9 (List.mem_of_getElem? (i := 48) rfl) rfl
theorem lkL_115 : Cond.methodLink RL 115 yX12_claim ∈ tt := mt_9 (List.mem_of_getElem? (i := 52) rfl) rfl
theorem kcX12_632 : Cond.constantLong RX12 632 (200 : Int64) ∈ tt := mt_9 (List.mem_of_getElem? (i := 56) rfl) rfl
theorem lkL_119 : Cond.methodLink RL 119 yX12_settled ∈ tt := mt_9 (List.mem_of_getElem? (i := 57) rfl) rfl
theorem lkL_124 : Cond.methodLink RL 124 yX12_fall ∈ tt := mt_9 (List.mem_of_getElem? (i := 61) rfl) rfl
theorem lkX12_644 : Cond.methodLink RX12 644 yX12_falls ∈ tt := mt_9 (List.mem_of_getElem? (i := 65) rfl) rfl
theorem lkX12_637 : Cond.methodLink RX12 637 yX12_round ∈ tt := mt_9 (List.mem_of_getElem? (i := 69) rfl) rfl
theorem lkX12_640 : Cond.methodLink RX12 640 yX12_sumOf ∈ tt := mt_9 (List.mem_of_getElem? (i := 73) rfl) rfl
theorem lkL_128 : Cond.methodLink RL 128 yX12_rounds ∈ tt := mt_9 (List.mem_of_getElem? (i := 77) rfl) rfl
theorem lkL_132 : Cond.methodLink RL 132 yX12_worst ∈ tt := mt_9 (List.mem_of_getElem? (i := 81) rfl) rfl
theorem kcX12_647 : Cond.constantLong RX12 647 (60 : Int64) ∈ tt := mt_9 (List.mem_of_getElem? (i := 85) rfl) rfl
theorem lkL_136 : Cond.methodLink RL 136 yX12_place ∈ tt := mt_9 (List.mem_of_getElem? (i := 86) rfl) rfl
theorem lkL_141 : Cond.methodLink RL 141 yX12_plan ∈ tt := mt_9 (List.mem_of_getElem? (i := 90) rfl) rfl
theorem lkL_145 : Cond.methodLink RL 145 yX12_planned ∈ tt := mt_9 (List.mem_of_getElem? (i := 94) rfl) rfl
theorem lkL_149 : Cond.methodLink RL 149 yX12_all ∈ tt := mt_9 (List.mem_of_getElem? (i := 98) rfl) rfl
theorem kMmax : Cond.static Lib.Math.max.name ∈ tt ∧ Cond.initialized "java/lang/Math" ∈ tt ∧ Cond.code Lib.Math.max.name Lib.Math.max.code 2 (some .int) ∈ tt := ⟨mt_3 (List.mem_of_getElem? (i := 173) rfl) rfl, mt_1 (List.mem_of_getElem? (i := 16) rfl) rfl, mt_3 (List.mem_of_getElem? (i := 174) rfl) rfl⟩
theorem kMmin : Cond.static Lib.Math.min.name ∈ tt ∧ Cond.initialized "java/lang/Math" ∈ tt ∧ Cond.code Lib.Math.min.name Lib.Math.min.code 2 (some .int) ∈ tt := ⟨mt_3 (List.mem_of_getElem? (i := 176) rfl) rfl, mt_1 (List.mem_of_getElem? (i := 16) rfl) rfl, mt_3 (List.mem_of_getElem? (i := 177) rfl) rfl⟩
theorem kMabs : Cond.static Lib.Math.abs.name ∈ tt ∧ Cond.initialized "java/lang/Math" ∈ tt ∧ Cond.code Lib.Math.abs.name Lib.Math.abs.code 1 (some .int) ∈ tt := ⟨mt_5 (List.mem_of_getElem? (i := 57) rfl) rfl, mt_1 (List.mem_of_getElem? (i := 16) rfl) rfl, mt_5 (List.mem_of_getElem? (i := 58) rfl) rfl⟩
theorem kObj : Cond.instanceMethod Lib.objectInit ∈ tt ∧ Cond.code Lib.objectInit ⟨#[0xb1]⟩ 1 none ∈ tt := ⟨mt_1 (List.mem_of_getElem? (i := 28) rfl) rfl, mt_1 (List.mem_of_getElem? (i := 29) rfl) rfl⟩
