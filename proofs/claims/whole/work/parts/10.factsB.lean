theorem cmX11_init : gf_CM mX11_init 0 := ⟨icX11, mt_1 (List.mem_of_getElem? (i := 26) rfl) rfl, ⟨nhX11.1, nhX11.2, by decide +kernel⟩, Nat.le_of_ble_eq_true rfl⟩
theorem imX11_init : Cond.instanceMethod yX11_init ∈ tt := mt_1 (List.mem_of_getElem? (i := 25) rfl) rfl
abbrev mX11_feed : gM := (yX11_feed, cX11_feed, 6, (some (Jvm.ClassFile.FieldType.int)), false)
theorem cmX11_feed : gf_CM mX11_feed 5 := ⟨icX11, mt_3 (List.mem_of_getElem? (i := 49) rfl) rfl, ⟨nhX11.1, nhX11.2, by decide +kernel⟩, Nat.le_of_ble_eq_true rfl⟩
theorem imX11_feed : Cond.instanceMethod yX11_feed ∈ tt := mt_3 (List.mem_of_getElem? (i := 47) rfl) rfl
theorem seX11_feed : Cond.selects (yX11_feed).cls yX11_feed yX11_feed ∈ tt := mt_3 (List.mem_of_getElem? (i := 48) rfl) rfl
abbrev mX11_end : gM := (yX11_end, cX11_end, 2, (some (Jvm.ClassFile.FieldType.boolean)), false)
theorem cmX11_end : gf_CM mX11_end 1 := ⟨icX11, mt_3 (List.mem_of_getElem? (i := 57) rfl) rfl, ⟨nhX11.1, nhX11.2, by decide +kernel⟩, Nat.le_of_ble_eq_true rfl⟩
theorem imX11_end : Cond.instanceMethod yX11_end ∈ tt := mt_3 (List.mem_of_getElem? (i := 55) rfl) rfl
theorem seX11_end : Cond.selects (yX11_end).cls yX11_end yX11_end ∈ tt := mt_3 (List.mem_of_getElem? (i := 56) rfl) rfl
abbrev mX11_city : gM := (yX11_city, cX11_city, 3, (some (Jvm.ClassFile.FieldType.boolean)), false)
theorem cmX11_city : gf_CM mX11_city 2 := ⟨icX11, mt_3 (List.mem_of_getElem? (i := 61) rfl) rfl, ⟨nhX11.1, nhX11.2, by decide +kernel⟩, Nat.le_of_ble_eq_true rfl⟩
theorem imX11_city : Cond.instanceMethod yX11_city ∈ tt := mt_3 (List.mem_of_getElem? (i := 59) rfl) rfl
theorem seX11_city : Cond.selects (yX11_city).cls yX11_city yX11_city ∈ tt := mt_3 (List.mem_of_getElem? (i := 60) rfl) rfl
abbrev mX11_house : gM := (yX11_house, cX11_house, 5, (some (Jvm.ClassFile.FieldType.boolean)), false)
theorem cmX11_house : gf_CM mX11_house 4 := ⟨icX11, mt_3 (List.mem_of_getElem? (i := 74) rfl) rfl, ⟨nhX11.1, nhX11.2, by decide +kernel⟩, Nat.le_of_ble_eq_true rfl⟩
theorem imX11_house : Cond.instanceMethod yX11_house ∈ tt := mt_3 (List.mem_of_getElem? (i := 72) rfl) rfl
theorem seX11_house : Cond.selects (yX11_house).cls yX11_house yX11_house ∈ tt := mt_3 (List.mem_of_getElem? (i := 73) rfl) rfl
abbrev mX11_plug : gM := (yX11_plug, cX11_plug, 3, (some (Jvm.ClassFile.FieldType.boolean)), false)
theorem cmX11_plug : gf_CM mX11_plug 2 := ⟨icX11, mt_3 (List.mem_of_getElem? (i := 88) rfl) rfl, ⟨nhX11.1, nhX11.2, by decide +kernel⟩, Nat.le_of_ble_eq_true rfl⟩
theorem imX11_plug : Cond.instanceMethod yX11_plug ∈ tt := mt_3 (List.mem_of_getElem? (i := 86) rfl) rfl
theorem seX11_plug : Cond.selects (yX11_plug).cls yX11_plug yX11_plug ∈ tt := mt_3 (List.mem_of_getElem? (i := 87) rfl) rfl
abbrev mX11_hazard : gM := (yX11_hazard, cX11_hazard, 3, (some (Jvm.ClassFile.FieldType.boolean)), false)
theorem cmX11_hazard : gf_CM mX11_hazard 2 := ⟨icX11, mt_3 (List.mem_of_getElem? (i := 92) rfl) rfl, ⟨nhX11.1, nhX11.2, by decide +kernel⟩, Nat.le_of_ble_eq_true rfl⟩
theorem imX11_hazard : Cond.instanceMethod yX11_hazard ∈ tt := mt_3 (List.mem_of_getElem? (i := 90) rfl) rfl
theorem seX11_hazard : Cond.selects (yX11_hazard).cls yX11_hazard yX11_hazard ∈ tt := mt_3 (List.mem_of_getElem? (i := 91) rfl) rfl
abbrev mX11_wind : gM := (yX11_wind, cX11_wind, 4, (some (Jvm.ClassFile.FieldType.boolean)), false)
theorem cmX11_wind : gf_CM mX11_wind 3 := ⟨icX11, mt_3 (List.mem_of_getElem? (i := 96) rfl) rfl, ⟨nhX11.1, nhX11.2, by decide +kernel⟩, Nat.le_of_ble_eq_true rfl⟩
theorem imX11_wind : Cond.instanceMethod yX11_wind ∈ tt := mt_3 (List.mem_of_getElem? (i := 94) rfl) rfl
theorem seX11_wind : Cond.selects (yX11_wind).cls yX11_wind yX11_wind ∈ tt := mt_3 (List.mem_of_getElem? (i := 95) rfl) rfl
abbrev mX11_coin : gM := (yX11_coin, cX11_coin, 3, (some (Jvm.ClassFile.FieldType.boolean)), false)
theorem cmX11_coin : gf_CM mX11_coin 2 := ⟨icX11, mt_3 (List.mem_of_getElem? (i := 104) rfl) rfl, ⟨nhX11.1, nhX11.2, by decide +kernel⟩, Nat.le_of_ble_eq_true rfl⟩
theorem imX11_coin : Cond.instanceMethod yX11_coin ∈ tt := mt_3 (List.mem_of_getElem? (i := 102) rfl) rfl
theorem seX11_coin : Cond.selects (yX11_coin).cls yX11_coin yX11_coin ∈ tt := mt_3 (List.mem_of_getElem? (i := 103) rfl) rfl
abbrev mX11_engine : gM := (yX11_engine, cX11_engine, 5, (some (Jvm.ClassFile.FieldType.int)), false)
theorem cmX11_engine : gf_CM mX11_engine 4 := ⟨icX11, mt_3 (List.mem_of_getElem? (i := 112) rfl) rfl, ⟨nhX11.1, nhX11.2, by decide +kernel⟩, Nat.le_of_ble_eq_true rfl⟩
theorem imX11_engine : Cond.instanceMethod yX11_engine ∈ tt := mt_3 (List.mem_of_getElem? (i := 110) rfl) rfl
theorem seX11_engine : Cond.selects (yX11_engine).cls yX11_engine yX11_engine ∈ tt := mt_3 (List.mem_of_getElem? (i := 111) rfl) rfl
abbrev mX11_deal : gM := (yX11_deal, cX11_deal, 4, (some (Jvm.ClassFile.FieldType.boolean)), false)
theorem cmX11_deal : gf_CM mX11_deal 3 := ⟨icX11, mt_3 (List.mem_of_getElem? (i := 123) rfl) rfl, ⟨nhX11.1, nhX11.2, by decide +kernel⟩, Nat.le_of_ble_eq_true rfl⟩
theorem imX11_deal : Cond.instanceMethod yX11_deal ∈ tt := mt_3 (List.mem_of_getElem? (i := 121) rfl) rfl
theorem seX11_deal : Cond.selects (yX11_deal).cls yX11_deal yX11_deal ∈ tt := mt_3 (List.mem_of_getElem? (i := 122) rfl) rfl
abbrev mX11_terms : gM := (yX11_terms, cX11_terms, 3, (some (Jvm.ClassFile.FieldType.int)), false)
theorem cmX11_terms : gf_CM mX11_terms 1 := ⟨icX11, mt_3 (List.mem_of_getElem? (i := 127) rfl) rfl, ⟨nhX11.1, nhX11.2, by decide +kernel⟩, Nat.le_of_ble_eq_true rfl⟩
theorem imX11_terms : Cond.instanceMethod yX11_terms ∈ tt := mt_3 (List.mem_of_getElem? (i := 125) rfl) rfl
theorem seX11_terms : Cond.selects (yX11_terms).cls yX11_terms yX11_terms ∈ tt := mt_3 (List.mem_of_getElem? (i := 126) rfl) rfl
abbrev mX11_fault : gM := (yX11_fault, cX11_fault, 2, (some (Jvm.ClassFile.FieldType.int)), false)
theorem cmX11_fault : gf_CM mX11_fault 1 := ⟨icX11, mt_4 (List.mem_of_getElem? (i := 143) rfl) rfl, ⟨nhX11.1, nhX11.2, by decide +kernel⟩, Nat.le_of_ble_eq_true rfl⟩
theorem imX11_fault : Cond.instanceMethod yX11_fault ∈ tt := mt_4 (List.mem_of_getElem? (i := 141) rfl) rfl
theorem seX11_fault : Cond.selects (yX11_fault).cls yX11_fault yX11_fault ∈ tt := mt_4 (List.mem_of_getElem? (i := 142) rfl) rfl
abbrev mX11_policy : gM := (yX11_policy, cX11_policy, 4, (some (Jvm.ClassFile.FieldType.int)), false)
theorem cmX11_policy : gf_CM mX11_policy 3 := ⟨icX11, mt_4 (List.mem_of_getElem? (i := 147) rfl) rfl, ⟨nhX11.1, nhX11.2, by decide +kernel⟩, Nat.le_of_ble_eq_true rfl⟩
theorem imX11_policy : Cond.instanceMethod yX11_policy ∈ tt := mt_4 (List.mem_of_getElem? (i := 145) rfl) rfl
theorem seX11_policy : Cond.selects (yX11_policy).cls yX11_policy yX11_policy ∈ tt := mt_4 (List.mem_of_getElem? (i := 146) rfl) rfl
abbrev mX11_annul : gM := (yX11_annul, cX11_annul, 2, (some (Jvm.ClassFile.FieldType.int)), false)
theorem cmX11_annul : gf_CM mX11_annul 1 := ⟨icX11, mt_4 (List.mem_of_getElem? (i := 161) rfl) rfl, ⟨nhX11.1, nhX11.2, by decide +kernel⟩, Nat.le_of_ble_eq_true rfl⟩
theorem imX11_annul : Cond.instanceMethod yX11_annul ∈ tt := mt_4 (List.mem_of_getElem? (i := 159) rfl) rfl
theorem seX11_annul : Cond.selects (yX11_annul).cls yX11_annul yX11_annul ∈ tt := mt_4 (List.mem_of_getElem? (i := 160) rfl) rfl
abbrev mX11_as : gM := (yX11_as, cX11_as, 2, (some (Jvm.ClassFile.FieldType.boolean)), false)
theorem cmX11_as : gf_CM mX11_as 1 := ⟨icX11, mt_4 (List.mem_of_getElem? (i := 175) rfl) rfl, ⟨nhX11.1, nhX11.2, by decide +kernel⟩, Nat.le_of_ble_eq_true rfl⟩
theorem imX11_as : Cond.instanceMethod yX11_as ∈ tt := mt_4 (List.mem_of_getElem? (i := 173) rfl) rfl
theorem seX11_as : Cond.selects (yX11_as).cls yX11_as yX11_as ∈ tt := mt_4 (List.mem_of_getElem? (i := 174) rfl) rfl
abbrev mX11_force : gM := (yX11_force, cX11_force, 3, (some (Jvm.ClassFile.FieldType.int)), false)
theorem cmX11_force : gf_CM mX11_force 1 := ⟨icX11, mt_4 (List.mem_of_getElem? (i := 179) rfl) rfl, ⟨nhX11.1, nhX11.2, by decide +kernel⟩, Nat.le_of_ble_eq_true rfl⟩
theorem imX11_force : Cond.instanceMethod yX11_force ∈ tt := mt_4 (List.mem_of_getElem? (i := 177) rfl) rfl
theorem seX11_force : Cond.selects (yX11_force).cls yX11_force yX11_force ∈ tt := mt_4 (List.mem_of_getElem? (i := 178) rfl) rfl
abbrev mX11_premium : gM := (yX11_premium, cX11_premium, 3, (some (Jvm.ClassFile.FieldType.int)), false)
theorem cmX11_premium : gf_CM mX11_premium 1 := ⟨icX11, mt_4 (List.mem_of_getElem? (i := 209) rfl) rfl, ⟨nhX11.1, nhX11.2, by decide +kernel⟩, Nat.le_of_ble_eq_true rfl⟩
theorem imX11_premium : Cond.instanceMethod yX11_premium ∈ tt := mt_4 (List.mem_of_getElem? (i := 207) rfl) rfl
theorem seX11_premium : Cond.selects (yX11_premium).cls yX11_premium yX11_premium ∈ tt := mt_4 (List.mem_of_getElem? (i := 208) rfl) rfl
abbrev mX11_helps : gM := (yX11_helps, cX11_helps, 2, (some (Jvm.ClassFile.FieldType.int)), false)
theorem cmX11_helps : gf_CM mX11_helps 1 := ⟨icX11, mt_5 (List.mem_of_getElem? (i := 16) rfl) rfl, ⟨nhX11.1, nhX11.2, by decide +kernel⟩, Nat.le_of_ble_eq_true rfl⟩
theorem imX11_helps : Cond.instanceMethod yX11_helps ∈ tt := mt_5 (List.mem_of_getElem? (i := 14) rfl) rfl
theorem seX11_helps : Cond.selects (yX11_helps).cls yX11_helps yX11_helps ∈ tt := mt_5 (List.mem_of_getElem? (i := 15) rfl) rfl
abbrev mX11_run : gM := (yX11_run, cX11_run, 3, (some (Jvm.ClassFile.FieldType.int)), false)
theorem cmX11_run : gf_CM mX11_run 2 := ⟨icX11, mt_5 (List.mem_of_getElem? (i := 30) rfl) rfl, ⟨nhX11.1, nhX11.2, by decide +kernel⟩, Nat.le_of_ble_eq_true rfl⟩
theorem imX11_run : Cond.instanceMethod yX11_run ∈ tt := mt_5 (List.mem_of_getElem? (i := 28) rfl) rfl
theorem seX11_run : Cond.selects (yX11_run).cls yX11_run yX11_run ∈ tt := mt_5 (List.mem_of_getElem? (i := 29) rfl) rfl
abbrev mX11_burnt : gM := (yX11_burnt, cX11_burnt, 3, (some (Jvm.ClassFile.FieldType.int)), false)
theorem cmX11_burnt : gf_CM mX11_burnt 2 := ⟨icX11, mt_5 (List.mem_of_getElem? (i := 161) rfl) rfl, ⟨nhX11.1, nhX11.2, by decide +kernel⟩, Nat.le_of_ble_eq_true rfl⟩
theorem imX11_burnt : Cond.instanceMethod yX11_burnt ∈ tt := mt_5 (List.mem_of_getElem? (i := 159) rfl) rfl
theorem seX11_burnt : Cond.selects (yX11_burnt).cls yX11_burnt yX11_burnt ∈ tt := mt_5 (List.mem_of_getElem? (i := 160) rfl) rfl
abbrev mX11_came : gM := (yX11_came, cX11_came, 3, (some (Jvm.ClassFile.FieldType.int)), false)
theorem cmX11_came : gf_CM mX11_came 2 := ⟨icX11, mt_5 (List.mem_of_getElem? (i := 169) rfl) rfl, ⟨nhX11.1, nhX11.2, by decide +kernel⟩, Nat.le_of_ble_eq_true rfl⟩
theorem imX11_came : Cond.instanceMethod yX11_came ∈ tt := mt_5 (List.mem_of_getElem? (i := 167) rfl) rfl
theorem seX11_came : Cond.selects (yX11_came).cls yX11_came yX11_came ∈ tt := mt_5 (List.mem_of_getElem? (i := 168) rfl) rfl
abbrev mX11_lost : gM := (yX11_lost, cX11_lost, 1, (some (Jvm.ClassFile.FieldType.int)), false)
theorem cmX11_lost : gf_CM mX11_lost 0 := ⟨icX11, mt_5 (List.mem_of_getElem? (i := 177) rfl) rfl, ⟨nhX11.1, nhX11.2, by decide +kernel⟩, Nat.le_of_ble_eq_true rfl⟩
theorem imX11_lost : Cond.instanceMethod yX11_lost ∈ tt := mt_5 (List.mem_of_getElem? (i := 175) rfl) rfl
theorem seX11_lost : Cond.selects (yX11_lost).cls yX11_lost yX11_lost ∈ tt := mt_5 (List.mem_of_getElem? (i := 176) rfl) rfl
abbrev mX11_claim : gM := (yX11_claim, cX11_claim, 3, (some (Jvm.ClassFile.FieldType.int)), false)
theorem cmX11_claim : gf_CM mX11_claim 2 := ⟨icX11, mt_5 (List.mem_of_getElem? (i := 181) rfl) rfl, ⟨nhX11.1, nhX11.2, by decide +kernel⟩, Nat.le_of_ble_eq_true rfl⟩
theorem imX11_claim : Cond.instanceMethod yX11_claim ∈ tt := mt_5 (List.mem_of_getElem? (i := 179) rfl) rfl
theorem seX11_claim : Cond.selects (yX11_claim).cls yX11_claim yX11_claim ∈ tt := mt_5 (List.mem_of_getElem? (i := 180) rfl) rfl
abbrev mX11_settled : gM := (yX11_settled, cX11_settled, 2, (some (Jvm.ClassFile.FieldType.int)), false)
theorem cmX11_settled : gf_CM mX11_settled 1 := ⟨icX11, mt_5 (List.mem_of_getElem? (i := 185) rfl) rfl, ⟨nhX11.1, nhX11.2, by decide +kernel⟩, Nat.le_of_ble_eq_true rfl⟩
theorem imX11_settled : Cond.instanceMethod yX11_settled ∈ tt := mt_5 (List.mem_of_getElem? (i := 183) rfl) rfl
theorem seX11_settled : Cond.selects (yX11_settled).cls yX11_settled yX11_settled ∈ tt := mt_5 (List.mem_of_getElem? (i := 184) rfl) rfl
abbrev mX11_fall : gM := (yX11_fall, cX11_fall, 3, (some (Jvm.ClassFile.FieldType.long)), false)
theorem cmX11_fall : gf_CM mX11_fall 2 := ⟨icX11, mt_5 (List.mem_of_getElem? (i := 189) rfl) rfl, ⟨nhX11.1, nhX11.2, by decide +kernel⟩, Nat.le_of_ble_eq_true rfl⟩
theorem imX11_fall : Cond.instanceMethod yX11_fall ∈ tt := mt_5 (List.mem_of_getElem? (i := 187) rfl) rfl
theorem seX11_fall : Cond.selects (yX11_fall).cls yX11_fall yX11_fall ∈ tt := mt_5 (List.mem_of_getElem? (i := 188) rfl) rfl
abbrev mX11_rounds : gM := (yX11_rounds, cX11_rounds, 1, (some (Jvm.ClassFile.FieldType.int)), false)
theorem cmX11_rounds : gf_CM mX11_rounds 0 := ⟨icX11, mt_5 (List.mem_of_getElem? (i := 219) rfl) rfl, ⟨nhX11.1, nhX11.2, by decide +kernel⟩, Nat.le_of_ble_eq_true rfl⟩
theorem imX11_rounds : Cond.instanceMethod yX11_rounds ∈ tt := mt_5 (List.mem_of_getElem? (i := 217) rfl) rfl
theorem seX11_rounds : Cond.selects (yX11_rounds).cls yX11_rounds yX11_rounds ∈ tt := mt_5 (List.mem_of_getElem? (i := 218) rfl) rfl
abbrev mX11_worst : gM := (yX11_worst, cX11_worst, 6, (some (Jvm.ClassFile.FieldType.int)), false)
theorem cmX11_worst : gf_CM mX11_worst 2 := ⟨icX11, mt_5 (List.mem_of_getElem? (i := 223) rfl) rfl, ⟨nhX11.1, nhX11.2, by decide +kernel⟩, Nat.le_of_ble_eq_true rfl⟩
theorem imX11_worst : Cond.instanceMethod yX11_worst ∈ tt := mt_5 (List.mem_of_getElem? (i := 221) rfl) rfl
theorem seX11_worst : Cond.selects (yX11_worst).cls yX11_worst yX11_worst ∈ tt := mt_5 (List.mem_of_getElem? (i := 222) rfl) rfl
abbrev mX11_place : gM := (yX11_place, cX11_place, 2, (some (Jvm.ClassFile.FieldType.int)), false)
theorem cmX11_place : gf_CM mX11_place 1 := ⟨icX11, mt_5 (List.mem_of_getElem? (i := 227) rfl) rfl, ⟨nhX11.1, nhX11.2, by decide +kernel⟩, Nat.le_of_ble_eq_true rfl⟩
theorem imX11_place : Cond.instanceMethod yX11_place ∈ tt := mt_5 (List.mem_of_getElem? (i := 225) rfl) rfl
theorem seX11_place : Cond.selects (yX11_place).cls yX11_place yX11_place ∈ tt := mt_5 (List.mem_of_getElem? (i := 226) rfl) rfl
abbrev mX11_plan : gM := (yX11_plan, cX11_plan, 7, (some (Jvm.ClassFile.FieldType.int)), false)
theorem cmX11_plan : gf_CM mX11_plan 6 := ⟨icX11, mt_5 (List.mem_of_getElem? (i := 235) rfl) rfl, ⟨nhX11.1, nhX11.2, by decide +kernel⟩, Nat.le_of_ble_eq_true rfl⟩
theorem imX11_plan : Cond.instanceMethod yX11_plan ∈ tt := mt_5 (List.mem_of_getElem? (i := 233) rfl) rfl
theorem seX11_plan : Cond.selects (yX11_plan).cls yX11_plan yX11_plan ∈ tt := mt_5 (List.mem_of_getElem? (i := 234) rfl) rfl
abbrev mX11_planned : gM := (yX11_planned, cX11_planned, 2, (some (Jvm.ClassFile.FieldType.int)), false)
theorem cmX11_planned : gf_CM mX11_planned 1 := ⟨icX11, mt_6 (List.mem_of_getElem? (i := 21) rfl) rfl, ⟨nhX11.1, nhX11.2, by decide +kernel⟩, Nat.le_of_ble_eq_true rfl⟩
theorem imX11_planned : Cond.instanceMethod yX11_planned ∈ tt := mt_6 (List.mem_of_getElem? (i := 19) rfl) rfl
theorem seX11_planned : Cond.selects (yX11_planned).cls yX11_planned yX11_planned ∈ tt := mt_6 (List.mem_of_getElem? (i := 20) rfl) rfl
abbrev mX11_all : gM := (yX11_all, cX11_all, 2, (some (Jvm.ClassFile.FieldType.int)), false)
theorem cmX11_all : gf_CM mX11_all 1 := ⟨icX11, mt_6 (List.mem_of_getElem? (i := 25) rfl) rfl, ⟨nhX11.1, nhX11.2, by decide +kernel⟩, Nat.le_of_ble_eq_true rfl⟩
theorem imX11_all : Cond.instanceMethod yX11_all ∈ tt := mt_6 (List.mem_of_getElem? (i := 23) rfl) rfl
theorem seX11_all : Cond.selects (yX11_all).cls yX11_all yX11_all ∈ tt := mt_6 (List.mem_of_getElem? (i := 24) rfl) rfl
abbrev mX11_learn : gM := (yX11_learn, cX11_learn, 1, none, false)
theorem cmX11_learn : gf_CM mX11_learn 0 := ⟨icX11, mt_5 (List.mem_of_getElem? (i := 34) rfl) rfl, ⟨nhX11.1, nhX11.2, by decide +kernel⟩, Nat.le_of_ble_eq_true rfl⟩
theorem imX11_learn : Cond.instanceMethod yX11_learn ∈ tt := mt_5 (List.mem_of_getElem? (i := 33) rfl) rfl
theorem seX11_learn : Cond.selects (yX11_learn).cls yX11_learn yX11_learn ∈ tt := mp_in (n := 12) (List.mem_of_getElem? (i := 23) (by decide +kernel)) rfl
abbrev mX11_within : gM := (yX11_within, cX11_within, 3, (some (Jvm.ClassFile.FieldType.boolean)), false)
theorem cmX11_within : gf_CM mX11_within 3 := ⟨icX11, mt_3 (List.mem_of_getElem? (i := 5) rfl) rfl, ⟨nhX11.1, nhX11.2, by decide +kernel⟩, Nat.le_of_ble_eq_true rfl⟩
theorem stX11_within : Cond.static yX11_within ∈ tt := mt_3 (List.mem_of_getElem? (i := 4) rfl) rfl
abbrev mX11_isOffice : gM := (yX11_isOffice, cX11_isOffice, 1, (some (Jvm.ClassFile.FieldType.boolean)), false)
theorem cmX11_isOffice : gf_CM mX11_isOffice 1 := ⟨icX11, mt_3 (List.mem_of_getElem? (i := 107) rfl) rfl, ⟨nhX11.1, nhX11.2, by decide +kernel⟩, Nat.le_of_ble_eq_true rfl⟩
theorem stX11_isOffice : Cond.static yX11_isOffice ∈ tt := mt_3 (List.mem_of_getElem? (i := 106) rfl) rfl
abbrev mX11_mayServe : gM := (yX11_mayServe, cX11_mayServe, 3, (some (Jvm.ClassFile.FieldType.boolean)), false)
theorem cmX11_mayServe : gf_CM mX11_mayServe 3 := ⟨icX11, mt_3 (List.mem_of_getElem? (i := 115) rfl) rfl, ⟨nhX11.1, nhX11.2, by decide +kernel⟩, Nat.le_of_ble_eq_true rfl⟩
theorem stX11_mayServe : Cond.static yX11_mayServe ∈ tt := mt_3 (List.mem_of_getElem? (i := 114) rfl) rfl
abbrev mX12_init : gM := (yX12_init, cX12_init, 1, none, true)
theorem cmX12_init : gf_CM mX12_init 0 := ⟨icX12, mt_6 (List.mem_of_getElem? (i := 34) rfl) rfl, ⟨nhX12.1, nhX12.2, by decide +kernel⟩, Nat.le_of_ble_eq_true rfl⟩
theorem imX12_init : Cond.instanceMethod yX12_init ∈ tt := mt_6 (List.mem_of_getElem? (i := 33) rfl) rfl
abbrev mX12_isIn : gM := (yX12_isIn, cX12_isIn, 6, (some (Jvm.ClassFile.FieldType.boolean)), false)
theorem cmX12_isIn : gf_CM mX12_isIn 3 := ⟨icX12, mt_7 (List.mem_of_getElem? (i := 156) rfl) rfl, ⟨nhX12.1, nhX12.2, by decide +kernel⟩, Nat.le_of_ble_eq_true rfl⟩
theorem stX12_isIn : Cond.static yX12_isIn ∈ tt := mt_7 (List.mem_of_getElem? (i := 155) rfl) rfl
abbrev mX12_feed : gM := (yX12_feed, cX12_feed, 8, (some (Jvm.ClassFile.FieldType.int)), false)
theorem cmX12_feed : gf_CM mX12_feed 5 := ⟨icX12, mt_7 (List.mem_of_getElem? (i := 144) rfl) rfl, ⟨nhX12.1, nhX12.2, by decide +kernel⟩, Nat.le_of_ble_eq_true rfl⟩
theorem imX12_feed : Cond.instanceMethod yX12_feed ∈ tt := mt_7 (List.mem_of_getElem? (i := 142) rfl) rfl
theorem seX12_feed : Cond.selects (yX12_feed).cls yX12_feed yX12_feed ∈ tt := mt_7 (List.mem_of_getElem? (i := 143) rfl) rfl
abbrev mX12_end : gM := (yX12_end, cX12_end, 2, (some (Jvm.ClassFile.FieldType.boolean)), false)
theorem cmX12_end : gf_CM mX12_end 1 := ⟨icX12, mt_7 (List.mem_of_getElem? (i := 148) rfl) rfl, ⟨nhX12.1, nhX12.2, by decide +kernel⟩, Nat.le_of_ble_eq_true rfl⟩
theorem imX12_end : Cond.instanceMethod yX12_end ∈ tt := mt_7 (List.mem_of_getElem? (i := 146) rfl) rfl
theorem seX12_end : Cond.selects (yX12_end).cls yX12_end yX12_end ∈ tt := mt_7 (List.mem_of_getElem? (i := 147) rfl) rfl
abbrev mX12_fail : gM := (yX12_fail, cX12_fail, 3, none, false)
theorem cmX12_fail : gf_CM mX12_fail 2 := ⟨icX12, mt_7 (List.mem_of_getElem? (i := 230) rfl) rfl, ⟨nhX12.1, nhX12.2, by decide +kernel⟩, Nat.le_of_ble_eq_true rfl⟩
theorem imX12_fail : Cond.instanceMethod yX12_fail ∈ tt := mt_7 (List.mem_of_getElem? (i := 229) rfl) rfl
theorem seX12_fail : Cond.selects (yX12_fail).cls yX12_fail yX12_fail ∈ tt := mp_in (n := 114) (List.mem_of_getElem? (i := 53) (by decide +kernel)) rfl
abbrev mX12_isLetter : gM := (yX12_isLetter, cX12_isLetter, 1, (some (Jvm.ClassFile.FieldType.boolean)), false)
theorem cmX12_isLetter : gf_CM mX12_isLetter 1 := ⟨icX12, mt_8 (List.mem_of_getElem? (i := 1) rfl) rfl, ⟨nhX12.1, nhX12.2, by decide +kernel⟩, Nat.le_of_ble_eq_true rfl⟩
theorem stX12_isLetter : Cond.static yX12_isLetter ∈ tt := mt_8 (List.mem_of_getElem? (i := 0) rfl) rfl
abbrev mX12_isDigit : gM := (yX12_isDigit, cX12_isDigit, 1, (some (Jvm.ClassFile.FieldType.boolean)), false)
theorem cmX12_isDigit : gf_CM mX12_isDigit 1 := ⟨icX12, mt_8 (List.mem_of_getElem? (i := 28) rfl) rfl, ⟨nhX12.1, nhX12.2, by decide +kernel⟩, Nat.le_of_ble_eq_true rfl⟩
theorem stX12_isDigit : Cond.static yX12_isDigit ∈ tt := mt_8 (List.mem_of_getElem? (i := 27) rfl) rfl
abbrev mX12_look : gM := (yX12_look, cX12_look, 1, (some (Jvm.ClassFile.FieldType.int)), false)
theorem cmX12_look : gf_CM mX12_look 0 := ⟨icX12, mt_7 (List.mem_of_getElem? (i := 222) rfl) rfl, ⟨nhX12.1, nhX12.2, by decide +kernel⟩, Nat.le_of_ble_eq_true rfl⟩
theorem imX12_look : Cond.instanceMethod yX12_look ∈ tt := mt_7 (List.mem_of_getElem? (i := 221) rfl) rfl
theorem seX12_look : Cond.selects (yX12_look).cls yX12_look yX12_look ∈ tt := mp_in (n := 114) (List.mem_of_getElem? (i := 51) (by decide +kernel)) rfl
abbrev mX12_isHere : gM := (yX12_isHere, cX12_isHere, 4, (some (Jvm.ClassFile.FieldType.boolean)), false)
theorem cmX12_isHere : gf_CM mX12_isHere 1 := ⟨icX12, mt_7 (List.mem_of_getElem? (i := 238) rfl) rfl, ⟨nhX12.1, nhX12.2, by decide +kernel⟩, Nat.le_of_ble_eq_true rfl⟩
theorem imX12_isHere : Cond.instanceMethod yX12_isHere ∈ tt := mt_7 (List.mem_of_getElem? (i := 237) rfl) rfl
theorem seX12_isHere : Cond.selects (yX12_isHere).cls yX12_isHere yX12_isHere ∈ tt := mp_in (n := 114) (List.mem_of_getElem? (i := 55) (by decide +kernel)) rfl
abbrev mX12_takes : gM := (yX12_takes, cX12_takes, 2, (some (Jvm.ClassFile.FieldType.boolean)), false)
theorem cmX12_takes : gf_CM mX12_takes 1 := ⟨icX12, mt_7 (List.mem_of_getElem? (i := 234) rfl) rfl, ⟨nhX12.1, nhX12.2, by decide +kernel⟩, Nat.le_of_ble_eq_true rfl⟩
theorem imX12_takes : Cond.instanceMethod yX12_takes ∈ tt := mt_7 (List.mem_of_getElem? (i := 233) rfl) rfl
theorem seX12_takes : Cond.selects (yX12_takes).cls yX12_takes yX12_takes ∈ tt := mp_in (n := 114) (List.mem_of_getElem? (i := 54) (by decide +kernel)) rfl
abbrev mX12_asks : gM := (yX12_asks, cX12_asks, 2, none, false)
theorem cmX12_asks : gf_CM mX12_asks 1 := ⟨icX12, mt_8 (List.mem_of_getElem? (i := 13) rfl) rfl, ⟨nhX12.1, nhX12.2, by decide +kernel⟩, Nat.le_of_ble_eq_true rfl⟩
theorem imX12_asks : Cond.instanceMethod yX12_asks ∈ tt := mt_8 (List.mem_of_getElem? (i := 12) rfl) rfl
theorem seX12_asks : Cond.selects (yX12_asks).cls yX12_asks yX12_asks ∈ tt := mp_in (n := 114) (List.mem_of_getElem? (i := 58) (by decide +kernel)) rfl
abbrev mX12_takesSign : gM := (yX12_takesSign, cX12_takesSign, 2, (some (Jvm.ClassFile.FieldType.boolean)), false)
theorem cmX12_takesSign : gf_CM mX12_takesSign 1 := ⟨icX12, mt_8 (List.mem_of_getElem? (i := 44) rfl) rfl, ⟨nhX12.1, nhX12.2, by decide +kernel⟩, Nat.le_of_ble_eq_true rfl⟩
theorem imX12_takesSign : Cond.instanceMethod yX12_takesSign ∈ tt := mt_8 (List.mem_of_getElem? (i := 43) rfl) rfl
theorem seX12_takesSign : Cond.selects (yX12_takesSign).cls yX12_takesSign yX12_takesSign ∈ tt := mp_in (n := 114) (List.mem_of_getElem? (i := 65) (by decide +kernel)) rfl
abbrev mX12_asksSign : gM := (yX12_asksSign, cX12_asksSign, 2, none, false)
theorem cmX12_asksSign : gf_CM mX12_asksSign 1 := ⟨icX12, mt_8 (List.mem_of_getElem? (i := 40) rfl) rfl, ⟨nhX12.1, nhX12.2, by decide +kernel⟩, Nat.le_of_ble_eq_true rfl⟩
theorem imX12_asksSign : Cond.instanceMethod yX12_asksSign ∈ tt := mt_8 (List.mem_of_getElem? (i := 39) rfl) rfl
theorem seX12_asksSign : Cond.selects (yX12_asksSign).cls yX12_asksSign yX12_asksSign ∈ tt := mp_in (n := 114) (List.mem_of_getElem? (i := 64) (by decide +kernel)) rfl
abbrev mX12_number : gM := (yX12_number, cX12_number, 5, (some (Jvm.ClassFile.FieldType.int)), false)
theorem cmX12_number : gf_CM mX12_number 2 := ⟨icX12, mt_8 (List.mem_of_getElem? (i := 25) rfl) rfl, ⟨nhX12.1, nhX12.2, by decide +kernel⟩, Nat.le_of_ble_eq_true rfl⟩
theorem imX12_number : Cond.instanceMethod yX12_number ∈ tt := mt_8 (List.mem_of_getElem? (i := 24) rfl) rfl
theorem seX12_number : Cond.selects (yX12_number).cls yX12_number yX12_number ∈ tt := mp_in (n := 114) (List.mem_of_getElem? (i := 61) (by decide +kernel)) rfl
abbrev mX12_code : gM := (yX12_code, cX12_code, 2, none, false)
theorem cmX12_code : gf_CM mX12_code 1 := ⟨icX12, mt_8 (List.mem_of_getElem? (i := 21) rfl) rfl, ⟨nhX12.1, nhX12.2, by decide +kernel⟩, Nat.le_of_ble_eq_true rfl⟩
theorem imX12_code : Cond.instanceMethod yX12_code ∈ tt := mt_8 (List.mem_of_getElem? (i := 20) rfl) rfl
theorem seX12_code : Cond.selects (yX12_code).cls yX12_code yX12_code ∈ tt := mp_in (n := 114) (List.mem_of_getElem? (i := 60) (by decide +kernel)) rfl
abbrev mX12_opens : gM := (yX12_opens, cX12_opens, 3, none, false)
theorem cmX12_opens : gf_CM mX12_opens 2 := ⟨icX12, mt_8 (List.mem_of_getElem? (i := 9) rfl) rfl, ⟨nhX12.1, nhX12.2, by decide +kernel⟩, Nat.le_of_ble_eq_true rfl⟩
theorem imX12_opens : Cond.instanceMethod yX12_opens ∈ tt := mt_8 (List.mem_of_getElem? (i := 8) rfl) rfl
theorem seX12_opens : Cond.selects (yX12_opens).cls yX12_opens yX12_opens ∈ tt := mp_in (n := 114) (List.mem_of_getElem? (i := 57) (by decide +kernel)) rfl
abbrev mX12_isOn : gM := (yX12_isOn, cX12_isOn, 2, (some (Jvm.ClassFile.FieldType.boolean)), false)
theorem cmX12_isOn : gf_CM mX12_isOn 1 := ⟨icX12, mt_8 (List.mem_of_getElem? (i := 73) rfl) rfl, ⟨nhX12.1, nhX12.2, by decide +kernel⟩, Nat.le_of_ble_eq_true rfl⟩
theorem imX12_isOn : Cond.instanceMethod yX12_isOn ∈ tt := mt_8 (List.mem_of_getElem? (i := 72) rfl) rfl
theorem seX12_isOn : Cond.selects (yX12_isOn).cls yX12_isOn yX12_isOn ∈ tt := mp_in (n := 114) (List.mem_of_getElem? (i := 72) (by decide +kernel)) rfl
abbrev mX12_drops : gM := (yX12_drops, cX12_drops, 1, none, false)
theorem cmX12_drops : gf_CM mX12_drops 0 := ⟨icX12, mt_8 (List.mem_of_getElem? (i := 69) rfl) rfl, ⟨nhX12.1, nhX12.2, by decide +kernel⟩, Nat.le_of_ble_eq_true rfl⟩
theorem imX12_drops : Cond.instanceMethod yX12_drops ∈ tt := mt_8 (List.mem_of_getElem? (i := 68) rfl) rfl
theorem seX12_drops : Cond.selects (yX12_drops).cls yX12_drops yX12_drops ∈ tt := mp_in (n := 114) (List.mem_of_getElem? (i := 71) (by decide +kernel)) rfl
abbrev mX12_isMark : gM := (yX12_isMark, cX12_isMark, 2, (some (Jvm.ClassFile.FieldType.boolean)), false)
theorem cmX12_isMark : gf_CM mX12_isMark 1 := ⟨icX12, mt_8 (List.mem_of_getElem? (i := 61) rfl) rfl, ⟨nhX12.1, nhX12.2, by decide +kernel⟩, Nat.le_of_ble_eq_true rfl⟩
theorem imX12_isMark : Cond.instanceMethod yX12_isMark ∈ tt := mt_8 (List.mem_of_getElem? (i := 60) rfl) rfl
theorem seX12_isMark : Cond.selects (yX12_isMark).cls yX12_isMark yX12_isMark ∈ tt := mp_in (n := 114) (List.mem_of_getElem? (i := 69) (by decide +kernel)) rfl
abbrev mX12_mark : gM := (yX12_mark, cX12_mark, 2, (some (Jvm.ClassFile.FieldType.int)), false)
theorem cmX12_mark : gf_CM mX12_mark 0 := ⟨icX12, mt_8 (List.mem_of_getElem? (i := 57) rfl) rfl, ⟨nhX12.1, nhX12.2, by decide +kernel⟩, Nat.le_of_ble_eq_true rfl⟩
theorem imX12_mark : Cond.instanceMethod yX12_mark ∈ tt := mt_8 (List.mem_of_getElem? (i := 56) rfl) rfl
theorem seX12_mark : Cond.selects (yX12_mark).cls yX12_mark yX12_mark ∈ tt := mp_in (n := 114) (List.mem_of_getElem? (i := 68) (by decide +kernel)) rfl
abbrev mX12_dropsToMark : gM := (yX12_dropsToMark, cX12_dropsToMark, 1, none, false)
theorem cmX12_dropsToMark : gf_CM mX12_dropsToMark 0 := ⟨icX12, mt_8 (List.mem_of_getElem? (i := 65) rfl) rfl, ⟨nhX12.1, nhX12.2, by decide +kernel⟩, Nat.le_of_ble_eq_true rfl⟩
theorem imX12_dropsToMark : Cond.instanceMethod yX12_dropsToMark ∈ tt := mt_8 (List.mem_of_getElem? (i := 64) rfl) rfl
theorem seX12_dropsToMark : Cond.selects (yX12_dropsToMark).cls yX12_dropsToMark yX12_dropsToMark ∈ tt := mp_in (n := 114) (List.mem_of_getElem? (i := 70) (by decide +kernel)) rfl
abbrev mX12_onePart : gM := (yX12_onePart, cX12_onePart, 5, none, false)
theorem cmX12_onePart : gf_CM mX12_onePart 0 := ⟨icX12, mt_8 (List.mem_of_getElem? (i := 36) rfl) rfl, ⟨nhX12.1, nhX12.2, by decide +kernel⟩, Nat.le_of_ble_eq_true rfl⟩
theorem imX12_onePart : Cond.instanceMethod yX12_onePart ∈ tt := mt_8 (List.mem_of_getElem? (i := 35) rfl) rfl
theorem seX12_onePart : Cond.selects (yX12_onePart).cls yX12_onePart yX12_onePart ∈ tt := mp_in (n := 114) (List.mem_of_getElem? (i := 63) (by decide +kernel)) rfl
abbrev mX12_numberPart : gM := (yX12_numberPart, cX12_numberPart, 2, none, false)
theorem cmX12_numberPart : gf_CM mX12_numberPart 0 := ⟨icX12, mt_8 (List.mem_of_getElem? (i := 48) rfl) rfl, ⟨nhX12.1, nhX12.2, by decide +kernel⟩, Nat.le_of_ble_eq_true rfl⟩
theorem imX12_numberPart : Cond.instanceMethod yX12_numberPart ∈ tt := mt_8 (List.mem_of_getElem? (i := 47) rfl) rfl
theorem seX12_numberPart : Cond.selects (yX12_numberPart).cls yX12_numberPart yX12_numberPart ∈ tt := mp_in (n := 114) (List.mem_of_getElem? (i := 66) (by decide +kernel)) rfl
abbrev mX12_goesOn : gM := (yX12_goesOn, cX12_goesOn, 2, (some (Jvm.ClassFile.FieldType.boolean)), false)
theorem cmX12_goesOn : gf_CM mX12_goesOn 0 := ⟨icX12, mt_8 (List.mem_of_getElem? (i := 53) rfl) rfl, ⟨nhX12.1, nhX12.2, by decide +kernel⟩, Nat.le_of_ble_eq_true rfl⟩
theorem imX12_goesOn : Cond.instanceMethod yX12_goesOn ∈ tt := mt_8 (List.mem_of_getElem? (i := 52) rfl) rfl
theorem seX12_goesOn : Cond.selects (yX12_goesOn).cls yX12_goesOn yX12_goesOn ∈ tt := mp_in (n := 114) (List.mem_of_getElem? (i := 67) (by decide +kernel)) rfl
abbrev mX12_sums : gM := (yX12_sums, cX12_sums, 3, none, false)
theorem cmX12_sums : gf_CM mX12_sums 0 := ⟨icX12, mt_8 (List.mem_of_getElem? (i := 32) rfl) rfl, ⟨nhX12.1, nhX12.2, by decide +kernel⟩, Nat.le_of_ble_eq_true rfl⟩
theorem imX12_sums : Cond.instanceMethod yX12_sums ∈ tt := mt_8 (List.mem_of_getElem? (i := 31) rfl) rfl
theorem seX12_sums : Cond.selects (yX12_sums).cls yX12_sums yX12_sums ∈ tt := mp_in (n := 114) (List.mem_of_getElem? (i := 62) (by decide +kernel)) rfl
abbrev mX12_fact : gM := (yX12_fact, cX12_fact, 2, none, false)
theorem cmX12_fact : gf_CM mX12_fact 0 := ⟨icX12, mt_8 (List.mem_of_getElem? (i := 17) rfl) rfl, ⟨nhX12.1, nhX12.2, by decide +kernel⟩, Nat.le_of_ble_eq_true rfl⟩
theorem imX12_fact : Cond.instanceMethod yX12_fact ∈ tt := mt_8 (List.mem_of_getElem? (i := 16) rfl) rfl
theorem seX12_fact : Cond.selects (yX12_fact).cls yX12_fact yX12_fact ∈ tt := mp_in (n := 114) (List.mem_of_getElem? (i := 59) (by decide +kernel)) rfl
abbrev mX12_hasSquare : gM := (yX12_hasSquare, cX12_hasSquare, 2, (some (Jvm.ClassFile.FieldType.boolean)), false)
theorem cmX12_hasSquare : gf_CM mX12_hasSquare 0 := ⟨icX12, mt_8 (List.mem_of_getElem? (i := 85) rfl) rfl, ⟨nhX12.1, nhX12.2, by decide +kernel⟩, Nat.le_of_ble_eq_true rfl⟩
theorem imX12_hasSquare : Cond.instanceMethod yX12_hasSquare ∈ tt := mt_8 (List.mem_of_getElem? (i := 84) rfl) rfl
theorem seX12_hasSquare : Cond.selects (yX12_hasSquare).cls yX12_hasSquare yX12_hasSquare ∈ tt := mp_in (n := 114) (List.mem_of_getElem? (i := 75) (by decide +kernel)) rfl
abbrev mX12_dropsNots : gM := (yX12_dropsNots, cX12_dropsNots, 1, none, false)
theorem cmX12_dropsNots : gf_CM mX12_dropsNots 0 := ⟨icX12, mt_8 (List.mem_of_getElem? (i := 77) rfl) rfl, ⟨nhX12.1, nhX12.2, by decide +kernel⟩, Nat.le_of_ble_eq_true rfl⟩
theorem imX12_dropsNots : Cond.instanceMethod yX12_dropsNots ∈ tt := mt_8 (List.mem_of_getElem? (i := 76) rfl) rfl
theorem seX12_dropsNots : Cond.selects (yX12_dropsNots).cls yX12_dropsNots yX12_dropsNots ∈ tt := mp_in (n := 114) (List.mem_of_getElem? (i := 73) (by decide +kernel)) rfl
abbrev mX12_test : gM := (yX12_test, cX12_test, 3, none, false)
theorem cmX12_test : gf_CM mX12_test 0 := ⟨icX12, mt_8 (List.mem_of_getElem? (i := 5) rfl) rfl, ⟨nhX12.1, nhX12.2, by decide +kernel⟩, Nat.le_of_ble_eq_true rfl⟩
theorem imX12_test : Cond.instanceMethod yX12_test ∈ tt := mt_8 (List.mem_of_getElem? (i := 4) rfl) rfl
theorem seX12_test : Cond.selects (yX12_test).cls yX12_test yX12_test ∈ tt := mp_in (n := 114) (List.mem_of_getElem? (i := 56) (by decide +kernel)) rfl
abbrev mX12_goesOnTest : gM := (yX12_goesOnTest, cX12_goesOnTest, 1, (some (Jvm.ClassFile.FieldType.boolean)), false)
theorem cmX12_goesOnTest : gf_CM mX12_goesOnTest 0 := ⟨icX12, mt_8 (List.mem_of_getElem? (i := 81) rfl) rfl, ⟨nhX12.1, nhX12.2, by decide +kernel⟩, Nat.le_of_ble_eq_true rfl⟩
theorem imX12_goesOnTest : Cond.instanceMethod yX12_goesOnTest ∈ tt := mt_8 (List.mem_of_getElem? (i := 80) rfl) rfl
theorem seX12_goesOnTest : Cond.selects (yX12_goesOnTest).cls yX12_goesOnTest yX12_goesOnTest ∈ tt := mp_in (n := 114) (List.mem_of_getElem? (i := 74) (by decide +kernel)) rfl
abbrev mX12_statement : gM := (yX12_statement, cX12_statement, 3, none, false)
theorem cmX12_statement : gf_CM mX12_statement 0 := ⟨icX12, mt_7 (List.mem_of_getElem? (i := 226) rfl) rfl, ⟨nhX12.1, nhX12.2, by decide +kernel⟩, Nat.le_of_ble_eq_true rfl⟩
theorem imX12_statement : Cond.instanceMethod yX12_statement ∈ tt := mt_7 (List.mem_of_getElem? (i := 225) rfl) rfl
theorem seX12_statement : Cond.selects (yX12_statement).cls yX12_statement yX12_statement ∈ tt := mp_in (n := 114) (List.mem_of_getElem? (i := 52) (by decide +kernel)) rfl
abbrev mX12_reads : gM := (yX12_reads, cX12_reads, 1, (some (Jvm.ClassFile.FieldType.boolean)), false)
theorem cmX12_reads : gf_CM mX12_reads 0 := ⟨icX12, mt_7 (List.mem_of_getElem? (i := 218) rfl) rfl, ⟨nhX12.1, nhX12.2, by decide +kernel⟩, Nat.le_of_ble_eq_true rfl⟩
theorem imX12_reads : Cond.instanceMethod yX12_reads ∈ tt := mt_7 (List.mem_of_getElem? (i := 217) rfl) rfl
theorem seX12_reads : Cond.selects (yX12_reads).cls yX12_reads yX12_reads ∈ tt := mp_in (n := 114) (List.mem_of_getElem? (i := 50) (by decide +kernel)) rfl
abbrev mX12_copies : gM := (yX12_copies, cX12_copies, 3, none, false)
theorem cmX12_copies : gf_CM mX12_copies 1 := ⟨icX12, mt_8 (List.mem_of_getElem? (i := 93) rfl) rfl, ⟨nhX12.1, nhX12.2, by decide +kernel⟩, Nat.le_of_ble_eq_true rfl⟩
theorem imX12_copies : Cond.instanceMethod yX12_copies ∈ tt := mt_8 (List.mem_of_getElem? (i := 92) rfl) rfl
theorem seX12_copies : Cond.selects (yX12_copies).cls yX12_copies yX12_copies ∈ tt := mp_in (n := 114) (List.mem_of_getElem? (i := 77) (by decide +kernel)) rfl
abbrev mX12_cells : gM := (yX12_cells, cX12_cells, 1, (some (Jvm.ClassFile.FieldType.int)), false)
theorem cmX12_cells : gf_CM mX12_cells 0 := ⟨icX12, mt_7 (List.mem_of_getElem? (i := 169) rfl) rfl, ⟨nhX12.1, nhX12.2, by decide +kernel⟩, Nat.le_of_ble_eq_true rfl⟩
theorem imX12_cells : Cond.instanceMethod yX12_cells ∈ tt := mt_7 (List.mem_of_getElem? (i := 168) rfl) rfl
theorem seX12_cells : Cond.selects (yX12_cells).cls yX12_cells yX12_cells ∈ tt := mp_in (n := 114) (List.mem_of_getElem? (i := 48) (by decide +kernel)) rfl
abbrev mX12_isCell : gM := (yX12_isCell, cX12_isCell, 2, (some (Jvm.ClassFile.FieldType.boolean)), false)
theorem cmX12_isCell : gf_CM mX12_isCell 1 := ⟨icX12, mt_7 (List.mem_of_getElem? (i := 165) rfl) rfl, ⟨nhX12.1, nhX12.2, by decide +kernel⟩, Nat.le_of_ble_eq_true rfl⟩
theorem imX12_isCell : Cond.instanceMethod yX12_isCell ∈ tt := mt_7 (List.mem_of_getElem? (i := 164) rfl) rfl
theorem seX12_isCell : Cond.selects (yX12_isCell).cls yX12_isCell yX12_isCell ∈ tt := mp_in (n := 114) (List.mem_of_getElem? (i := 47) (by decide +kernel)) rfl
abbrev mX12_hasHouse : gM := (yX12_hasHouse, cX12_hasHouse, 2, (some (Jvm.ClassFile.FieldType.boolean)), false)
theorem cmX12_hasHouse : gf_CM mX12_hasHouse 1 := ⟨icX12, mt_8 (List.mem_of_getElem? (i := 105) rfl) rfl, ⟨nhX12.1, nhX12.2, by decide +kernel⟩, Nat.le_of_ble_eq_true rfl⟩
theorem imX12_hasHouse : Cond.instanceMethod yX12_hasHouse ∈ tt := mt_8 (List.mem_of_getElem? (i := 104) rfl) rfl
theorem seX12_hasHouse : Cond.selects (yX12_hasHouse).cls yX12_hasHouse yX12_hasHouse ∈ tt := mp_in (n := 114) (List.mem_of_getElem? (i := 78) (by decide +kernel)) rfl
abbrev mX12_isOffice : gM := (yX12_isOffice, cX12_isOffice, 1, (some (Jvm.ClassFile.FieldType.boolean)), false)
theorem cmX12_isOffice : gf_CM mX12_isOffice 1 := ⟨icX12, mt_7 (List.mem_of_getElem? (i := 195) rfl) rfl, ⟨nhX12.1, nhX12.2, by decide +kernel⟩, Nat.le_of_ble_eq_true rfl⟩
theorem stX12_isOffice : Cond.static yX12_isOffice ∈ tt := mt_7 (List.mem_of_getElem? (i := 194) rfl) rfl
abbrev mX12_city : gM := (yX12_city, cX12_city, 4, (some (Jvm.ClassFile.FieldType.boolean)), false)
theorem cmX12_city : gf_CM mX12_city 2 := ⟨icX12, mt_7 (List.mem_of_getElem? (i := 152) rfl) rfl, ⟨nhX12.1, nhX12.2, by decide +kernel⟩, Nat.le_of_ble_eq_true rfl⟩
theorem imX12_city : Cond.instanceMethod yX12_city ∈ tt := mt_7 (List.mem_of_getElem? (i := 150) rfl) rfl
theorem seX12_city : Cond.selects (yX12_city).cls yX12_city yX12_city ∈ tt := mt_7 (List.mem_of_getElem? (i := 151) rfl) rfl
abbrev mX12_house : gM := (yX12_house, cX12_house, 5, (some (Jvm.ClassFile.FieldType.boolean)), false)
theorem cmX12_house : gf_CM mX12_house 4 := ⟨icX12, mt_7 (List.mem_of_getElem? (i := 161) rfl) rfl, ⟨nhX12.1, nhX12.2, by decide +kernel⟩, Nat.le_of_ble_eq_true rfl⟩
theorem imX12_house : Cond.instanceMethod yX12_house ∈ tt := mt_7 (List.mem_of_getElem? (i := 159) rfl) rfl
theorem seX12_house : Cond.selects (yX12_house).cls yX12_house yX12_house ∈ tt := mt_7 (List.mem_of_getElem? (i := 160) rfl) rfl
abbrev mX12_plug : gM := (yX12_plug, cX12_plug, 3, (some (Jvm.ClassFile.FieldType.boolean)), false)
theorem cmX12_plug : gf_CM mX12_plug 2 := ⟨icX12, mt_7 (List.mem_of_getElem? (i := 176) rfl) rfl, ⟨nhX12.1, nhX12.2, by decide +kernel⟩, Nat.le_of_ble_eq_true rfl⟩
theorem imX12_plug : Cond.instanceMethod yX12_plug ∈ tt := mt_7 (List.mem_of_getElem? (i := 174) rfl) rfl
theorem seX12_plug : Cond.selects (yX12_plug).cls yX12_plug yX12_plug ∈ tt := mt_7 (List.mem_of_getElem? (i := 175) rfl) rfl
abbrev mX12_hazard : gM := (yX12_hazard, cX12_hazard, 3, (some (Jvm.ClassFile.FieldType.boolean)), false)
theorem cmX12_hazard : gf_CM mX12_hazard 2 := ⟨icX12, mt_7 (List.mem_of_getElem? (i := 180) rfl) rfl, ⟨nhX12.1, nhX12.2, by decide +kernel⟩, Nat.le_of_ble_eq_true rfl⟩
theorem imX12_hazard : Cond.instanceMethod yX12_hazard ∈ tt := mt_7 (List.mem_of_getElem? (i := 178) rfl) rfl
theorem seX12_hazard : Cond.selects (yX12_hazard).cls yX12_hazard yX12_hazard ∈ tt := mt_7 (List.mem_of_getElem? (i := 179) rfl) rfl
abbrev mX12_wind : gM := (yX12_wind, cX12_wind, 4, (some (Jvm.ClassFile.FieldType.boolean)), false)
theorem cmX12_wind : gf_CM mX12_wind 3 := ⟨icX12, mt_7 (List.mem_of_getElem? (i := 185) rfl) rfl, ⟨nhX12.1, nhX12.2, by decide +kernel⟩, Nat.le_of_ble_eq_true rfl⟩
theorem imX12_wind : Cond.instanceMethod yX12_wind ∈ tt := mt_7 (List.mem_of_getElem? (i := 183) rfl) rfl
theorem seX12_wind : Cond.selects (yX12_wind).cls yX12_wind yX12_wind ∈ tt := mt_7 (List.mem_of_getElem? (i := 184) rfl) rfl
abbrev mX12_coin : gM := (yX12_coin, cX12_coin, 3, (some (Jvm.ClassFile.FieldType.boolean)), false)
theorem cmX12_coin : gf_CM mX12_coin 2 := ⟨icX12, mt_7 (List.mem_of_getElem? (i := 192) rfl) rfl, ⟨nhX12.1, nhX12.2, by decide +kernel⟩, Nat.le_of_ble_eq_true rfl⟩
theorem imX12_coin : Cond.instanceMethod yX12_coin ∈ tt := mt_7 (List.mem_of_getElem? (i := 190) rfl) rfl
theorem seX12_coin : Cond.selects (yX12_coin).cls yX12_coin yX12_coin ∈ tt := mt_7 (List.mem_of_getElem? (i := 191) rfl) rfl
abbrev mX12_engine : gM := (yX12_engine, cX12_engine, 5, (some (Jvm.ClassFile.FieldType.int)), false)
theorem cmX12_engine : gf_CM mX12_engine 4 := ⟨icX12, mt_7 (List.mem_of_getElem? (i := 201) rfl) rfl, ⟨nhX12.1, nhX12.2, by decide +kernel⟩, Nat.le_of_ble_eq_true rfl⟩
theorem imX12_engine : Cond.instanceMethod yX12_engine ∈ tt := mt_7 (List.mem_of_getElem? (i := 199) rfl) rfl
theorem seX12_engine : Cond.selects (yX12_engine).cls yX12_engine yX12_engine ∈ tt := mt_7 (List.mem_of_getElem? (i := 200) rfl) rfl
abbrev mX12_stands : gM := (yX12_stands, cX12_stands, 6, none, false)
theorem cmX12_stands : gf_CM mX12_stands 5 := ⟨icX12, mt_7 (List.mem_of_getElem? (i := 205) rfl) rfl, ⟨nhX12.1, nhX12.2, by decide +kernel⟩, Nat.le_of_ble_eq_true rfl⟩
theorem imX12_stands : Cond.instanceMethod yX12_stands ∈ tt := mt_7 (List.mem_of_getElem? (i := 204) rfl) rfl
theorem seX12_stands : Cond.selects (yX12_stands).cls yX12_stands yX12_stands ∈ tt := mp_in (n := 114) (List.mem_of_getElem? (i := 49) (by decide +kernel)) rfl
abbrev mX12_deal : gM := (yX12_deal, cX12_deal, 4, (some (Jvm.ClassFile.FieldType.boolean)), false)
theorem cmX12_deal : gf_CM mX12_deal 3 := ⟨icX12, mt_7 (List.mem_of_getElem? (i := 209) rfl) rfl, ⟨nhX12.1, nhX12.2, by decide +kernel⟩, Nat.le_of_ble_eq_true rfl⟩
theorem imX12_deal : Cond.instanceMethod yX12_deal ∈ tt := mt_7 (List.mem_of_getElem? (i := 207) rfl) rfl
theorem seX12_deal : Cond.selects (yX12_deal).cls yX12_deal yX12_deal ∈ tt := mt_7 (List.mem_of_getElem? (i := 208) rfl) rfl
abbrev mX12_rowOfWay : gM := (yX12_rowOfWay, cX12_rowOfWay, 1, (some (Jvm.ClassFile.FieldType.int)), false)
theorem cmX12_rowOfWay : gf_CM mX12_rowOfWay 1 := ⟨icX12, mt_8 (List.mem_of_getElem? (i := 174) rfl) rfl, ⟨nhX12.1, nhX12.2, by decide +kernel⟩, Nat.le_of_ble_eq_true rfl⟩
theorem stX12_rowOfWay : Cond.static yX12_rowOfWay ∈ tt := mt_8 (List.mem_of_getElem? (i := 173) rfl) rfl
abbrev mX12_columnOfWay : gM := (yX12_columnOfWay, cX12_columnOfWay, 1, (some (Jvm.ClassFile.FieldType.int)), false)
theorem cmX12_columnOfWay : gf_CM mX12_columnOfWay 1 := ⟨icX12, mt_8 (List.mem_of_getElem? (i := 177) rfl) rfl, ⟨nhX12.1, nhX12.2, by decide +kernel⟩, Nat.le_of_ble_eq_true rfl⟩
theorem stX12_columnOfWay : Cond.static yX12_columnOfWay ∈ tt := mt_8 (List.mem_of_getElem? (i := 176) rfl) rfl
abbrev mX12_beside : gM := (yX12_beside, cX12_beside, 5, (some (Jvm.ClassFile.FieldType.int)), false)
theorem cmX12_beside : gf_CM mX12_beside 2 := ⟨icX12, mt_8 (List.mem_of_getElem? (i := 171) rfl) rfl, ⟨nhX12.1, nhX12.2, by decide +kernel⟩, Nat.le_of_ble_eq_true rfl⟩
theorem imX12_beside : Cond.instanceMethod yX12_beside ∈ tt := mt_8 (List.mem_of_getElem? (i := 170) rfl) rfl
theorem seX12_beside : Cond.selects (yX12_beside).cls yX12_beside yX12_beside ∈ tt := mp_in (n := 114) (List.mem_of_getElem? (i := 90) (by decide +kernel)) rfl
abbrev mX12_size : gM := (yX12_size, cX12_size, 1, (some (Jvm.ClassFile.FieldType.int)), false)
theorem cmX12_size : gf_CM mX12_size 1 := ⟨icX12, mt_8 (List.mem_of_getElem? (i := 239) rfl) rfl, ⟨nhX12.1, nhX12.2, by decide +kernel⟩, Nat.le_of_ble_eq_true rfl⟩
theorem stX12_size : Cond.static yX12_size ∈ tt := mt_8 (List.mem_of_getElem? (i := 238) rfl) rfl
abbrev mX12_apart : gM := (yX12_apart, cX12_apart, 3, (some (Jvm.ClassFile.FieldType.int)), false)
theorem cmX12_apart : gf_CM mX12_apart 2 := ⟨icX12, mt_8 (List.mem_of_getElem? (i := 236) rfl) rfl, ⟨nhX12.1, nhX12.2, by decide +kernel⟩, Nat.le_of_ble_eq_true rfl⟩
theorem imX12_apart : Cond.instanceMethod yX12_apart ∈ tt := mt_8 (List.mem_of_getElem? (i := 235) rfl) rfl
theorem seX12_apart : Cond.selects (yX12_apart).cls yX12_apart yX12_apart ∈ tt := mp_in (n := 114) (List.mem_of_getElem? (i := 99) (by decide +kernel)) rfl
abbrev mX12_act : gM := (yX12_act, cX12_act, 5, (some (Jvm.ClassFile.FieldType.int)), false)
theorem cmX12_act : gf_CM mX12_act 4 := ⟨icX12, mt_8 (List.mem_of_getElem? (i := 89) rfl) rfl, ⟨nhX12.1, nhX12.2, by decide +kernel⟩, Nat.le_of_ble_eq_true rfl⟩
theorem imX12_act : Cond.instanceMethod yX12_act ∈ tt := mt_8 (List.mem_of_getElem? (i := 88) rfl) rfl
theorem seX12_act : Cond.selects (yX12_act).cls yX12_act yX12_act ∈ tt := mp_in (n := 114) (List.mem_of_getElem? (i := 76) (by decide +kernel)) rfl
abbrev mX12_terms : gM := (yX12_terms, cX12_terms, 3, (some (Jvm.ClassFile.FieldType.int)), false)
theorem cmX12_terms : gf_CM mX12_terms 1 := ⟨icX12, mt_7 (List.mem_of_getElem? (i := 214) rfl) rfl, ⟨nhX12.1, nhX12.2, by decide +kernel⟩, Nat.le_of_ble_eq_true rfl⟩
theorem imX12_terms : Cond.instanceMethod yX12_terms ∈ tt := mt_7 (List.mem_of_getElem? (i := 212) rfl) rfl
theorem seX12_terms : Cond.selects (yX12_terms).cls yX12_terms yX12_terms ∈ tt := mt_7 (List.mem_of_getElem? (i := 213) rfl) rfl
abbrev mX12_fault : gM := (yX12_fault, cX12_fault, 2, (some (Jvm.ClassFile.FieldType.int)), false)
theorem cmX12_fault : gf_CM mX12_fault 1 := ⟨icX12, mt_8 (List.mem_of_getElem? (i := 97) rfl) rfl, ⟨nhX12.1, nhX12.2, by decide +kernel⟩, Nat.le_of_ble_eq_true rfl⟩
theorem imX12_fault : Cond.instanceMethod yX12_fault ∈ tt := mt_8 (List.mem_of_getElem? (i := 95) rfl) rfl
theorem seX12_fault : Cond.selects (yX12_fault).cls yX12_fault yX12_fault ∈ tt := mt_8 (List.mem_of_getElem? (i := 96) rfl) rfl
abbrev mX12_policy : gM := (yX12_policy, cX12_policy, 4, (some (Jvm.ClassFile.FieldType.int)), false)
theorem cmX12_policy : gf_CM mX12_policy 3 := ⟨icX12, mt_8 (List.mem_of_getElem? (i := 101) rfl) rfl, ⟨nhX12.1, nhX12.2, by decide +kernel⟩, Nat.le_of_ble_eq_true rfl⟩
theorem imX12_policy : Cond.instanceMethod yX12_policy ∈ tt := mt_8 (List.mem_of_getElem? (i := 99) rfl) rfl
theorem seX12_policy : Cond.selects (yX12_policy).cls yX12_policy yX12_policy ∈ tt := mt_8 (List.mem_of_getElem? (i := 100) rfl) rfl
abbrev mX12_annul : gM := (yX12_annul, cX12_annul, 2, (some (Jvm.ClassFile.FieldType.int)), false)
theorem cmX12_annul : gf_CM mX12_annul 1 := ⟨icX12, mt_8 (List.mem_of_getElem? (i := 110) rfl) rfl, ⟨nhX12.1, nhX12.2, by decide +kernel⟩, Nat.le_of_ble_eq_true rfl⟩
theorem imX12_annul : Cond.instanceMethod yX12_annul ∈ tt := mt_8 (List.mem_of_getElem? (i := 108) rfl) rfl
theorem seX12_annul : Cond.selects (yX12_annul).cls yX12_annul yX12_annul ∈ tt := mt_8 (List.mem_of_getElem? (i := 109) rfl) rfl
abbrev mX12_as : gM := (yX12_as, cX12_as, 2, (some (Jvm.ClassFile.FieldType.boolean)), false)
theorem cmX12_as : gf_CM mX12_as 1 := ⟨icX12, mt_8 (List.mem_of_getElem? (i := 114) rfl) rfl, ⟨nhX12.1, nhX12.2, by decide +kernel⟩, Nat.le_of_ble_eq_true rfl⟩
theorem imX12_as : Cond.instanceMethod yX12_as ∈ tt := mt_8 (List.mem_of_getElem? (i := 112) rfl) rfl
theorem seX12_as : Cond.selects (yX12_as).cls yX12_as yX12_as ∈ tt := mt_8 (List.mem_of_getElem? (i := 113) rfl) rfl
abbrev mX12_now : gM := (yX12_now, cX12_now, 1, (some (Jvm.ClassFile.FieldType.int)), false)
theorem cmX12_now : gf_CM mX12_now 0 := ⟨icX12, mt_8 (List.mem_of_getElem? (i := 131) rfl) rfl, ⟨nhX12.1, nhX12.2, by decide +kernel⟩, Nat.le_of_ble_eq_true rfl⟩
theorem imX12_now : Cond.instanceMethod yX12_now ∈ tt := mt_8 (List.mem_of_getElem? (i := 130) rfl) rfl
theorem seX12_now : Cond.selects (yX12_now).cls yX12_now yX12_now ∈ tt := mp_in (n := 114) (List.mem_of_getElem? (i := 81) (by decide +kernel)) rfl
abbrev mX12_isKnown : gM := (yX12_isKnown, cX12_isKnown, 2, (some (Jvm.ClassFile.FieldType.boolean)), false)
theorem cmX12_isKnown : gf_CM mX12_isKnown 1 := ⟨icX12, mt_8 (List.mem_of_getElem? (i := 127) rfl) rfl, ⟨nhX12.1, nhX12.2, by decide +kernel⟩, Nat.le_of_ble_eq_true rfl⟩
theorem imX12_isKnown : Cond.instanceMethod yX12_isKnown ∈ tt := mt_8 (List.mem_of_getElem? (i := 126) rfl) rfl
theorem seX12_isKnown : Cond.selects (yX12_isKnown).cls yX12_isKnown yX12_isKnown ∈ tt := mp_in (n := 114) (List.mem_of_getElem? (i := 80) (by decide +kernel)) rfl
abbrev mX12_isPolicy : gM := (yX12_isPolicy, cX12_isPolicy, 2, (some (Jvm.ClassFile.FieldType.boolean)), false)
theorem cmX12_isPolicy : gf_CM mX12_isPolicy 1 := ⟨icX12, mt_8 (List.mem_of_getElem? (i := 139) rfl) rfl, ⟨nhX12.1, nhX12.2, by decide +kernel⟩, Nat.le_of_ble_eq_true rfl⟩
theorem imX12_isPolicy : Cond.instanceMethod yX12_isPolicy ∈ tt := mt_8 (List.mem_of_getElem? (i := 138) rfl) rfl
theorem seX12_isPolicy : Cond.selects (yX12_isPolicy).cls yX12_isPolicy yX12_isPolicy ∈ tt := mp_in (n := 114) (List.mem_of_getElem? (i := 82) (by decide +kernel)) rfl
abbrev mX12_termsOf : gM := (yX12_termsOf, cX12_termsOf, 4, (some (Jvm.ClassFile.FieldType.int)), false)
theorem cmX12_termsOf : gf_CM mX12_termsOf 1 := ⟨icX12, mt_8 (List.mem_of_getElem? (i := 123) rfl) rfl, ⟨nhX12.1, nhX12.2, by decide +kernel⟩, Nat.le_of_ble_eq_true rfl⟩
theorem imX12_termsOf : Cond.instanceMethod yX12_termsOf ∈ tt := mt_8 (List.mem_of_getElem? (i := 122) rfl) rfl
theorem seX12_termsOf : Cond.selects (yX12_termsOf).cls yX12_termsOf yX12_termsOf ∈ tt := mp_in (n := 114) (List.mem_of_getElem? (i := 79) (by decide +kernel)) rfl
abbrev mX12_force : gM := (yX12_force, cX12_force, 3, (some (Jvm.ClassFile.FieldType.int)), false)
theorem cmX12_force : gf_CM mX12_force 1 := ⟨icX12, mt_8 (List.mem_of_getElem? (i := 119) rfl) rfl, ⟨nhX12.1, nhX12.2, by decide +kernel⟩, Nat.le_of_ble_eq_true rfl⟩
theorem imX12_force : Cond.instanceMethod yX12_force ∈ tt := mt_8 (List.mem_of_getElem? (i := 117) rfl) rfl
theorem seX12_force : Cond.selects (yX12_force).cls yX12_force yX12_force ∈ tt := mt_8 (List.mem_of_getElem? (i := 118) rfl) rfl
abbrev mX12_clip : gM := (yX12_clip, cX12_clip, 2, (some (Jvm.ClassFile.FieldType.long)), false)
theorem cmX12_clip : gf_CM mX12_clip 1 := ⟨icX12, mt_8 (List.mem_of_getElem? (i := 184) rfl) rfl, ⟨nhX12.1, nhX12.2, by decide +kernel⟩, Nat.le_of_ble_eq_true rfl⟩
theorem stX12_clip : Cond.static yX12_clip ∈ tt := mt_8 (List.mem_of_getElem? (i := 183) rfl) rfl
abbrev mX12_floor : gM := (yX12_floor, cX12_floor, 6, (some (Jvm.ClassFile.FieldType.long)), false)
theorem cmX12_floor : gf_CM mX12_floor 2 := ⟨icX12, mt_8 (List.mem_of_getElem? (i := 189) rfl) rfl, ⟨nhX12.1, nhX12.2, by decide +kernel⟩, Nat.le_of_ble_eq_true rfl⟩
theorem stX12_floor : Cond.static yX12_floor ∈ tt := mt_8 (List.mem_of_getElem? (i := 188) rfl) rfl
abbrev mX12_puts : gM := (yX12_puts, cX12_puts, 3, none, false)
theorem cmX12_puts : gf_CM mX12_puts 1 := ⟨icX12, mt_8 (List.mem_of_getElem? (i := 159) rfl) rfl, ⟨nhX12.1, nhX12.2, by decide +kernel⟩, Nat.le_of_ble_eq_true rfl⟩
theorem imX12_puts : Cond.instanceMethod yX12_puts ∈ tt := mt_8 (List.mem_of_getElem? (i := 158) rfl) rfl
theorem seX12_puts : Cond.selects (yX12_puts).cls yX12_puts yX12_puts ∈ tt := mp_in (n := 114) (List.mem_of_getElem? (i := 87) (by decide +kernel)) rfl
abbrev mX12_joins : gM := (yX12_joins, cX12_joins, 6, none, false)
theorem cmX12_joins : gf_CM mX12_joins 1 := ⟨icX12, mt_8 (List.mem_of_getElem? (i := 181) rfl) rfl, ⟨nhX12.1, nhX12.2, by decide +kernel⟩, Nat.le_of_ble_eq_true rfl⟩
theorem imX12_joins : Cond.instanceMethod yX12_joins ∈ tt := mt_8 (List.mem_of_getElem? (i := 180) rfl) rfl
theorem seX12_joins : Cond.selects (yX12_joins).cls yX12_joins yX12_joins ∈ tt := mp_in (n := 114) (List.mem_of_getElem? (i := 91) (by decide +kernel)) rfl
abbrev mX12_policiesOn : gM := (yX12_policiesOn, cX12_policiesOn, 4, (some (Jvm.ClassFile.FieldType.int)), false)
theorem cmX12_policiesOn : gf_CM mX12_policiesOn 1 := ⟨icX12, mt_8 (List.mem_of_getElem? (i := 147) rfl) rfl, ⟨nhX12.1, nhX12.2, by decide +kernel⟩, Nat.le_of_ble_eq_true rfl⟩
theorem imX12_policiesOn : Cond.instanceMethod yX12_policiesOn ∈ tt := mt_8 (List.mem_of_getElem? (i := 146) rfl) rfl
theorem seX12_policiesOn : Cond.selects (yX12_policiesOn).cls yX12_policiesOn yX12_policiesOn ∈ tt := mp_in (n := 114) (List.mem_of_getElem? (i := 84) (by decide +kernel)) rfl
abbrev mX12_hasPolicy : gM := (yX12_hasPolicy, cX12_hasPolicy, 4, (some (Jvm.ClassFile.FieldType.boolean)), false)
theorem cmX12_hasPolicy : gf_CM mX12_hasPolicy 2 := ⟨icX12, mt_8 (List.mem_of_getElem? (i := 163) rfl) rfl, ⟨nhX12.1, nhX12.2, by decide +kernel⟩, Nat.le_of_ble_eq_true rfl⟩
theorem imX12_hasPolicy : Cond.instanceMethod yX12_hasPolicy ∈ tt := mt_8 (List.mem_of_getElem? (i := 162) rfl) rfl
theorem seX12_hasPolicy : Cond.selects (yX12_hasPolicy).cls yX12_hasPolicy yX12_hasPolicy ∈ tt := mp_in (n := 114) (List.mem_of_getElem? (i := 88) (by decide +kernel)) rfl
abbrev mX12_near : gM := (yX12_near, cX12_near, 4, (some (Jvm.ClassFile.FieldType.int)), false)
theorem cmX12_near : gf_CM mX12_near 1 := ⟨icX12, mt_8 (List.mem_of_getElem? (i := 167) rfl) rfl, ⟨nhX12.1, nhX12.2, by decide +kernel⟩, Nat.le_of_ble_eq_true rfl⟩
theorem imX12_near : Cond.instanceMethod yX12_near ∈ tt := mt_8 (List.mem_of_getElem? (i := 166) rfl) rfl
theorem seX12_near : Cond.selects (yX12_near).cls yX12_near yX12_near ∈ tt := mp_in (n := 114) (List.mem_of_getElem? (i := 89) (by decide +kernel)) rfl
abbrev mX12_asksOf : gM := (yX12_asksOf, cX12_asksOf, 5, none, false)
theorem cmX12_asksOf : gf_CM mX12_asksOf 4 := ⟨icX12, mt_8 (List.mem_of_getElem? (i := 151) rfl) rfl, ⟨nhX12.1, nhX12.2, by decide +kernel⟩, Nat.le_of_ble_eq_true rfl⟩
theorem imX12_asksOf : Cond.instanceMethod yX12_asksOf ∈ tt := mt_8 (List.mem_of_getElem? (i := 150) rfl) rfl
theorem seX12_asksOf : Cond.selects (yX12_asksOf).cls yX12_asksOf yX12_asksOf ∈ tt := mp_in (n := 114) (List.mem_of_getElem? (i := 85) (by decide +kernel)) rfl
abbrev mX12_tells : gM := (yX12_tells, cX12_tells, 5, (some (Jvm.ClassFile.FieldType.long)), false)
theorem cmX12_tells : gf_CM mX12_tells 2 := ⟨icX12, mt_8 (List.mem_of_getElem? (i := 155) rfl) rfl, ⟨nhX12.1, nhX12.2, by decide +kernel⟩, Nat.le_of_ble_eq_true rfl⟩
theorem imX12_tells : Cond.instanceMethod yX12_tells ∈ tt := mt_8 (List.mem_of_getElem? (i := 154) rfl) rfl
theorem seX12_tells : Cond.selects (yX12_tells).cls yX12_tells yX12_tells ∈ tt := mp_in (n := 114) (List.mem_of_getElem? (i := 86) (by decide +kernel)) rfl
abbrev mX12_holds : gM := (yX12_holds, cX12_holds, 4, (some (Jvm.ClassFile.FieldType.boolean)), false)
theorem cmX12_holds : gf_CM mX12_holds 2 := ⟨icX12, mt_8 (List.mem_of_getElem? (i := 201) rfl) rfl, ⟨nhX12.1, nhX12.2, by decide +kernel⟩, Nat.le_of_ble_eq_true rfl⟩
theorem imX12_holds : Cond.instanceMethod yX12_holds ∈ tt := mt_8 (List.mem_of_getElem? (i := 200) rfl) rfl
theorem seX12_holds : Cond.selects (yX12_holds).cls yX12_holds yX12_holds ∈ tt := mp_in (n := 114) (List.mem_of_getElem? (i := 93) (by decide +kernel)) rfl
abbrev mX12_lastOf : gM := (yX12_lastOf, cX12_lastOf, 5, (some (Jvm.ClassFile.FieldType.int)), false)
theorem cmX12_lastOf : gf_CM mX12_lastOf 2 := ⟨icX12, mt_8 (List.mem_of_getElem? (i := 143) rfl) rfl, ⟨nhX12.1, nhX12.2, by decide +kernel⟩, Nat.le_of_ble_eq_true rfl⟩
theorem imX12_lastOf : Cond.instanceMethod yX12_lastOf ∈ tt := mt_8 (List.mem_of_getElem? (i := 142) rfl) rfl
theorem seX12_lastOf : Cond.selects (yX12_lastOf).cls yX12_lastOf yX12_lastOf ∈ tt := mp_in (n := 114) (List.mem_of_getElem? (i := 83) (by decide +kernel)) rfl
abbrev mX12_premium : gM := (yX12_premium, cX12_premium, 6, (some (Jvm.ClassFile.FieldType.int)), false)
theorem cmX12_premium : gf_CM mX12_premium 1 := ⟨icX12, mt_8 (List.mem_of_getElem? (i := 135) rfl) rfl, ⟨nhX12.1, nhX12.2, by decide +kernel⟩, Nat.le_of_ble_eq_true rfl⟩
theorem imX12_premium : Cond.instanceMethod yX12_premium ∈ tt := mt_8 (List.mem_of_getElem? (i := 133) rfl) rfl
theorem seX12_premium : Cond.selects (yX12_premium).cls yX12_premium yX12_premium ∈ tt := mt_8 (List.mem_of_getElem? (i := 134) rfl) rfl
abbrev mX12_helpsAt : gM := (yX12_helpsAt, cX12_helpsAt, 4, (some (Jvm.ClassFile.FieldType.boolean)), false)
theorem cmX12_helpsAt : gf_CM mX12_helpsAt 2 := ⟨icX12, mt_8 (List.mem_of_getElem? (i := 197) rfl) rfl, ⟨nhX12.1, nhX12.2, by decide +kernel⟩, Nat.le_of_ble_eq_true rfl⟩
theorem imX12_helpsAt : Cond.instanceMethod yX12_helpsAt ∈ tt := mt_8 (List.mem_of_getElem? (i := 196) rfl) rfl
theorem seX12_helpsAt : Cond.selects (yX12_helpsAt).cls yX12_helpsAt yX12_helpsAt ∈ tt := mp_in (n := 114) (List.mem_of_getElem? (i := 92) (by decide +kernel)) rfl
abbrev mX12_helps : gM := (yX12_helps, cX12_helps, 4, (some (Jvm.ClassFile.FieldType.int)), false)
theorem cmX12_helps : gf_CM mX12_helps 1 := ⟨icX12, mt_8 (List.mem_of_getElem? (i := 193) rfl) rfl, ⟨nhX12.1, nhX12.2, by decide +kernel⟩, Nat.le_of_ble_eq_true rfl⟩
theorem imX12_helps : Cond.instanceMethod yX12_helps ∈ tt := mt_8 (List.mem_of_getElem? (i := 191) rfl) rfl
theorem seX12_helps : Cond.selects (yX12_helps).cls yX12_helps yX12_helps ∈ tt := mt_8 (List.mem_of_getElem? (i := 192) rfl) rfl
abbrev mX12_resist : gM := (yX12_resist, cX12_resist, 1, (some (Jvm.ClassFile.FieldType.int)), false)
theorem cmX12_resist : gf_CM mX12_resist 1 := ⟨icX12, mt_8 (List.mem_of_getElem? (i := 228) rfl) rfl, ⟨nhX12.1, nhX12.2, by decide +kernel⟩, Nat.le_of_ble_eq_true rfl⟩
theorem stX12_resist : Cond.static yX12_resist ∈ tt := mt_8 (List.mem_of_getElem? (i := 227) rfl) rfl
abbrev mX12_fuel : gM := (yX12_fuel, cX12_fuel, 1, (some (Jvm.ClassFile.FieldType.int)), false)
theorem cmX12_fuel : gf_CM mX12_fuel 1 := ⟨icX12, mt_8 (List.mem_of_getElem? (i := 217) rfl) rfl, ⟨nhX12.1, nhX12.2, by decide +kernel⟩, Nat.le_of_ble_eq_true rfl⟩
theorem stX12_fuel : Cond.static yX12_fuel ∈ tt := mt_8 (List.mem_of_getElem? (i := 216) rfl) rfl
abbrev mX12_windOf : gM := (yX12_windOf, cX12_windOf, 3, (some (Jvm.ClassFile.FieldType.int)), false)
theorem cmX12_windOf : gf_CM mX12_windOf 1 := ⟨icX12, mt_8 (List.mem_of_getElem? (i := 225) rfl) rfl, ⟨nhX12.1, nhX12.2, by decide +kernel⟩, Nat.le_of_ble_eq_true rfl⟩
theorem imX12_windOf : Cond.instanceMethod yX12_windOf ∈ tt := mt_8 (List.mem_of_getElem? (i := 224) rfl) rfl
theorem seX12_windOf : Cond.selects (yX12_windOf).cls yX12_windOf yX12_windOf ∈ tt := mp_in (n := 114) (List.mem_of_getElem? (i := 97) (by decide +kernel)) rfl
abbrev mX12_goes : gM := (yX12_goes, cX12_goes, 5, none, false)
theorem cmX12_goes : gf_CM mX12_goes 2 := ⟨icX12, mt_8 (List.mem_of_getElem? (i := 209) rfl) rfl, ⟨nhX12.1, nhX12.2, by decide +kernel⟩, Nat.le_of_ble_eq_true rfl⟩
theorem imX12_goes : Cond.instanceMethod yX12_goes ∈ tt := mt_8 (List.mem_of_getElem? (i := 208) rfl) rfl
theorem seX12_goes : Cond.selects (yX12_goes).cls yX12_goes yX12_goes ∈ tt := mp_in (n := 114) (List.mem_of_getElem? (i := 94) (by decide +kernel)) rfl
abbrev mX12_grows : gM := (yX12_grows, cX12_grows, 2, none, false)
theorem cmX12_grows : gf_CM mX12_grows 0 := ⟨icX12, mt_8 (List.mem_of_getElem? (i := 214) rfl) rfl, ⟨nhX12.1, nhX12.2, by decide +kernel⟩, Nat.le_of_ble_eq_true rfl⟩
theorem imX12_grows : Cond.instanceMethod yX12_grows ∈ tt := mt_8 (List.mem_of_getElem? (i := 213) rfl) rfl
