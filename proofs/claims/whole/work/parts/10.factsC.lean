theorem seX12_grows : Cond.selects (yX12_grows).cls yX12_grows yX12_grows ∈ tt := mp_in (n := 114) (List.mem_of_getElem? (i := 95) (by decide +kernel)) rfl
abbrev mX12_spreads : gM := (yX12_spreads, cX12_spreads, 6, none, false)
theorem cmX12_spreads : gf_CM mX12_spreads 1 := ⟨icX12, mt_8 (List.mem_of_getElem? (i := 221) rfl) rfl, ⟨nhX12.1, nhX12.2, by decide +kernel⟩, Nat.le_of_ble_eq_true rfl⟩
theorem imX12_spreads : Cond.instanceMethod yX12_spreads ∈ tt := mt_8 (List.mem_of_getElem? (i := 220) rfl) rfl
theorem seX12_spreads : Cond.selects (yX12_spreads).cls yX12_spreads yX12_spreads ∈ tt := mp_in (n := 114) (List.mem_of_getElem? (i := 96) (by decide +kernel)) rfl
abbrev mX12_hasPlugNear : gM := (yX12_hasPlugNear, cX12_hasPlugNear, 3, (some (Jvm.ClassFile.FieldType.boolean)), false)
theorem cmX12_hasPlugNear : gf_CM mX12_hasPlugNear 1 := ⟨icX12, mt_9 (List.mem_of_getElem? (i := 7) rfl) rfl, ⟨nhX12.1, nhX12.2, by decide +kernel⟩, Nat.le_of_ble_eq_true rfl⟩
theorem imX12_hasPlugNear : Cond.instanceMethod yX12_hasPlugNear ∈ tt := mt_9 (List.mem_of_getElem? (i := 6) rfl) rfl
theorem seX12_hasPlugNear : Cond.selects (yX12_hasPlugNear).cls yX12_hasPlugNear yX12_hasPlugNear ∈ tt := mp_in (n := 114) (List.mem_of_getElem? (i := 101) (by decide +kernel)) rfl
abbrev mX12_drives : gM := (yX12_drives, cX12_drives, 8, none, false)
theorem cmX12_drives : gf_CM mX12_drives 2 := ⟨icX12, mt_8 (List.mem_of_getElem? (i := 232) rfl) rfl, ⟨nhX12.1, nhX12.2, by decide +kernel⟩, Nat.le_of_ble_eq_true rfl⟩
theorem imX12_drives : Cond.instanceMethod yX12_drives ∈ tt := mt_8 (List.mem_of_getElem? (i := 231) rfl) rfl
theorem seX12_drives : Cond.selects (yX12_drives).cls yX12_drives yX12_drives ∈ tt := mp_in (n := 114) (List.mem_of_getElem? (i := 98) (by decide +kernel)) rfl
abbrev mX12_pours : gM := (yX12_pours, cX12_pours, 4, none, false)
theorem cmX12_pours : gf_CM mX12_pours 2 := ⟨icX12, mt_9 (List.mem_of_getElem? (i := 3) rfl) rfl, ⟨nhX12.1, nhX12.2, by decide +kernel⟩, Nat.le_of_ble_eq_true rfl⟩
theorem imX12_pours : Cond.instanceMethod yX12_pours ∈ tt := mt_9 (List.mem_of_getElem? (i := 2) rfl) rfl
theorem seX12_pours : Cond.selects (yX12_pours).cls yX12_pours yX12_pours ∈ tt := mp_in (n := 114) (List.mem_of_getElem? (i := 100) (by decide +kernel)) rfl
abbrev mX12_lossOf : gM := (yX12_lossOf, cX12_lossOf, 2, (some (Jvm.ClassFile.FieldType.int)), false)
theorem cmX12_lossOf : gf_CM mX12_lossOf 1 := ⟨icX12, mt_9 (List.mem_of_getElem? (i := 19) rfl) rfl, ⟨nhX12.1, nhX12.2, by decide +kernel⟩, Nat.le_of_ble_eq_true rfl⟩
theorem imX12_lossOf : Cond.instanceMethod yX12_lossOf ∈ tt := mt_9 (List.mem_of_getElem? (i := 18) rfl) rfl
theorem seX12_lossOf : Cond.selects (yX12_lossOf).cls yX12_lossOf yX12_lossOf ∈ tt := mp_in (n := 114) (List.mem_of_getElem? (i := 104) (by decide +kernel)) rfl
abbrev mX12_lossOfAll : gM := (yX12_lossOfAll, cX12_lossOfAll, 3, (some (Jvm.ClassFile.FieldType.int)), false)
theorem cmX12_lossOfAll : gf_CM mX12_lossOfAll 0 := ⟨icX12, mt_9 (List.mem_of_getElem? (i := 35) rfl) rfl, ⟨nhX12.1, nhX12.2, by decide +kernel⟩, Nat.le_of_ble_eq_true rfl⟩
theorem imX12_lossOfAll : Cond.instanceMethod yX12_lossOfAll ∈ tt := mt_9 (List.mem_of_getElem? (i := 34) rfl) rfl
theorem seX12_lossOfAll : Cond.selects (yX12_lossOfAll).cls yX12_lossOfAll yX12_lossOfAll ∈ tt := mp_in (n := 114) (List.mem_of_getElem? (i := 108) (by decide +kernel)) rfl
abbrev mX12_askOf : gM := (yX12_askOf, cX12_askOf, 7, (some (Jvm.ClassFile.FieldType.int)), false)
theorem cmX12_askOf : gf_CM mX12_askOf 1 := ⟨icX12, mt_9 (List.mem_of_getElem? (i := 15) rfl) rfl, ⟨nhX12.1, nhX12.2, by decide +kernel⟩, Nat.le_of_ble_eq_true rfl⟩
theorem imX12_askOf : Cond.instanceMethod yX12_askOf ∈ tt := mt_9 (List.mem_of_getElem? (i := 14) rfl) rfl
theorem seX12_askOf : Cond.selects (yX12_askOf).cls yX12_askOf yX12_askOf ∈ tt := mp_in (n := 114) (List.mem_of_getElem? (i := 103) (by decide +kernel)) rfl
abbrev mX12_mannerOf : gM := (yX12_mannerOf, cX12_mannerOf, 4, (some (Jvm.ClassFile.FieldType.int)), false)
theorem cmX12_mannerOf : gf_CM mX12_mannerOf 1 := ⟨icX12, mt_9 (List.mem_of_getElem? (i := 23) rfl) rfl, ⟨nhX12.1, nhX12.2, by decide +kernel⟩, Nat.le_of_ble_eq_true rfl⟩
theorem imX12_mannerOf : Cond.instanceMethod yX12_mannerOf ∈ tt := mt_9 (List.mem_of_getElem? (i := 22) rfl) rfl
theorem seX12_mannerOf : Cond.selects (yX12_mannerOf).cls yX12_mannerOf yX12_mannerOf ∈ tt := mp_in (n := 114) (List.mem_of_getElem? (i := 105) (by decide +kernel)) rfl
abbrev mX12_inRow : gM := (yX12_inRow, cX12_inRow, 6, (some (Jvm.ClassFile.FieldType.int)), false)
theorem cmX12_inRow : gf_CM mX12_inRow 3 := ⟨icX12, mt_9 (List.mem_of_getElem? (i := 27) rfl) rfl, ⟨nhX12.1, nhX12.2, by decide +kernel⟩, Nat.le_of_ble_eq_true rfl⟩
theorem imX12_inRow : Cond.instanceMethod yX12_inRow ∈ tt := mt_9 (List.mem_of_getElem? (i := 26) rfl) rfl
theorem seX12_inRow : Cond.selects (yX12_inRow).cls yX12_inRow yX12_inRow ∈ tt := mp_in (n := 114) (List.mem_of_getElem? (i := 106) (by decide +kernel)) rfl
abbrev mX12_byParts : gM := (yX12_byParts, cX12_byParts, 9, (some (Jvm.ClassFile.FieldType.int)), false)
theorem cmX12_byParts : gf_CM mX12_byParts 2 := ⟨icX12, mt_9 (List.mem_of_getElem? (i := 31) rfl) rfl, ⟨nhX12.1, nhX12.2, by decide +kernel⟩, Nat.le_of_ble_eq_true rfl⟩
theorem imX12_byParts : Cond.instanceMethod yX12_byParts ∈ tt := mt_9 (List.mem_of_getElem? (i := 30) rfl) rfl
theorem seX12_byParts : Cond.selects (yX12_byParts).cls yX12_byParts yX12_byParts ∈ tt := mp_in (n := 114) (List.mem_of_getElem? (i := 107) (by decide +kernel)) rfl
abbrev mX12_claims : gM := (yX12_claims, cX12_claims, 2, none, false)
theorem cmX12_claims : gf_CM mX12_claims 0 := ⟨icX12, mt_9 (List.mem_of_getElem? (i := 11) rfl) rfl, ⟨nhX12.1, nhX12.2, by decide +kernel⟩, Nat.le_of_ble_eq_true rfl⟩
theorem imX12_claims : Cond.instanceMethod yX12_claims ∈ tt := mt_9 (List.mem_of_getElem? (i := 10) rfl) rfl
theorem seX12_claims : Cond.selects (yX12_claims).cls yX12_claims yX12_claims ∈ tt := mp_in (n := 114) (List.mem_of_getElem? (i := 102) (by decide +kernel)) rfl
abbrev mX12_settledOf : gM := (yX12_settledOf, cX12_settledOf, 4, (some (Jvm.ClassFile.FieldType.int)), false)
theorem cmX12_settledOf : gf_CM mX12_settledOf 1 := ⟨icX12, mt_9 (List.mem_of_getElem? (i := 39) rfl) rfl, ⟨nhX12.1, nhX12.2, by decide +kernel⟩, Nat.le_of_ble_eq_true rfl⟩
theorem imX12_settledOf : Cond.instanceMethod yX12_settledOf ∈ tt := mt_9 (List.mem_of_getElem? (i := 38) rfl) rfl
theorem seX12_settledOf : Cond.selects (yX12_settledOf).cls yX12_settledOf yX12_settledOf ∈ tt := mp_in (n := 114) (List.mem_of_getElem? (i := 109) (by decide +kernel)) rfl
abbrev mX12_run : gM := (yX12_run, cX12_run, 5, (some (Jvm.ClassFile.FieldType.int)), false)
theorem cmX12_run : gf_CM mX12_run 2 := ⟨icX12, mt_8 (List.mem_of_getElem? (i := 205) rfl) rfl, ⟨nhX12.1, nhX12.2, by decide +kernel⟩, Nat.le_of_ble_eq_true rfl⟩
theorem imX12_run : Cond.instanceMethod yX12_run ∈ tt := mt_8 (List.mem_of_getElem? (i := 203) rfl) rfl
theorem seX12_run : Cond.selects (yX12_run).cls yX12_run yX12_run ∈ tt := mt_8 (List.mem_of_getElem? (i := 204) rfl) rfl
abbrev mX12_burnt : gM := (yX12_burnt, cX12_burnt, 3, (some (Jvm.ClassFile.FieldType.int)), false)
theorem cmX12_burnt : gf_CM mX12_burnt 2 := ⟨icX12, mt_9 (List.mem_of_getElem? (i := 43) rfl) rfl, ⟨nhX12.1, nhX12.2, by decide +kernel⟩, Nat.le_of_ble_eq_true rfl⟩
theorem imX12_burnt : Cond.instanceMethod yX12_burnt ∈ tt := mt_9 (List.mem_of_getElem? (i := 41) rfl) rfl
theorem seX12_burnt : Cond.selects (yX12_burnt).cls yX12_burnt yX12_burnt ∈ tt := mt_9 (List.mem_of_getElem? (i := 42) rfl) rfl
abbrev mX12_came : gM := (yX12_came, cX12_came, 3, (some (Jvm.ClassFile.FieldType.int)), false)
theorem cmX12_came : gf_CM mX12_came 2 := ⟨icX12, mt_9 (List.mem_of_getElem? (i := 47) rfl) rfl, ⟨nhX12.1, nhX12.2, by decide +kernel⟩, Nat.le_of_ble_eq_true rfl⟩
theorem imX12_came : Cond.instanceMethod yX12_came ∈ tt := mt_9 (List.mem_of_getElem? (i := 45) rfl) rfl
theorem seX12_came : Cond.selects (yX12_came).cls yX12_came yX12_came ∈ tt := mt_9 (List.mem_of_getElem? (i := 46) rfl) rfl
abbrev mX12_lost : gM := (yX12_lost, cX12_lost, 1, (some (Jvm.ClassFile.FieldType.int)), false)
theorem cmX12_lost : gf_CM mX12_lost 0 := ⟨icX12, mt_9 (List.mem_of_getElem? (i := 51) rfl) rfl, ⟨nhX12.1, nhX12.2, by decide +kernel⟩, Nat.le_of_ble_eq_true rfl⟩
theorem imX12_lost : Cond.instanceMethod yX12_lost ∈ tt := mt_9 (List.mem_of_getElem? (i := 49) rfl) rfl
theorem seX12_lost : Cond.selects (yX12_lost).cls yX12_lost yX12_lost ∈ tt := mt_9 (List.mem_of_getElem? (i := 50) rfl) rfl
abbrev mX12_claim : gM := (yX12_claim, cX12_claim, 3, (some (Jvm.ClassFile.FieldType.int)), false)
theorem cmX12_claim : gf_CM mX12_claim 2 := ⟨icX12, mt_9 (List.mem_of_getElem? (i := 55) rfl) rfl, ⟨nhX12.1, nhX12.2, by decide +kernel⟩, Nat.le_of_ble_eq_true rfl⟩
theorem imX12_claim : Cond.instanceMethod yX12_claim ∈ tt := mt_9 (List.mem_of_getElem? (i := 53) rfl) rfl
theorem seX12_claim : Cond.selects (yX12_claim).cls yX12_claim yX12_claim ∈ tt := mt_9 (List.mem_of_getElem? (i := 54) rfl) rfl
abbrev mX12_settled : gM := (yX12_settled, cX12_settled, 2, (some (Jvm.ClassFile.FieldType.int)), false)
theorem cmX12_settled : gf_CM mX12_settled 1 := ⟨icX12, mt_9 (List.mem_of_getElem? (i := 60) rfl) rfl, ⟨nhX12.1, nhX12.2, by decide +kernel⟩, Nat.le_of_ble_eq_true rfl⟩
theorem imX12_settled : Cond.instanceMethod yX12_settled ∈ tt := mt_9 (List.mem_of_getElem? (i := 58) rfl) rfl
theorem seX12_settled : Cond.selects (yX12_settled).cls yX12_settled yX12_settled ∈ tt := mt_9 (List.mem_of_getElem? (i := 59) rfl) rfl
abbrev mX12_sumOf : gM := (yX12_sumOf, cX12_sumOf, 6, (some (Jvm.ClassFile.FieldType.long)), false)
theorem cmX12_sumOf : gf_CM mX12_sumOf 2 := ⟨icX12, mt_9 (List.mem_of_getElem? (i := 76) rfl) rfl, ⟨nhX12.1, nhX12.2, by decide +kernel⟩, Nat.le_of_ble_eq_true rfl⟩
theorem imX12_sumOf : Cond.instanceMethod yX12_sumOf ∈ tt := mt_9 (List.mem_of_getElem? (i := 75) rfl) rfl
theorem seX12_sumOf : Cond.selects (yX12_sumOf).cls yX12_sumOf yX12_sumOf ∈ tt := mp_in (n := 114) (List.mem_of_getElem? (i := 112) (by decide +kernel)) rfl
abbrev mX12_falls : gM := (yX12_falls, cX12_falls, 3, none, false)
theorem cmX12_falls : gf_CM mX12_falls 0 := ⟨icX12, mt_9 (List.mem_of_getElem? (i := 68) rfl) rfl, ⟨nhX12.1, nhX12.2, by decide +kernel⟩, Nat.le_of_ble_eq_true rfl⟩
theorem imX12_falls : Cond.instanceMethod yX12_falls ∈ tt := mt_9 (List.mem_of_getElem? (i := 67) rfl) rfl
theorem seX12_falls : Cond.selects (yX12_falls).cls yX12_falls yX12_falls ∈ tt := mp_in (n := 114) (List.mem_of_getElem? (i := 110) (by decide +kernel)) rfl
abbrev mX12_round : gM := (yX12_round, cX12_round, 7, (some (Jvm.ClassFile.FieldType.boolean)), false)
theorem cmX12_round : gf_CM mX12_round 0 := ⟨icX12, mt_9 (List.mem_of_getElem? (i := 72) rfl) rfl, ⟨nhX12.1, nhX12.2, by decide +kernel⟩, Nat.le_of_ble_eq_true rfl⟩
theorem imX12_round : Cond.instanceMethod yX12_round ∈ tt := mt_9 (List.mem_of_getElem? (i := 71) rfl) rfl
theorem seX12_round : Cond.selects (yX12_round).cls yX12_round yX12_round ∈ tt := mp_in (n := 114) (List.mem_of_getElem? (i := 111) (by decide +kernel)) rfl
abbrev mX12_fall : gM := (yX12_fall, cX12_fall, 3, (some (Jvm.ClassFile.FieldType.long)), false)
theorem cmX12_fall : gf_CM mX12_fall 2 := ⟨icX12, mt_9 (List.mem_of_getElem? (i := 64) rfl) rfl, ⟨nhX12.1, nhX12.2, by decide +kernel⟩, Nat.le_of_ble_eq_true rfl⟩
theorem imX12_fall : Cond.instanceMethod yX12_fall ∈ tt := mt_9 (List.mem_of_getElem? (i := 62) rfl) rfl
theorem seX12_fall : Cond.selects (yX12_fall).cls yX12_fall yX12_fall ∈ tt := mt_9 (List.mem_of_getElem? (i := 63) rfl) rfl
abbrev mX12_rounds : gM := (yX12_rounds, cX12_rounds, 1, (some (Jvm.ClassFile.FieldType.int)), false)
theorem cmX12_rounds : gf_CM mX12_rounds 0 := ⟨icX12, mt_9 (List.mem_of_getElem? (i := 80) rfl) rfl, ⟨nhX12.1, nhX12.2, by decide +kernel⟩, Nat.le_of_ble_eq_true rfl⟩
theorem imX12_rounds : Cond.instanceMethod yX12_rounds ∈ tt := mt_9 (List.mem_of_getElem? (i := 78) rfl) rfl
theorem seX12_rounds : Cond.selects (yX12_rounds).cls yX12_rounds yX12_rounds ∈ tt := mt_9 (List.mem_of_getElem? (i := 79) rfl) rfl
abbrev mX12_worst : gM := (yX12_worst, cX12_worst, 7, (some (Jvm.ClassFile.FieldType.int)), false)
theorem cmX12_worst : gf_CM mX12_worst 2 := ⟨icX12, mt_9 (List.mem_of_getElem? (i := 84) rfl) rfl, ⟨nhX12.1, nhX12.2, by decide +kernel⟩, Nat.le_of_ble_eq_true rfl⟩
theorem imX12_worst : Cond.instanceMethod yX12_worst ∈ tt := mt_9 (List.mem_of_getElem? (i := 82) rfl) rfl
theorem seX12_worst : Cond.selects (yX12_worst).cls yX12_worst yX12_worst ∈ tt := mt_9 (List.mem_of_getElem? (i := 83) rfl) rfl
abbrev mX12_place : gM := (yX12_place, cX12_place, 3, (some (Jvm.ClassFile.FieldType.int)), false)
theorem cmX12_place : gf_CM mX12_place 1 := ⟨icX12, mt_9 (List.mem_of_getElem? (i := 89) rfl) rfl, ⟨nhX12.1, nhX12.2, by decide +kernel⟩, Nat.le_of_ble_eq_true rfl⟩
theorem imX12_place : Cond.instanceMethod yX12_place ∈ tt := mt_9 (List.mem_of_getElem? (i := 87) rfl) rfl
theorem seX12_place : Cond.selects (yX12_place).cls yX12_place yX12_place ∈ tt := mt_9 (List.mem_of_getElem? (i := 88) rfl) rfl
abbrev mX12_plan : gM := (yX12_plan, cX12_plan, 13, (some (Jvm.ClassFile.FieldType.int)), false)
theorem cmX12_plan : gf_CM mX12_plan 6 := ⟨icX12, mt_9 (List.mem_of_getElem? (i := 93) rfl) rfl, ⟨nhX12.1, nhX12.2, by decide +kernel⟩, Nat.le_of_ble_eq_true rfl⟩
theorem imX12_plan : Cond.instanceMethod yX12_plan ∈ tt := mt_9 (List.mem_of_getElem? (i := 91) rfl) rfl
theorem seX12_plan : Cond.selects (yX12_plan).cls yX12_plan yX12_plan ∈ tt := mt_9 (List.mem_of_getElem? (i := 92) rfl) rfl
abbrev mX12_planned : gM := (yX12_planned, cX12_planned, 2, (some (Jvm.ClassFile.FieldType.int)), false)
theorem cmX12_planned : gf_CM mX12_planned 1 := ⟨icX12, mt_9 (List.mem_of_getElem? (i := 97) rfl) rfl, ⟨nhX12.1, nhX12.2, by decide +kernel⟩, Nat.le_of_ble_eq_true rfl⟩
theorem imX12_planned : Cond.instanceMethod yX12_planned ∈ tt := mt_9 (List.mem_of_getElem? (i := 95) rfl) rfl
theorem seX12_planned : Cond.selects (yX12_planned).cls yX12_planned yX12_planned ∈ tt := mt_9 (List.mem_of_getElem? (i := 96) rfl) rfl
abbrev mX12_all : gM := (yX12_all, cX12_all, 4, (some (Jvm.ClassFile.FieldType.int)), false)
theorem cmX12_all : gf_CM mX12_all 1 := ⟨icX12, mt_9 (List.mem_of_getElem? (i := 101) rfl) rfl, ⟨nhX12.1, nhX12.2, by decide +kernel⟩, Nat.le_of_ble_eq_true rfl⟩
theorem imX12_all : Cond.instanceMethod yX12_all ∈ tt := mt_9 (List.mem_of_getElem? (i := 99) rfl) rfl
theorem seX12_all : Cond.selects (yX12_all).cls yX12_all yX12_all ∈ tt := mt_9 (List.mem_of_getElem? (i := 100) rfl) rfl
abbrev mJ11_isValidCodePoint_9a6ad : gM := (yJ11_isValidCodePoint_9a6ad, cJ11_isValidCodePoint_9a6ad, 2, (some (Jvm.ClassFile.FieldType.boolean)), false)
theorem cmJ11_isValidCodePoint_9a6ad : gf_CM mJ11_isValidCodePoint_9a6ad 1 := ⟨icJ11, mt_3 (List.mem_of_getElem? (i := 221) rfl) rfl, ⟨nhJ11.1, nhJ11.2, by decide +kernel⟩, Nat.le_of_ble_eq_true rfl⟩
theorem stJ11_isValidCodePoint_9a6ad : Cond.static yJ11_isValidCodePoint_9a6ad ∈ tt := mt_3 (List.mem_of_getElem? (i := 220) rfl) rfl
abbrev mJ11_highSurrogate_5068e : gM := (yJ11_highSurrogate_5068e, cJ11_highSurrogate_5068e, 1, (some (Jvm.ClassFile.FieldType.char)), false)
theorem cmJ11_highSurrogate_5068e : gf_CM mJ11_highSurrogate_5068e 1 := ⟨icJ11, mt_3 (List.mem_of_getElem? (i := 224) rfl) rfl, ⟨nhJ11.1, nhJ11.2, by decide +kernel⟩, Nat.le_of_ble_eq_true rfl⟩
theorem stJ11_highSurrogate_5068e : Cond.static yJ11_highSurrogate_5068e ∈ tt := mt_3 (List.mem_of_getElem? (i := 223) rfl) rfl
abbrev mJ11_lowSurrogate_5068e : gM := (yJ11_lowSurrogate_5068e, cJ11_lowSurrogate_5068e, 1, (some (Jvm.ClassFile.FieldType.char)), false)
theorem cmJ11_lowSurrogate_5068e : gf_CM mJ11_lowSurrogate_5068e 1 := ⟨icJ11, mt_3 (List.mem_of_getElem? (i := 228) rfl) rfl, ⟨nhJ11.1, nhJ11.2, by decide +kernel⟩, Nat.le_of_ble_eq_true rfl⟩
theorem stJ11_lowSurrogate_5068e : Cond.static yJ11_lowSurrogate_5068e ∈ tt := mt_3 (List.mem_of_getElem? (i := 227) rfl) rfl
abbrev mJ9_floorDiv_7cf53 : gM := (yJ9_floorDiv_7cf53, cJ9_floorDiv_7cf53, 3, (some (Jvm.ClassFile.FieldType.int)), false)
theorem cmJ9_floorDiv_7cf53 : gf_CM mJ9_floorDiv_7cf53 2 := ⟨icJ9, mt_5 (List.mem_of_getElem? (i := 3) rfl) rfl, ⟨nhJ9.1, nhJ9.2, by decide +kernel⟩, Nat.le_of_ble_eq_true rfl⟩
theorem stJ9_floorDiv_7cf53 : Cond.static yJ9_floorDiv_7cf53 ∈ tt := mt_5 (List.mem_of_getElem? (i := 2) rfl) rfl
abbrev mJ9_abs_0f7a4 : gM := (yJ9_abs_0f7a4, cJ9_abs_0f7a4, 1, (some (Jvm.ClassFile.FieldType.int)), false)
theorem cmJ9_abs_0f7a4 : gf_CM mJ9_abs_0f7a4 1 := ⟨icJ9, mt_5 (List.mem_of_getElem? (i := 58) rfl) rfl, ⟨nhJ9.1, nhJ9.2, by decide +kernel⟩, Nat.le_of_ble_eq_true rfl⟩
theorem stJ9_abs_0f7a4 : Cond.static yJ9_abs_0f7a4 ∈ tt := mt_5 (List.mem_of_getElem? (i := 57) rfl) rfl
abbrev mJ9_max_7cf53 : gM := (yJ9_max_7cf53, cJ9_max_7cf53, 2, (some (Jvm.ClassFile.FieldType.int)), false)
theorem cmJ9_max_7cf53 : gf_CM mJ9_max_7cf53 2 := ⟨icJ9, mt_3 (List.mem_of_getElem? (i := 174) rfl) rfl, ⟨nhJ9.1, nhJ9.2, by decide +kernel⟩, Nat.le_of_ble_eq_true rfl⟩
theorem stJ9_max_7cf53 : Cond.static yJ9_max_7cf53 ∈ tt := mt_3 (List.mem_of_getElem? (i := 173) rfl) rfl
abbrev mJ9_min_7cf53 : gM := (yJ9_min_7cf53, cJ9_min_7cf53, 2, (some (Jvm.ClassFile.FieldType.int)), false)
theorem cmJ9_min_7cf53 : gf_CM mJ9_min_7cf53 2 := ⟨icJ9, mt_3 (List.mem_of_getElem? (i := 177) rfl) rfl, ⟨nhJ9.1, nhJ9.2, by decide +kernel⟩, Nat.le_of_ble_eq_true rfl⟩
theorem stJ9_min_7cf53 : Cond.static yJ9_min_7cf53 ∈ tt := mt_3 (List.mem_of_getElem? (i := 176) rfl) rfl
abbrev mJ0_length_8abf5 : gM := (yJ0_length_8abf5, cJ0_length_8abf5, 1, (some (Jvm.ClassFile.FieldType.int)), false)
theorem cmJ0_length_8abf5 : gf_CM mJ0_length_8abf5 0 := ⟨icJ0, mt_3 (List.mem_of_getElem? (i := 161) rfl) rfl, ⟨nhJ0.1, nhJ0.2, by decide +kernel⟩, Nat.le_of_ble_eq_true rfl⟩
theorem imJ0_length_8abf5 : Cond.instanceMethod yJ0_length_8abf5 ∈ tt := mt_3 (List.mem_of_getElem? (i := 159) rfl) rfl
theorem seJ0_length_8abf5 : Cond.selects (yJ0_length_8abf5).cls yJ0_length_8abf5 yJ0_length_8abf5 ∈ tt := mt_3 (List.mem_of_getElem? (i := 160) rfl) rfl
abbrev mJ0_charAt_5068e : gM := (yJ0_charAt_5068e, cJ0_charAt_5068e, 2, (some (Jvm.ClassFile.FieldType.char)), false)
theorem cmJ0_charAt_5068e : gf_CM mJ0_charAt_5068e 1 := ⟨icJ0, mt_4 (List.mem_of_getElem? (i := 3) rfl) rfl, ⟨nhJ0.1, nhJ0.2, by decide +kernel⟩, Nat.le_of_ble_eq_true rfl⟩
theorem imJ0_charAt_5068e : Cond.instanceMethod yJ0_charAt_5068e ∈ tt := mt_4 (List.mem_of_getElem? (i := 1) rfl) rfl
theorem seJ0_charAt_5068e : Cond.selects (yJ0_charAt_5068e).cls yJ0_charAt_5068e yJ0_charAt_5068e ∈ tt := mt_4 (List.mem_of_getElem? (i := 2) rfl) rfl
abbrev mJ0_indexOf_0f7a4 : gM := (yJ0_indexOf_0f7a4, cJ0_indexOf_0f7a4, 2, (some (Jvm.ClassFile.FieldType.int)), false)
theorem cmJ0_indexOf_0f7a4 : gf_CM mJ0_indexOf_0f7a4 1 := ⟨icJ0, mt_3 (List.mem_of_getElem? (i := 147) rfl) rfl, ⟨nhJ0.1, nhJ0.2, by decide +kernel⟩, Nat.le_of_ble_eq_true rfl⟩
theorem imJ0_indexOf_0f7a4 : Cond.instanceMethod yJ0_indexOf_0f7a4 ∈ tt := mt_3 (List.mem_of_getElem? (i := 145) rfl) rfl
theorem seJ0_indexOf_0f7a4 : Cond.selects (yJ0_indexOf_0f7a4).cls yJ0_indexOf_0f7a4 yJ0_indexOf_0f7a4 ∈ tt := mt_3 (List.mem_of_getElem? (i := 146) rfl) rfl
abbrev mJ0_indexOf_7cf53 : gM := (yJ0_indexOf_7cf53, cJ0_indexOf_7cf53, 3, (some (Jvm.ClassFile.FieldType.int)), false)
theorem cmJ0_indexOf_7cf53 : gf_CM mJ0_indexOf_7cf53 2 := ⟨icJ0, mt_3 (List.mem_of_getElem? (i := 151) rfl) rfl, ⟨nhJ0.1, nhJ0.2, by decide +kernel⟩, Nat.le_of_ble_eq_true rfl⟩
theorem imJ0_indexOf_7cf53 : Cond.instanceMethod yJ0_indexOf_7cf53 ∈ tt := mt_3 (List.mem_of_getElem? (i := 149) rfl) rfl
theorem seJ0_indexOf_7cf53 : Cond.selects (yJ0_indexOf_7cf53).cls yJ0_indexOf_7cf53 yJ0_indexOf_7cf53 ∈ tt := mt_3 (List.mem_of_getElem? (i := 150) rfl) rfl
abbrev mJ0_coder_7d493 : gM := (yJ0_coder_7d493, cJ0_coder_7d493, 1, (some (Jvm.ClassFile.FieldType.byte)), false)
theorem cmJ0_coder_7d493 : gf_CM mJ0_coder_7d493 0 := ⟨icJ0, mt_3 (List.mem_of_getElem? (i := 165) rfl) rfl, ⟨nhJ0.1, nhJ0.2, by decide +kernel⟩, Nat.le_of_ble_eq_true rfl⟩
theorem imJ0_coder_7d493 : Cond.instanceMethod yJ0_coder_7d493 ∈ tt := mt_3 (List.mem_of_getElem? (i := 163) rfl) rfl
theorem seJ0_coder_7d493 : Cond.selects (yJ0_coder_7d493).cls yJ0_coder_7d493 yJ0_coder_7d493 ∈ tt := mt_3 (List.mem_of_getElem? (i := 164) rfl) rfl
abbrev mJ0_isLatin1_aae02 : gM := (yJ0_isLatin1_aae02, cJ0_isLatin1_aae02, 1, (some (Jvm.ClassFile.FieldType.boolean)), false)
theorem cmJ0_isLatin1_aae02 : gf_CM mJ0_isLatin1_aae02 0 := ⟨icJ0, mt_3 (List.mem_of_getElem? (i := 155) rfl) rfl, ⟨nhJ0.1, nhJ0.2, by decide +kernel⟩, Nat.le_of_ble_eq_true rfl⟩
theorem imJ0_isLatin1_aae02 : Cond.instanceMethod yJ0_isLatin1_aae02 ∈ tt := mt_3 (List.mem_of_getElem? (i := 153) rfl) rfl
theorem seJ0_isLatin1_aae02 : Cond.selects (yJ0_isLatin1_aae02).cls yJ0_isLatin1_aae02 yJ0_isLatin1_aae02 ∈ tt := mt_3 (List.mem_of_getElem? (i := 154) rfl) rfl
abbrev mJ0_checkIndex_df160 : gM := (yJ0_checkIndex_df160, cJ0_checkIndex_df160, 2, none, false)
theorem cmJ0_checkIndex_df160 : gf_CM mJ0_checkIndex_df160 2 := ⟨icJ0, mt_4 (List.mem_of_getElem? (i := 9) rfl) rfl, ⟨nhJ0.1, nhJ0.2, by decide +kernel⟩, Nat.le_of_ble_eq_true rfl⟩
theorem stJ0_checkIndex_df160 : Cond.static yJ0_checkIndex_df160 ∈ tt := mt_4 (List.mem_of_getElem? (i := 8) rfl) rfl
abbrev mJ0_checkBoundsBeginEnd_23922 : gM := (yJ0_checkBoundsBeginEnd_23922, cJ0_checkBoundsBeginEnd_23922, 3, none, false)
theorem cmJ0_checkBoundsBeginEnd_23922 : gf_CM mJ0_checkBoundsBeginEnd_23922 3 := ⟨icJ0, mt_3 (List.mem_of_getElem? (i := 198) rfl) rfl, ⟨nhJ0.1, nhJ0.2, by decide +kernel⟩, Nat.le_of_ble_eq_true rfl⟩
theorem stJ0_checkBoundsBeginEnd_23922 : Cond.static yJ0_checkBoundsBeginEnd_23922 ∈ tt := mt_3 (List.mem_of_getElem? (i := 197) rfl) rfl
abbrev mJ1_charAt_3b067 : gM := (yJ1_charAt_3b067, cJ1_charAt_3b067, 2, (some (Jvm.ClassFile.FieldType.char)), false)
theorem cmJ1_charAt_3b067 : gf_CM mJ1_charAt_3b067 2 := ⟨icJ1, mt_4 (List.mem_of_getElem? (i := 6) rfl) rfl, ⟨nhJ1.1, nhJ1.2, by decide +kernel⟩, Nat.le_of_ble_eq_true rfl⟩
theorem stJ1_charAt_3b067 : Cond.static yJ1_charAt_3b067 ∈ tt := mt_4 (List.mem_of_getElem? (i := 5) rfl) rfl
abbrev mJ1_canEncode_9a6ad : gM := (yJ1_canEncode_9a6ad, cJ1_canEncode_9a6ad, 1, (some (Jvm.ClassFile.FieldType.boolean)), false)
theorem cmJ1_canEncode_9a6ad : gf_CM mJ1_canEncode_9a6ad 1 := ⟨icJ1, mt_3 (List.mem_of_getElem? (i := 171) rfl) rfl, ⟨nhJ1.1, nhJ1.2, by decide +kernel⟩, Nat.le_of_ble_eq_true rfl⟩
theorem stJ1_canEncode_9a6ad : Cond.static yJ1_canEncode_9a6ad ∈ tt := mt_3 (List.mem_of_getElem? (i := 170) rfl) rfl
abbrev mJ1_indexOf_4cfef : gM := (yJ1_indexOf_4cfef, cJ1_indexOf_4cfef, 4, (some (Jvm.ClassFile.FieldType.int)), false)
theorem cmJ1_indexOf_4cfef : gf_CM mJ1_indexOf_4cfef 4 := ⟨icJ1, mt_3 (List.mem_of_getElem? (i := 168) rfl) rfl, ⟨nhJ1.1, nhJ1.2, by decide +kernel⟩, Nat.le_of_ble_eq_true rfl⟩
theorem stJ1_indexOf_4cfef : Cond.static yJ1_indexOf_4cfef ∈ tt := mt_3 (List.mem_of_getElem? (i := 167) rfl) rfl
abbrev mJ1_indexOfChar_4cfef : gM := (yJ1_indexOfChar_4cfef, cJ1_indexOfChar_4cfef, 6, (some (Jvm.ClassFile.FieldType.int)), false)
theorem cmJ1_indexOfChar_4cfef : gf_CM mJ1_indexOfChar_4cfef 4 := ⟨icJ1, mt_3 (List.mem_of_getElem? (i := 180) rfl) rfl, ⟨nhJ1.1, nhJ1.2, by decide +kernel⟩, Nat.le_of_ble_eq_true rfl⟩
theorem stJ1_indexOfChar_4cfef : Cond.static yJ1_indexOfChar_4cfef ∈ tt := mt_3 (List.mem_of_getElem? (i := 179) rfl) rfl
abbrev mJ2_getChar_3b067 : gM := (yJ2_getChar_3b067, cJ2_getChar_3b067, 2, (some (Jvm.ClassFile.FieldType.char)), false)
theorem cmJ2_getChar_3b067 : gf_CM mJ2_getChar_3b067 2 := ⟨icJ2, mt_3 (List.mem_of_getElem? (i := 209) rfl) rfl, ⟨nhJ2.1, nhJ2.2, by decide +kernel⟩, Nat.le_of_ble_eq_true rfl⟩
theorem stJ2_getChar_3b067 : Cond.static yJ2_getChar_3b067 ∈ tt := mt_3 (List.mem_of_getElem? (i := 208) rfl) rfl
abbrev mJ2_length_9d52b : gM := (yJ2_length_9d52b, cJ2_length_9d52b, 1, (some (Jvm.ClassFile.FieldType.int)), false)
theorem cmJ2_length_9d52b : gf_CM mJ2_length_9d52b 1 := ⟨icJ2, mt_3 (List.mem_of_getElem? (i := 195) rfl) rfl, ⟨nhJ2.1, nhJ2.2, by decide +kernel⟩, Nat.le_of_ble_eq_true rfl⟩
theorem stJ2_length_9d52b : Cond.static yJ2_length_9d52b ∈ tt := mt_3 (List.mem_of_getElem? (i := 194) rfl) rfl
abbrev mJ2_indexOf_4cfef : gM := (yJ2_indexOf_4cfef, cJ2_indexOf_4cfef, 4, (some (Jvm.ClassFile.FieldType.int)), false)
theorem cmJ2_indexOf_4cfef : gf_CM mJ2_indexOf_4cfef 4 := ⟨icJ2, mt_3 (List.mem_of_getElem? (i := 183) rfl) rfl, ⟨nhJ2.1, nhJ2.2, by decide +kernel⟩, Nat.le_of_ble_eq_true rfl⟩
theorem stJ2_indexOf_4cfef : Cond.static yJ2_indexOf_4cfef ∈ tt := mt_3 (List.mem_of_getElem? (i := 182) rfl) rfl
abbrev mJ2_indexOfChar_4cfef : gM := (yJ2_indexOfChar_4cfef, cJ2_indexOfChar_4cfef, 4, (some (Jvm.ClassFile.FieldType.int)), false)
theorem cmJ2_indexOfChar_4cfef : gf_CM mJ2_indexOfChar_4cfef 4 := ⟨icJ2, mt_3 (List.mem_of_getElem? (i := 189) rfl) rfl, ⟨nhJ2.1, nhJ2.2, by decide +kernel⟩, Nat.le_of_ble_eq_true rfl⟩
theorem stJ2_indexOfChar_4cfef : Cond.static yJ2_indexOfChar_4cfef ∈ tt := mt_3 (List.mem_of_getElem? (i := 188) rfl) rfl
abbrev mJ2_indexOfCharUnsafe_4cfef : gM := (yJ2_indexOfCharUnsafe_4cfef, cJ2_indexOfCharUnsafe_4cfef, 5, (some (Jvm.ClassFile.FieldType.int)), false)
theorem cmJ2_indexOfCharUnsafe_4cfef : gf_CM mJ2_indexOfCharUnsafe_4cfef 4 := ⟨icJ2, mt_3 (List.mem_of_getElem? (i := 206) rfl) rfl, ⟨nhJ2.1, nhJ2.2, by decide +kernel⟩, Nat.le_of_ble_eq_true rfl⟩
theorem stJ2_indexOfCharUnsafe_4cfef : Cond.static yJ2_indexOfCharUnsafe_4cfef ∈ tt := mt_3 (List.mem_of_getElem? (i := 205) rfl) rfl
abbrev mJ2_indexOfSupplementary_4cfef : gM := (yJ2_indexOfSupplementary_4cfef, cJ2_indexOfSupplementary_4cfef, 7, (some (Jvm.ClassFile.FieldType.int)), false)
theorem cmJ2_indexOfSupplementary_4cfef : gf_CM mJ2_indexOfSupplementary_4cfef 4 := ⟨icJ2, mt_3 (List.mem_of_getElem? (i := 218) rfl) rfl, ⟨nhJ2.1, nhJ2.2, by decide +kernel⟩, Nat.le_of_ble_eq_true rfl⟩
theorem stJ2_indexOfSupplementary_4cfef : Cond.static yJ2_indexOfSupplementary_4cfef ∈ tt := mt_3 (List.mem_of_getElem? (i := 217) rfl) rfl
abbrev mJ2_charAt_3b067 : gM := (yJ2_charAt_3b067, cJ2_charAt_3b067, 2, (some (Jvm.ClassFile.FieldType.char)), false)
theorem cmJ2_charAt_3b067 : gf_CM mJ2_charAt_3b067 2 := ⟨icJ2, mt_4 (List.mem_of_getElem? (i := 15) rfl) rfl, ⟨nhJ2.1, nhJ2.2, by decide +kernel⟩, Nat.le_of_ble_eq_true rfl⟩
theorem stJ2_charAt_3b067 : Cond.static yJ2_charAt_3b067 ∈ tt := mt_4 (List.mem_of_getElem? (i := 14) rfl) rfl
abbrev mJ2_checkIndex_2214a : gM := (yJ2_checkIndex_2214a, cJ2_checkIndex_2214a, 2, none, false)
theorem cmJ2_checkIndex_2214a : gf_CM mJ2_checkIndex_2214a 2 := ⟨icJ2, mt_4 (List.mem_of_getElem? (i := 18) rfl) rfl, ⟨nhJ2.1, nhJ2.2, by decide +kernel⟩, Nat.le_of_ble_eq_true rfl⟩
theorem stJ2_checkIndex_2214a : Cond.static yJ2_checkIndex_2214a ∈ tt := mt_4 (List.mem_of_getElem? (i := 17) rfl) rfl
abbrev mJ2_checkBoundsBeginEnd_d044e : gM := (yJ2_checkBoundsBeginEnd_d044e, cJ2_checkBoundsBeginEnd_d044e, 3, none, false)
theorem cmJ2_checkBoundsBeginEnd_d044e : gf_CM mJ2_checkBoundsBeginEnd_d044e 3 := ⟨icJ2, mt_3 (List.mem_of_getElem? (i := 192) rfl) rfl, ⟨nhJ2.1, nhJ2.2, by decide +kernel⟩, Nat.le_of_ble_eq_true rfl⟩
theorem stJ2_checkBoundsBeginEnd_d044e : Cond.static yJ2_checkBoundsBeginEnd_d044e ∈ tt := mt_3 (List.mem_of_getElem? (i := 191) rfl) rfl
abbrev mJ7_fill_53178 : gM := (yJ7_fill_53178, cJ7_fill_53178, 4, none, false)
theorem cmJ7_fill_53178 : gf_CM mJ7_fill_53178 2 := ⟨icJ7, mt_3 (List.mem_of_getElem? (i := 8) rfl) rfl, ⟨nhJ7.1, nhJ7.2, by decide +kernel⟩, Nat.le_of_ble_eq_true rfl⟩
theorem stJ7_fill_53178 : Cond.static yJ7_fill_53178 ∈ tt := mt_3 (List.mem_of_getElem? (i := 7) rfl) rfl
abbrev mJ7_copyOf_59c91 : gM := (yJ7_copyOf_59c91, cJ7_copyOf_59c91, 3, (some ((Jvm.ClassFile.FieldType.array Jvm.ClassFile.FieldType.int))), false)
theorem cmJ7_copyOf_59c91 : gf_CM mJ7_copyOf_59c91 2 := ⟨icJ7, mt_4 (List.mem_of_getElem? (i := 88) rfl) rfl, ⟨nhJ7.1, nhJ7.2, by decide +kernel⟩, Nat.le_of_ble_eq_true rfl⟩
theorem stJ7_copyOf_59c91 : Cond.static yJ7_copyOf_59c91 ∈ tt := mt_4 (List.mem_of_getElem? (i := 87) rfl) rfl
abbrev mJ3_checkIndex_8e157 : gM := (yJ3_checkIndex_8e157, cJ3_checkIndex_8e157, 3, (some (Jvm.ClassFile.FieldType.int)), false)
theorem cmJ3_checkIndex_8e157 : gf_CM mJ3_checkIndex_8e157 3 := ⟨icJ3, mt_4 (List.mem_of_getElem? (i := 12) rfl) rfl, ⟨nhJ3.1, nhJ3.2, by decide +kernel⟩, Nat.le_of_ble_eq_true rfl⟩
theorem stJ3_checkIndex_8e157 : Cond.static yJ3_checkIndex_8e157 ∈ tt := mt_4 (List.mem_of_getElem? (i := 11) rfl) rfl
abbrev mJ3_checkFromToIndex_8c36e : gM := (yJ3_checkFromToIndex_8c36e, cJ3_checkFromToIndex_8c36e, 4, (some (Jvm.ClassFile.FieldType.int)), false)
theorem cmJ3_checkFromToIndex_8c36e : gf_CM mJ3_checkFromToIndex_8c36e 4 := ⟨icJ3, mt_3 (List.mem_of_getElem? (i := 203) rfl) rfl, ⟨nhJ3.1, nhJ3.2, by decide +kernel⟩, Nat.le_of_ble_eq_true rfl⟩
theorem stJ3_checkFromToIndex_8c36e : Cond.static yJ3_checkFromToIndex_8c36e ∈ tt := mt_3 (List.mem_of_getElem? (i := 202) rfl) rfl
theorem flX1_57 : gf_FL RX1 57 1 0 := ⟨by decide, by decide, mt_1 (List.mem_of_getElem? (i := 38) rfl) rfl⟩
theorem flX5_174 : gf_FL RX5 174 1 0 := ⟨by decide, by decide, mt_1 (List.mem_of_getElem? (i := 39) rfl) rfl⟩
theorem flX1_61 : gf_FL RX1 61 1 1 := ⟨by decide, by decide, mt_1 (List.mem_of_getElem? (i := 40) rfl) rfl⟩
theorem flX1_64 : gf_FL RX1 64 1 2 := ⟨by decide, by decide, mt_1 (List.mem_of_getElem? (i := 41) rfl) rfl⟩
theorem flX5_79 : gf_FL RX5 79 1 2 := ⟨by decide, by decide, mt_1 (List.mem_of_getElem? (i := 42) rfl) rfl⟩
theorem flX6_50 : gf_FL RX6 50 1 2 := ⟨by decide, by decide, mt_1 (List.mem_of_getElem? (i := 43) rfl) rfl⟩
theorem flX11_302 : gf_FL RX11 302 1 2 := ⟨by decide, by decide, mt_1 (List.mem_of_getElem? (i := 44) rfl) rfl⟩
theorem flX1_9 : gf_FL RX1 9 1 3 := ⟨by decide, by decide, mt_1 (List.mem_of_getElem? (i := 45) rfl) rfl⟩
theorem flX5_85 : gf_FL RX5 85 1 3 := ⟨by decide, by decide, mt_1 (List.mem_of_getElem? (i := 46) rfl) rfl⟩
theorem flX6_56 : gf_FL RX6 56 1 3 := ⟨by decide, by decide, mt_1 (List.mem_of_getElem? (i := 47) rfl) rfl⟩
theorem flX11_305 : gf_FL RX11 305 1 3 := ⟨by decide, by decide, mt_1 (List.mem_of_getElem? (i := 48) rfl) rfl⟩
theorem flX1_15 : gf_FL RX1 15 1 4 := ⟨by decide, by decide, mt_1 (List.mem_of_getElem? (i := 49) rfl) rfl⟩
theorem flX6_26 : gf_FL RX6 26 1 4 := ⟨by decide, by decide, mt_1 (List.mem_of_getElem? (i := 50) rfl) rfl⟩
theorem flX1_19 : gf_FL RX1 19 1 5 := ⟨by decide, by decide, mt_1 (List.mem_of_getElem? (i := 51) rfl) rfl⟩
theorem flX6_31 : gf_FL RX6 31 1 5 := ⟨by decide, by decide, mt_1 (List.mem_of_getElem? (i := 52) rfl) rfl⟩
theorem flX5_135 : gf_FL RX5 135 1 5 := ⟨by decide, by decide, mt_1 (List.mem_of_getElem? (i := 53) rfl) rfl⟩
theorem flX1_22 : gf_FL RX1 22 1 6 := ⟨by decide, by decide, mt_1 (List.mem_of_getElem? (i := 54) rfl) rfl⟩
theorem flX6_34 : gf_FL RX6 34 1 6 := ⟨by decide, by decide, mt_1 (List.mem_of_getElem? (i := 55) rfl) rfl⟩
theorem flX5_183 : gf_FL RX5 183 1 6 := ⟨by decide, by decide, mt_1 (List.mem_of_getElem? (i := 56) rfl) rfl⟩
theorem flX1_25 : gf_FL RX1 25 1 7 := ⟨by decide, by decide, mt_1 (List.mem_of_getElem? (i := 57) rfl) rfl⟩
theorem flX11_132 : gf_FL RX11 132 1 7 := ⟨by decide, by decide, mt_1 (List.mem_of_getElem? (i := 58) rfl) rfl⟩
theorem flX1_28 : gf_FL RX1 28 1 8 := ⟨by decide, by decide, mt_1 (List.mem_of_getElem? (i := 59) rfl) rfl⟩
theorem flX5_171 : gf_FL RX5 171 1 8 := ⟨by decide, by decide, mt_1 (List.mem_of_getElem? (i := 60) rfl) rfl⟩
theorem flX1_31 : gf_FL RX1 31 1 9 := ⟨by decide, by decide, mt_1 (List.mem_of_getElem? (i := 61) rfl) rfl⟩
theorem flX5_162 : gf_FL RX5 162 1 9 := ⟨by decide, by decide, mt_1 (List.mem_of_getElem? (i := 62) rfl) rfl⟩
theorem flX1_36 : gf_FL RX1 36 1 10 := ⟨by decide, by decide, mt_1 (List.mem_of_getElem? (i := 63) rfl) rfl⟩
theorem flX5_138 : gf_FL RX5 138 1 10 := ⟨by decide, by decide, mt_1 (List.mem_of_getElem? (i := 64) rfl) rfl⟩
theorem flX1_39 : gf_FL RX1 39 1 11 := ⟨by decide, by decide, mt_1 (List.mem_of_getElem? (i := 65) rfl) rfl⟩
theorem flX11_136 : gf_FL RX11 136 1 11 := ⟨by decide, by decide, mt_1 (List.mem_of_getElem? (i := 66) rfl) rfl⟩
theorem flX5_132 : gf_FL RX5 132 1 11 := ⟨by decide, by decide, mt_1 (List.mem_of_getElem? (i := 67) rfl) rfl⟩
theorem flX1_42 : gf_FL RX1 42 1 12 := ⟨by decide, by decide, mt_1 (List.mem_of_getElem? (i := 68) rfl) rfl⟩
theorem flX1_45 : gf_FL RX1 45 1 13 := ⟨by decide, by decide, mt_1 (List.mem_of_getElem? (i := 69) rfl) rfl⟩
theorem flX5_119 : gf_FL RX5 119 1 13 := ⟨by decide, by decide, mt_1 (List.mem_of_getElem? (i := 70) rfl) rfl⟩
theorem flX1_48 : gf_FL RX1 48 1 14 := ⟨by decide, by decide, mt_1 (List.mem_of_getElem? (i := 71) rfl) rfl⟩
theorem flX5_122 : gf_FL RX5 122 1 14 := ⟨by decide, by decide, mt_1 (List.mem_of_getElem? (i := 72) rfl) rfl⟩
theorem flX1_51 : gf_FL RX1 51 1 15 := ⟨by decide, by decide, mt_1 (List.mem_of_getElem? (i := 73) rfl) rfl⟩
theorem flX4_38 : gf_FL RX4 38 1 15 := ⟨by decide, by decide, mt_1 (List.mem_of_getElem? (i := 74) rfl) rfl⟩
theorem flX11_147 : gf_FL RX11 147 1 15 := ⟨by decide, by decide, mt_1 (List.mem_of_getElem? (i := 75) rfl) rfl⟩
theorem flX1_54 : gf_FL RX1 54 1 16 := ⟨by decide, by decide, mt_1 (List.mem_of_getElem? (i := 76) rfl) rfl⟩
theorem flX4_22 : gf_FL RX4 22 1 16 := ⟨by decide, by decide, mt_1 (List.mem_of_getElem? (i := 77) rfl) rfl⟩
theorem flX11_156 : gf_FL RX11 156 1 16 := ⟨by decide, by decide, mt_1 (List.mem_of_getElem? (i := 78) rfl) rfl⟩
theorem flX3_24 : gf_FL RX3 24 3 0 := ⟨by decide, by decide, mt_1 (List.mem_of_getElem? (i := 122) rfl) rfl⟩
theorem flX5_92 : gf_FL RX5 92 3 0 := ⟨by decide, by decide, mt_1 (List.mem_of_getElem? (i := 123) rfl) rfl⟩
theorem flX11_109 : gf_FL RX11 109 3 0 := ⟨by decide, by decide, mt_1 (List.mem_of_getElem? (i := 124) rfl) rfl⟩
theorem flX8_45 : gf_FL RX8 45 3 0 := ⟨by decide, by decide, mt_1 (List.mem_of_getElem? (i := 125) rfl) rfl⟩
theorem flX3_9 : gf_FL RX3 9 3 1 := ⟨by decide, by decide, mt_1 (List.mem_of_getElem? (i := 126) rfl) rfl⟩
theorem flX5_142 : gf_FL RX5 142 3 1 := ⟨by decide, by decide, mt_1 (List.mem_of_getElem? (i := 127) rfl) rfl⟩
theorem flX3_15 : gf_FL RX3 15 3 2 := ⟨by decide, by decide, mt_1 (List.mem_of_getElem? (i := 128) rfl) rfl⟩
theorem flX5_100 : gf_FL RX5 100 3 2 := ⟨by decide, by decide, mt_1 (List.mem_of_getElem? (i := 129) rfl) rfl⟩
theorem flX3_18 : gf_FL RX3 18 3 3 := ⟨by decide, by decide, mt_1 (List.mem_of_getElem? (i := 130) rfl) rfl⟩
theorem flX5_149 : gf_FL RX5 149 3 3 := ⟨by decide, by decide, mt_1 (List.mem_of_getElem? (i := 131) rfl) rfl⟩
theorem flX3_21 : gf_FL RX3 21 3 4 := ⟨by decide, by decide, mt_1 (List.mem_of_getElem? (i := 132) rfl) rfl⟩
theorem flX5_177 : gf_FL RX5 177 3 4 := ⟨by decide, by decide, mt_1 (List.mem_of_getElem? (i := 133) rfl) rfl⟩
theorem flX11_97 : gf_FL RX11 97 9 0 := ⟨by decide, by decide, mt_1 (List.mem_of_getElem? (i := 151) rfl) rfl⟩
theorem flX9_37 : gf_FL RX9 37 9 0 := ⟨by decide, by decide, mt_1 (List.mem_of_getElem? (i := 152) rfl) rfl⟩
theorem flX9_40 : gf_FL RX9 40 9 1 := ⟨by decide, by decide, mt_1 (List.mem_of_getElem? (i := 153) rfl) rfl⟩
theorem flX11_172 : gf_FL RX11 172 9 1 := ⟨by decide, by decide, mt_1 (List.mem_of_getElem? (i := 154) rfl) rfl⟩
theorem flX9_9 : gf_FL RX9 9 9 2 := ⟨by decide, by decide, mt_1 (List.mem_of_getElem? (i := 155) rfl) rfl⟩
theorem flX11_175 : gf_FL RX11 175 9 2 := ⟨by decide, by decide, mt_1 (List.mem_of_getElem? (i := 156) rfl) rfl⟩
theorem flX10_9 : gf_FL RX10 9 9 3 := ⟨by decide, by decide, mt_1 (List.mem_of_getElem? (i := 157) rfl) rfl⟩
theorem flX9_43 : gf_FL RX9 43 9 3 := ⟨by decide, by decide, mt_1 (List.mem_of_getElem? (i := 158) rfl) rfl⟩
theorem flX10_22 : gf_FL RX10 22 9 4 := ⟨by decide, by decide, mt_1 (List.mem_of_getElem? (i := 159) rfl) rfl⟩
theorem flX9_46 : gf_FL RX9 46 9 4 := ⟨by decide, by decide, mt_1 (List.mem_of_getElem? (i := 160) rfl) rfl⟩
theorem flX10_18 : gf_FL RX10 18 9 5 := ⟨by decide, by decide, mt_1 (List.mem_of_getElem? (i := 161) rfl) rfl⟩
theorem flX9_15 : gf_FL RX9 15 9 5 := ⟨by decide, by decide, mt_1 (List.mem_of_getElem? (i := 162) rfl) rfl⟩
theorem flX9_19 : gf_FL RX9 19 9 6 := ⟨by decide, by decide, mt_1 (List.mem_of_getElem? (i := 163) rfl) rfl⟩
theorem flX10_32 : gf_FL RX10 32 9 6 := ⟨by decide, by decide, mt_1 (List.mem_of_getElem? (i := 164) rfl) rfl⟩
theorem flX9_22 : gf_FL RX9 22 9 7 := ⟨by decide, by decide, mt_1 (List.mem_of_getElem? (i := 165) rfl) rfl⟩
theorem flX10_36 : gf_FL RX10 36 9 7 := ⟨by decide, by decide, mt_1 (List.mem_of_getElem? (i := 166) rfl) rfl⟩
theorem flX9_25 : gf_FL RX9 25 9 8 := ⟨by decide, by decide, mt_1 (List.mem_of_getElem? (i := 167) rfl) rfl⟩
theorem flX9_28 : gf_FL RX9 28 9 9 := ⟨by decide, by decide, mt_1 (List.mem_of_getElem? (i := 168) rfl) rfl⟩
theorem flX9_31 : gf_FL RX9 31 9 10 := ⟨by decide, by decide, mt_1 (List.mem_of_getElem? (i := 169) rfl) rfl⟩
theorem flX9_34 : gf_FL RX9 34 9 11 := ⟨by decide, by decide, mt_1 (List.mem_of_getElem? (i := 170) rfl) rfl⟩
theorem flX9_68 : gf_FL RX9 68 9 12 := ⟨by decide, by decide, mt_1 (List.mem_of_getElem? (i := 171) rfl) rfl⟩
theorem flX9_49 : gf_FL RX9 49 9 13 := ⟨by decide, by decide, mt_1 (List.mem_of_getElem? (i := 172) rfl) rfl⟩
theorem flX0_37 : gf_FL RX0 37 0 0 := ⟨by decide, by decide, mt_1 (List.mem_of_getElem? (i := 210) rfl) rfl⟩
theorem flX11_193 : gf_FL RX11 193 0 0 := ⟨by decide, by decide, mt_1 (List.mem_of_getElem? (i := 211) rfl) rfl⟩
theorem flX0_9 : gf_FL RX0 9 0 1 := ⟨by decide, by decide, mt_1 (List.mem_of_getElem? (i := 212) rfl) rfl⟩
theorem flX11_194 : gf_FL RX11 194 0 1 := ⟨by decide, by decide, mt_1 (List.mem_of_getElem? (i := 213) rfl) rfl⟩
theorem flX0_15 : gf_FL RX0 15 0 2 := ⟨by decide, by decide, mt_1 (List.mem_of_getElem? (i := 214) rfl) rfl⟩
theorem flX2_71 : gf_FL RX2 71 0 2 := ⟨by decide, by decide, mt_1 (List.mem_of_getElem? (i := 215) rfl) rfl⟩
theorem flX7_54 : gf_FL RX7 54 0 2 := ⟨by decide, by decide, mt_1 (List.mem_of_getElem? (i := 216) rfl) rfl⟩
theorem flX11_234 : gf_FL RX11 234 0 2 := ⟨by decide, by decide, mt_1 (List.mem_of_getElem? (i := 217) rfl) rfl⟩
theorem flX0_19 : gf_FL RX0 19 0 3 := ⟨by decide, by decide, mt_1 (List.mem_of_getElem? (i := 218) rfl) rfl⟩
theorem flX2_85 : gf_FL RX2 85 0 3 := ⟨by decide, by decide, mt_1 (List.mem_of_getElem? (i := 219) rfl) rfl⟩
theorem flX7_67 : gf_FL RX7 67 0 3 := ⟨by decide, by decide, mt_1 (List.mem_of_getElem? (i := 220) rfl) rfl⟩
theorem flX11_219 : gf_FL RX11 219 0 3 := ⟨by decide, by decide, mt_1 (List.mem_of_getElem? (i := 221) rfl) rfl⟩
theorem flX0_22 : gf_FL RX0 22 0 4 := ⟨by decide, by decide, mt_1 (List.mem_of_getElem? (i := 222) rfl) rfl⟩
theorem flX2_88 : gf_FL RX2 88 0 4 := ⟨by decide, by decide, mt_1 (List.mem_of_getElem? (i := 223) rfl) rfl⟩
theorem flX11_225 : gf_FL RX11 225 0 4 := ⟨by decide, by decide, mt_1 (List.mem_of_getElem? (i := 224) rfl) rfl⟩
theorem flX0_27 : gf_FL RX0 27 0 5 := ⟨by decide, by decide, mt_1 (List.mem_of_getElem? (i := 225) rfl) rfl⟩
theorem flX7_61 : gf_FL RX7 61 0 5 := ⟨by decide, by decide, mt_1 (List.mem_of_getElem? (i := 226) rfl) rfl⟩
theorem flX0_31 : gf_FL RX0 31 0 6 := ⟨by decide, by decide, mt_1 (List.mem_of_getElem? (i := 227) rfl) rfl⟩
theorem flX0_34 : gf_FL RX0 34 0 7 := ⟨by decide, by decide, mt_1 (List.mem_of_getElem? (i := 228) rfl) rfl⟩
theorem flX7_30 : gf_FL RX7 30 7 0 := ⟨by decide, by decide, mt_2 (List.mem_of_getElem? (i := 13) rfl) rfl⟩
theorem flX2_50 : gf_FL RX2 50 7 0 := ⟨by decide, by decide, mt_2 (List.mem_of_getElem? (i := 14) rfl) rfl⟩
theorem flX7_11 : gf_FL RX7 11 7 1 := ⟨by decide, by decide, mt_2 (List.mem_of_getElem? (i := 15) rfl) rfl⟩
theorem flX2_95 : gf_FL RX2 95 7 1 := ⟨by decide, by decide, mt_2 (List.mem_of_getElem? (i := 16) rfl) rfl⟩
theorem flX6_74 : gf_FL RX6 74 7 1 := ⟨by decide, by decide, mt_2 (List.mem_of_getElem? (i := 17) rfl) rfl⟩
theorem flX11_201 : gf_FL RX11 201 7 1 := ⟨by decide, by decide, mt_2 (List.mem_of_getElem? (i := 18) rfl) rfl⟩
theorem flX7_17 : gf_FL RX7 17 7 2 := ⟨by decide, by decide, mt_2 (List.mem_of_getElem? (i := 19) rfl) rfl⟩
theorem flX2_56 : gf_FL RX2 56 7 2 := ⟨by decide, by decide, mt_2 (List.mem_of_getElem? (i := 20) rfl) rfl⟩
theorem flX7_21 : gf_FL RX7 21 7 3 := ⟨by decide, by decide, mt_2 (List.mem_of_getElem? (i := 21) rfl) rfl⟩
theorem flX6_41 : gf_FL RX6 41 7 3 := ⟨by decide, by decide, mt_2 (List.mem_of_getElem? (i := 22) rfl) rfl⟩
theorem flX7_24 : gf_FL RX7 24 7 4 := ⟨by decide, by decide, mt_2 (List.mem_of_getElem? (i := 23) rfl) rfl⟩
theorem flX2_59 : gf_FL RX2 59 7 4 := ⟨by decide, by decide, mt_2 (List.mem_of_getElem? (i := 24) rfl) rfl⟩
theorem flX6_67 : gf_FL RX6 67 7 4 := ⟨by decide, by decide, mt_2 (List.mem_of_getElem? (i := 25) rfl) rfl⟩
theorem flX11_228 : gf_FL RX11 228 7 4 := ⟨by decide, by decide, mt_2 (List.mem_of_getElem? (i := 26) rfl) rfl⟩
theorem flX7_27 : gf_FL RX7 27 7 5 := ⟨by decide, by decide, mt_2 (List.mem_of_getElem? (i := 27) rfl) rfl⟩
theorem flX6_53 : gf_FL RX6 53 7 5 := ⟨by decide, by decide, mt_2 (List.mem_of_getElem? (i := 28) rfl) rfl⟩
theorem flX11_247 : gf_FL RX11 247 7 5 := ⟨by decide, by decide, mt_2 (List.mem_of_getElem? (i := 29) rfl) rfl⟩
theorem flX6_18 : gf_FL RX6 18 6 0 := ⟨by decide, by decide, mt_2 (List.mem_of_getElem? (i := 49) rfl) rfl⟩
theorem flX6_22 : gf_FL RX6 22 6 1 := ⟨by decide, by decide, mt_2 (List.mem_of_getElem? (i := 50) rfl) rfl⟩
theorem flX6_9 : gf_FL RX6 9 6 2 := ⟨by decide, by decide, mt_2 (List.mem_of_getElem? (i := 51) rfl) rfl⟩
theorem flX6_15 : gf_FL RX6 15 6 3 := ⟨by decide, by decide, mt_2 (List.mem_of_getElem? (i := 52) rfl) rfl⟩
theorem flX6_46 : gf_FL RX6 46 6 4 := ⟨by decide, by decide, mt_2 (List.mem_of_getElem? (i := 53) rfl) rfl⟩
theorem flX5_75 : gf_FL RX5 75 5 0 := ⟨by decide, by decide, mt_2 (List.mem_of_getElem? (i := 71) rfl) rfl⟩
theorem flX11_115 : gf_FL RX11 115 5 0 := ⟨by decide, by decide, mt_2 (List.mem_of_getElem? (i := 72) rfl) rfl⟩
theorem flX5_97 : gf_FL RX5 97 5 1 := ⟨by decide, by decide, mt_2 (List.mem_of_getElem? (i := 73) rfl) rfl⟩
theorem flX11_268 : gf_FL RX11 268 5 1 := ⟨by decide, by decide, mt_2 (List.mem_of_getElem? (i := 74) rfl) rfl⟩
theorem flX8_60 : gf_FL RX8 60 5 2 := ⟨by decide, by decide, mt_2 (List.mem_of_getElem? (i := 75) rfl) rfl⟩
theorem flX5_180 : gf_FL RX5 180 5 2 := ⟨by decide, by decide, mt_2 (List.mem_of_getElem? (i := 76) rfl) rfl⟩
theorem flX11_274 : gf_FL RX11 274 5 2 := ⟨by decide, by decide, mt_2 (List.mem_of_getElem? (i := 77) rfl) rfl⟩
theorem flX5_9 : gf_FL RX5 9 5 3 := ⟨by decide, by decide, mt_2 (List.mem_of_getElem? (i := 78) rfl) rfl⟩
theorem flX11_261 : gf_FL RX11 261 5 3 := ⟨by decide, by decide, mt_2 (List.mem_of_getElem? (i := 79) rfl) rfl⟩
theorem flX5_15 : gf_FL RX5 15 5 4 := ⟨by decide, by decide, mt_2 (List.mem_of_getElem? (i := 80) rfl) rfl⟩
theorem flX2_62 : gf_FL RX2 62 5 4 := ⟨by decide, by decide, mt_2 (List.mem_of_getElem? (i := 81) rfl) rfl⟩
theorem flX5_46 : gf_FL RX5 46 5 5 := ⟨by decide, by decide, mt_2 (List.mem_of_getElem? (i := 82) rfl) rfl⟩
theorem flX5_50 : gf_FL RX5 50 5 6 := ⟨by decide, by decide, mt_2 (List.mem_of_getElem? (i := 83) rfl) rfl⟩
theorem flX5_19 : gf_FL RX5 19 5 7 := ⟨by decide, by decide, mt_2 (List.mem_of_getElem? (i := 84) rfl) rfl⟩
theorem flX5_22 : gf_FL RX5 22 5 8 := ⟨by decide, by decide, mt_2 (List.mem_of_getElem? (i := 85) rfl) rfl⟩
theorem flX5_25 : gf_FL RX5 25 5 9 := ⟨by decide, by decide, mt_2 (List.mem_of_getElem? (i := 86) rfl) rfl⟩
theorem flX5_28 : gf_FL RX5 28 5 10 := ⟨by decide, by decide, mt_2 (List.mem_of_getElem? (i := 87) rfl) rfl⟩
theorem flX5_31 : gf_FL RX5 31 5 11 := ⟨by decide, by decide, mt_2 (List.mem_of_getElem? (i := 88) rfl) rfl⟩
theorem flX5_34 : gf_FL RX5 34 5 12 := ⟨by decide, by decide, mt_2 (List.mem_of_getElem? (i := 89) rfl) rfl⟩
theorem flX5_37 : gf_FL RX5 37 5 13 := ⟨by decide, by decide, mt_2 (List.mem_of_getElem? (i := 90) rfl) rfl⟩
theorem flX5_40 : gf_FL RX5 40 5 14 := ⟨by decide, by decide, mt_2 (List.mem_of_getElem? (i := 91) rfl) rfl⟩
theorem flX5_43 : gf_FL RX5 43 5 15 := ⟨by decide, by decide, mt_2 (List.mem_of_getElem? (i := 92) rfl) rfl⟩
theorem flX2_9 : gf_FL RX2 9 2 0 := ⟨by decide, by decide, mt_2 (List.mem_of_getElem? (i := 132) rfl) rfl⟩
theorem flX11_277 : gf_FL RX11 277 2 0 := ⟨by decide, by decide, mt_2 (List.mem_of_getElem? (i := 133) rfl) rfl⟩
theorem flX2_15 : gf_FL RX2 15 2 1 := ⟨by decide, by decide, mt_2 (List.mem_of_getElem? (i := 134) rfl) rfl⟩
theorem flX11_280 : gf_FL RX11 280 2 1 := ⟨by decide, by decide, mt_2 (List.mem_of_getElem? (i := 135) rfl) rfl⟩
theorem flX2_19 : gf_FL RX2 19 2 2 := ⟨by decide, by decide, mt_2 (List.mem_of_getElem? (i := 136) rfl) rfl⟩
theorem flX11_283 : gf_FL RX11 283 2 2 := ⟨by decide, by decide, mt_2 (List.mem_of_getElem? (i := 137) rfl) rfl⟩
theorem flX2_22 : gf_FL RX2 22 2 3 := ⟨by decide, by decide, mt_2 (List.mem_of_getElem? (i := 138) rfl) rfl⟩
theorem flX11_286 : gf_FL RX11 286 2 3 := ⟨by decide, by decide, mt_2 (List.mem_of_getElem? (i := 139) rfl) rfl⟩
theorem flX2_32 : gf_FL RX2 32 2 4 := ⟨by decide, by decide, mt_2 (List.mem_of_getElem? (i := 140) rfl) rfl⟩
theorem flX2_36 : gf_FL RX2 36 2 5 := ⟨by decide, by decide, mt_2 (List.mem_of_getElem? (i := 141) rfl) rfl⟩
theorem flX2_40 : gf_FL RX2 40 2 6 := ⟨by decide, by decide, mt_2 (List.mem_of_getElem? (i := 142) rfl) rfl⟩
theorem flX2_25 : gf_FL RX2 25 2 7 := ⟨by decide, by decide, mt_2 (List.mem_of_getElem? (i := 143) rfl) rfl⟩
theorem flX2_28 : gf_FL RX2 28 2 8 := ⟨by decide, by decide, mt_2 (List.mem_of_getElem? (i := 144) rfl) rfl⟩
theorem flX2_82 : gf_FL RX2 82 2 9 := ⟨by decide, by decide, mt_2 (List.mem_of_getElem? (i := 145) rfl) rfl⟩
theorem flX4_30 : gf_FL RX4 30 4 0 := ⟨by decide, by decide, mt_2 (List.mem_of_getElem? (i := 176) rfl) rfl⟩
theorem flX11_299 : gf_FL RX11 299 4 0 := ⟨by decide, by decide, mt_2 (List.mem_of_getElem? (i := 177) rfl) rfl⟩
theorem flX4_11 : gf_FL RX4 11 4 1 := ⟨by decide, by decide, mt_2 (List.mem_of_getElem? (i := 178) rfl) rfl⟩
theorem flX4_16 : gf_FL RX4 16 4 2 := ⟨by decide, by decide, mt_2 (List.mem_of_getElem? (i := 179) rfl) rfl⟩
theorem flX4_19 : gf_FL RX4 19 4 3 := ⟨by decide, by decide, mt_2 (List.mem_of_getElem? (i := 180) rfl) rfl⟩
theorem flX8_29 : gf_FL RX8 29 8 0 := ⟨by decide, by decide, mt_2 (List.mem_of_getElem? (i := 196) rfl) rfl⟩
theorem flX11_311 : gf_FL RX11 311 8 0 := ⟨by decide, by decide, mt_2 (List.mem_of_getElem? (i := 197) rfl) rfl⟩
theorem flX8_33 : gf_FL RX8 33 8 1 := ⟨by decide, by decide, mt_2 (List.mem_of_getElem? (i := 198) rfl) rfl⟩
theorem flX11_324 : gf_FL RX11 324 8 1 := ⟨by decide, by decide, mt_2 (List.mem_of_getElem? (i := 199) rfl) rfl⟩
theorem flX8_9 : gf_FL RX8 9 8 2 := ⟨by decide, by decide, mt_2 (List.mem_of_getElem? (i := 200) rfl) rfl⟩
theorem flX11_314 : gf_FL RX11 314 8 2 := ⟨by decide, by decide, mt_2 (List.mem_of_getElem? (i := 201) rfl) rfl⟩
theorem flX8_15 : gf_FL RX8 15 8 3 := ⟨by decide, by decide, mt_2 (List.mem_of_getElem? (i := 202) rfl) rfl⟩
theorem flX11_327 : gf_FL RX11 327 8 3 := ⟨by decide, by decide, mt_2 (List.mem_of_getElem? (i := 203) rfl) rfl⟩
theorem flX8_21 : gf_FL RX8 21 8 4 := ⟨by decide, by decide, mt_2 (List.mem_of_getElem? (i := 204) rfl) rfl⟩
theorem flX8_25 : gf_FL RX8 25 8 5 := ⟨by decide, by decide, mt_2 (List.mem_of_getElem? (i := 205) rfl) rfl⟩
theorem flX8_18 : gf_FL RX8 18 8 6 := ⟨by decide, by decide, mt_2 (List.mem_of_getElem? (i := 206) rfl) rfl⟩
theorem flX8_36 : gf_FL RX8 36 8 7 := ⟨by decide, by decide, mt_2 (List.mem_of_getElem? (i := 207) rfl) rfl⟩
theorem flX8_39 : gf_FL RX8 39 8 8 := ⟨by decide, by decide, mt_2 (List.mem_of_getElem? (i := 208) rfl) rfl⟩
theorem flX8_42 : gf_FL RX8 42 8 9 := ⟨by decide, by decide, mt_2 (List.mem_of_getElem? (i := 209) rfl) rfl⟩
theorem flX11_10 : gf_FL RX11 10 11 0 := ⟨by decide, by decide, mt_3 (List.mem_of_getElem? (i := 9) rfl) rfl⟩
theorem flX11_19 : gf_FL RX11 19 11 1 := ⟨by decide, by decide, mt_3 (List.mem_of_getElem? (i := 10) rfl) rfl⟩
theorem flX11_26 : gf_FL RX11 26 11 2 := ⟨by decide, by decide, mt_3 (List.mem_of_getElem? (i := 11) rfl) rfl⟩
theorem flX11_33 : gf_FL RX11 33 11 3 := ⟨by decide, by decide, mt_3 (List.mem_of_getElem? (i := 12) rfl) rfl⟩
theorem flX11_40 : gf_FL RX11 40 11 4 := ⟨by decide, by decide, mt_3 (List.mem_of_getElem? (i := 13) rfl) rfl⟩
theorem flX11_49 : gf_FL RX11 49 11 5 := ⟨by decide, by decide, mt_3 (List.mem_of_getElem? (i := 14) rfl) rfl⟩
theorem flX11_58 : gf_FL RX11 58 11 6 := ⟨by decide, by decide, mt_3 (List.mem_of_getElem? (i := 15) rfl) rfl⟩
theorem flX11_67 : gf_FL RX11 67 11 7 := ⟨by decide, by decide, mt_3 (List.mem_of_getElem? (i := 16) rfl) rfl⟩
theorem flX11_71 : gf_FL RX11 71 11 8 := ⟨by decide, by decide, mt_3 (List.mem_of_getElem? (i := 17) rfl) rfl⟩
theorem flX11_74 : gf_FL RX11 74 11 9 := ⟨by decide, by decide, mt_3 (List.mem_of_getElem? (i := 18) rfl) rfl⟩
theorem flX11_80 : gf_FL RX11 80 11 10 := ⟨by decide, by decide, mt_3 (List.mem_of_getElem? (i := 19) rfl) rfl⟩
theorem flX11_89 : gf_FL RX11 89 11 11 := ⟨by decide, by decide, mt_3 (List.mem_of_getElem? (i := 20) rfl) rfl⟩
theorem flX10_15 : gf_FL RX10 15 10 0 := ⟨by decide, by decide, mt_4 (List.mem_of_getElem? (i := 100) rfl) rfl⟩
theorem flX6_103 : gf_FL RX6 103 10 0 := ⟨by decide, by decide, mt_4 (List.mem_of_getElem? (i := 101) rfl) rfl⟩
theorem flX11_205 : gf_FL RX11 205 10 0 := ⟨by decide, by decide, mt_4 (List.mem_of_getElem? (i := 102) rfl) rfl⟩
theorem flX10_31 : gf_FL RX10 31 10 1 := ⟨by decide, by decide, mt_4 (List.mem_of_getElem? (i := 103) rfl) rfl⟩
theorem flX6_116 : gf_FL RX6 116 10 1 := ⟨by decide, by decide, mt_4 (List.mem_of_getElem? (i := 104) rfl) rfl⟩
theorem flX10_35 : gf_FL RX10 35 10 2 := ⟨by decide, by decide, mt_4 (List.mem_of_getElem? (i := 105) rfl) rfl⟩
theorem flX6_106 : gf_FL RX6 106 10 2 := ⟨by decide, by decide, mt_4 (List.mem_of_getElem? (i := 106) rfl) rfl⟩
theorem flX10_39 : gf_FL RX10 39 10 3 := ⟨by decide, by decide, mt_4 (List.mem_of_getElem? (i := 107) rfl) rfl⟩
theorem flX6_113 : gf_FL RX6 113 10 3 := ⟨by decide, by decide, mt_4 (List.mem_of_getElem? (i := 108) rfl) rfl⟩
theorem flX10_40 : gf_FL RX10 40 10 4 := ⟨by decide, by decide, mt_4 (List.mem_of_getElem? (i := 109) rfl) rfl⟩
theorem flX6_97 : gf_FL RX6 97 10 4 := ⟨by decide, by decide, mt_4 (List.mem_of_getElem? (i := 110) rfl) rfl⟩
theorem flX10_43 : gf_FL RX10 43 10 5 := ⟨by decide, by decide, mt_4 (List.mem_of_getElem? (i := 111) rfl) rfl⟩
theorem flX6_82 : gf_FL RX6 82 10 5 := ⟨by decide, by decide, mt_4 (List.mem_of_getElem? (i := 112) rfl) rfl⟩
theorem flX10_46 : gf_FL RX10 46 10 6 := ⟨by decide, by decide, mt_4 (List.mem_of_getElem? (i := 113) rfl) rfl⟩
theorem flX2_111 : gf_FL RX2 111 10 6 := ⟨by decide, by decide, mt_4 (List.mem_of_getElem? (i := 114) rfl) rfl⟩
theorem flX12_7 : gf_FL RX12 7 12 0 := ⟨by decide, by decide, mt_6 (List.mem_of_getElem? (i := 37) rfl) rfl⟩
theorem flX12_282 : gf_FL RX12 282 12 1 := ⟨by decide, by decide, mt_6 (List.mem_of_getElem? (i := 38) rfl) rfl⟩
theorem flX12_291 : gf_FL RX12 291 12 2 := ⟨by decide, by decide, mt_6 (List.mem_of_getElem? (i := 39) rfl) rfl⟩
theorem flX12_294 : gf_FL RX12 294 12 3 := ⟨by decide, by decide, mt_6 (List.mem_of_getElem? (i := 40) rfl) rfl⟩
theorem flX12_305 : gf_FL RX12 305 12 4 := ⟨by decide, by decide, mt_6 (List.mem_of_getElem? (i := 41) rfl) rfl⟩
theorem flX12_285 : gf_FL RX12 285 12 5 := ⟨by decide, by decide, mt_6 (List.mem_of_getElem? (i := 42) rfl) rfl⟩
theorem flX12_288 : gf_FL RX12 288 12 6 := ⟨by decide, by decide, mt_6 (List.mem_of_getElem? (i := 43) rfl) rfl⟩
theorem flX12_406 : gf_FL RX12 406 12 7 := ⟨by decide, by decide, mt_6 (List.mem_of_getElem? (i := 44) rfl) rfl⟩
theorem flX12_13 : gf_FL RX12 13 12 8 := ⟨by decide, by decide, mt_6 (List.mem_of_getElem? (i := 45) rfl) rfl⟩
theorem flX12_17 : gf_FL RX12 17 12 9 := ⟨by decide, by decide, mt_6 (List.mem_of_getElem? (i := 46) rfl) rfl⟩
theorem flX12_21 : gf_FL RX12 21 12 10 := ⟨by decide, by decide, mt_6 (List.mem_of_getElem? (i := 47) rfl) rfl⟩
theorem flX12_24 : gf_FL RX12 24 12 11 := ⟨by decide, by decide, mt_6 (List.mem_of_getElem? (i := 48) rfl) rfl⟩
theorem flX12_27 : gf_FL RX12 27 12 12 := ⟨by decide, by decide, mt_6 (List.mem_of_getElem? (i := 49) rfl) rfl⟩
theorem flX12_30 : gf_FL RX12 30 12 13 := ⟨by decide, by decide, mt_6 (List.mem_of_getElem? (i := 50) rfl) rfl⟩
theorem flX12_33 : gf_FL RX12 33 12 14 := ⟨by decide, by decide, mt_6 (List.mem_of_getElem? (i := 51) rfl) rfl⟩
theorem flX12_36 : gf_FL RX12 36 12 15 := ⟨by decide, by decide, mt_6 (List.mem_of_getElem? (i := 52) rfl) rfl⟩
theorem flX12_39 : gf_FL RX12 39 12 16 := ⟨by decide, by decide, mt_6 (List.mem_of_getElem? (i := 53) rfl) rfl⟩
theorem flX12_42 : gf_FL RX12 42 12 17 := ⟨by decide, by decide, mt_6 (List.mem_of_getElem? (i := 54) rfl) rfl⟩
theorem flX12_45 : gf_FL RX12 45 12 18 := ⟨by decide, by decide, mt_6 (List.mem_of_getElem? (i := 55) rfl) rfl⟩
theorem flX12_48 : gf_FL RX12 48 12 19 := ⟨by decide, by decide, mt_6 (List.mem_of_getElem? (i := 56) rfl) rfl⟩
theorem flX12_51 : gf_FL RX12 51 12 20 := ⟨by decide, by decide, mt_6 (List.mem_of_getElem? (i := 57) rfl) rfl⟩
theorem flX12_54 : gf_FL RX12 54 12 21 := ⟨by decide, by decide, mt_6 (List.mem_of_getElem? (i := 58) rfl) rfl⟩
theorem flX12_57 : gf_FL RX12 57 12 22 := ⟨by decide, by decide, mt_6 (List.mem_of_getElem? (i := 59) rfl) rfl⟩
theorem flX12_60 : gf_FL RX12 60 12 23 := ⟨by decide, by decide, mt_6 (List.mem_of_getElem? (i := 60) rfl) rfl⟩
theorem flX12_63 : gf_FL RX12 63 12 24 := ⟨by decide, by decide, mt_6 (List.mem_of_getElem? (i := 61) rfl) rfl⟩
theorem flX12_66 : gf_FL RX12 66 12 25 := ⟨by decide, by decide, mt_6 (List.mem_of_getElem? (i := 62) rfl) rfl⟩
theorem flX12_69 : gf_FL RX12 69 12 26 := ⟨by decide, by decide, mt_6 (List.mem_of_getElem? (i := 63) rfl) rfl⟩
theorem flX12_72 : gf_FL RX12 72 12 27 := ⟨by decide, by decide, mt_6 (List.mem_of_getElem? (i := 64) rfl) rfl⟩
theorem flX12_75 : gf_FL RX12 75 12 28 := ⟨by decide, by decide, mt_6 (List.mem_of_getElem? (i := 65) rfl) rfl⟩
theorem flX12_78 : gf_FL RX12 78 12 29 := ⟨by decide, by decide, mt_6 (List.mem_of_getElem? (i := 66) rfl) rfl⟩
theorem flX12_81 : gf_FL RX12 81 12 30 := ⟨by decide, by decide, mt_6 (List.mem_of_getElem? (i := 67) rfl) rfl⟩
theorem flX12_84 : gf_FL RX12 84 12 31 := ⟨by decide, by decide, mt_6 (List.mem_of_getElem? (i := 68) rfl) rfl⟩
theorem flX12_87 : gf_FL RX12 87 12 32 := ⟨by decide, by decide, mt_6 (List.mem_of_getElem? (i := 69) rfl) rfl⟩
theorem flX12_90 : gf_FL RX12 90 12 33 := ⟨by decide, by decide, mt_6 (List.mem_of_getElem? (i := 70) rfl) rfl⟩
theorem flX12_93 : gf_FL RX12 93 12 34 := ⟨by decide, by decide, mt_6 (List.mem_of_getElem? (i := 71) rfl) rfl⟩
theorem flX12_96 : gf_FL RX12 96 12 35 := ⟨by decide, by decide, mt_6 (List.mem_of_getElem? (i := 72) rfl) rfl⟩
theorem flX12_100 : gf_FL RX12 100 12 36 := ⟨by decide, by decide, mt_6 (List.mem_of_getElem? (i := 73) rfl) rfl⟩
