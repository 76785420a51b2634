/-! ===== the two texts below the base: rows, and the members of String over them ===== -/
theorem lfS_9 : (Jvm.Cond.fieldLink "java/lang/String" (9 : Nat) "java/lang/String" "value" "[B") ∈ tt := mt_9 (List.mem_of_getElem? (i := 103) rfl) rfl
theorem lfS_15 : (Jvm.Cond.fieldLink "java/lang/String" (15 : Nat) "java/lang/String" "coder" "B") ∈ tt := mt_9 (List.mem_of_getElem? (i := 102) rfl) rfl
theorem lfS_38 : (Jvm.Cond.fieldLink "java/lang/String" (38 : Nat) "java/lang/String" "COMPACT_STRINGS" "Z") ∈ tt := mt_3 (List.mem_of_getElem? (i := 156) rfl) rfl
theorem lfS_1053 : (Jvm.Cond.fieldLink "java/lang/String" (1053 : Nat) "jdk/internal/util/Preconditions" "SIOOBE_FORMATTER" "Ljava/util/function/BiFunction;") ∈ tt := mt_3 (List.mem_of_getElem? (i := 199) rfl) rfl
section GS
variable {E : gE} {M : gM} {d pc : Nat} {lv : List (Nat × Value)} {rest : List Value} {h h' : hp_T} {v : Option Value}
theorem gf_zretTE {x y : Int32} {ty : FieldType} (hdg : decode M.2.1 pc = .ok (.ireturn, 1)) (hr : M.2.2.2.1 = some ty) (hn : narrow ty (.int x) = .int x) (e : x = y) (eh : h = h') : gf E M d pc lv [.int x] h (some (.int y)) h' := by
  subst e; subst eh
  refine ⟨Nat.le_refl _, Nat.le_refl _, fun p l e R s m args below meth c H locs cells slots c0 s0 ls hA hP hS hl _ _ hc hs hR hRs hz => ?_⟩
  have e1 : hp_n h - c0 = cells := by omega
  have e2 : hp_s h - s0 = slots := by omega
  rw [e1, e2]
  exact W.zret (v := x) hA.1 hA.2.1 (hA.2.2.2.1.trans hr) hn (fun t ht hW => ⟨⟨rfl, by rw [ht]; exact hP⟩, hS.F ht⟩) hS.2.2 hdg hA.2.2.2.2.2.2.2.2.1
theorem gf_ldcS {idx k : Nat} (hk2 : k < 2) (hM : M.1.cls = "PlateCity$Reader") (hi : gf_ti k = idx) (hdg : decode M.2.1 pc = .ok (.ldc idx, 2)) (kk : gf E M d (pc + 2) lv (.ref (E.2.2.2 (4 + k)) :: rest) h v h') : gf E M d pc lv rest h v h' := by
  subst hi
  exact gf_step rfl rfl (fun p l e R s m args below meth cc H locs cells slots ls Q hA hP hS hl0 _ _ _ _ k9 =>
    va_ldcS hA.1 hA.2.1 (by rw [← hM]; exact hA.2.2.2.2.1) (hA.2.2.2.2.2.2.2.1.2.2.1 k hk2) hdg (k9 H locs ls hP hS hl0)) kk
theorem gf_getSv {k : Nat} (hk2 : k < 2) (hM : M.1.cls = "java/lang/String") (hdg : decode M.2.1 pc = .ok (.getfield 9, 3)) (kk : gf E M d (pc + 3) lv (.ref (E.2.2.2 (6 + k)) :: rest) h v h') : gf E M d pc lv (.ref (E.2.2.2 (4 + k)) :: rest) h v h' :=
  gf_step rfl rfl (fun p l e R s m args below meth cc H locs cells slots ls Q hA hP hS hl0 _ _ _ _ k9 =>
    vk_getf hA.1 hA.2.1 (hA.2.2.2.2.2.2.2.1.2.1.1 k hk2).2.2.1 hS (by rw [← hM]; exact hA.2.2.2.2.1) (hA.2.2.2.2.2.1 _ lfS_9) (fun _ h9 => h9) hdg (k9 H locs ls hP hS hl0)) kk
theorem gf_getSc {k : Nat} (hk2 : k < 2) (hM : M.1.cls = "java/lang/String") (hdg : decode M.2.1 pc = .ok (.getfield 15, 3)) (kk : gf E M d (pc + 3) lv (.int 0 :: rest) h v h') : gf E M d pc lv (.ref (E.2.2.2 (4 + k)) :: rest) h v h' :=
  gf_step rfl rfl (fun p l e R s m args below meth cc H locs cells slots ls Q hA hP hS hl0 _ _ _ _ k9 =>
    vk_getf hA.1 hA.2.1 (hA.2.2.2.2.2.2.2.1.2.1.1 k hk2).2.1 hS (by rw [← hM]; exact hA.2.2.2.2.1) (hA.2.2.2.2.2.1 _ lfS_15) (fun _ h9 => h9) hdg (k9 H locs ls hP hS hl0)) kk
theorem gf_getCS (hM : M.1.cls = "java/lang/String") (hdg : decode M.2.1 pc = .ok (.getstatic 38, 3)) (kk : gf E M d (pc + 3) lv (.int 1 :: rest) h v h') : gf E M d pc lv rest h v h' :=
  gf_step rfl rfl (fun p l e R s m args below meth cc H locs cells slots ls Q hA hP hS hl0 _ _ _ _ k9 =>
    va_gets hA.1 hA.2.1 hA.2.2.2.2.2.2.2.1.2.2.2.1 hS (by rw [← hM]; exact hA.2.2.2.2.1) (hA.2.2.2.2.2.1 _ lfS_38) (fun _ h9 => h9) hdg (k9 H locs ls hP hS hl0)) kk
theorem gf_getQ (hM : M.1.cls = "java/lang/String") (hdg : decode M.2.1 pc = .ok (.getstatic 1053, 3)) (k1 : gf E M d (pc + 3) lv (.null :: rest) h v h') (k2 : ∀ t : Nat, gf E M d (pc + 3) lv (.ref t :: rest) h v h') : gf E M d pc lv rest h v h' := by
  refine ⟨k1.1, k1.2.1, fun p l e R s m args below meth c H locs cells slots c0 s0 ls hA hP hS hl hd hD hc hsl hR hRs hz => ?_⟩
  rcases hA.2.2.2.2.2.2.2.1.2.2.2.2.2.2.2.2.2.1 with q | ⟨t, q⟩
  · exact va_gets hA.1 hA.2.1 q hS (by rw [← hM]; exact hA.2.2.2.2.1) (hA.2.2.2.2.2.1 _ lfS_1053) (fun _ h9 => h9) hdg (k1.2.2 p l e R s m args below meth c H locs cells slots c0 s0 ls hA hP hS hl hd hD hc hsl hR hRs hz)
  · exact va_gets hA.1 hA.2.1 q hS (by rw [← hM]; exact hA.2.2.2.2.1) (hA.2.2.2.2.2.1 _ lfS_1053) (fun _ h9 => h9) hdg ((k2 t).2.2 p l e R s m args below meth c H locs cells slots c0 s0 ls hA hP hS hl hd hD hc hsl hR hRs hz)
theorem gf_bald {k j : Nat} {i : Int32} (hk2 : k < 2) (hdg : decode M.2.1 pc = .ok (.baload, 1)) (hi : i = nI j) (hj : j < gf_tl.getD k 0) (kk : gf E M d (pc + 1) lv (.int ((gf_tb.getD k []).getD j 0) :: rest) h v h') : gf E M d pc lv (.int i :: .ref (E.2.2.2 (6 + k)) :: rest) h v h' := by
  obtain ⟨h1, h2⟩ := hp_ix hi hj (by rcases (show k = 0 ∨ k = 1 by omega) with rfl | rfl <;> decide)
  subst h2
  exact gf_step rfl rfl (fun p l e R s m args below meth cc H locs cells slots ls Q hA hP hS hl0 _ _ _ _ k9 =>
    va_tb hA.1 hA.2.1 (hA.2.2.2.2.2.2.2.1.2.1.1 k hk2).2.2.2 hS h1 rfl hdg (k9 H locs ls hP hS hl0)) kk
theorem gf_blen {k : Nat} (hk2 : k < 2) (hdg : decode M.2.1 pc = .ok (.arraylength, 1)) (kk : gf E M d (pc + 1) lv (.int (nI (gf_tl.getD k 0)) :: rest) h v h') : gf E M d pc lv (.ref (E.2.2.2 (6 + k)) :: rest) h v h' :=
  gf_step rfl rfl (fun p l e R s m args below meth cc H locs cells slots ls Q hA hP hS hl0 _ _ _ _ k9 =>
    va_tlen hA.1 hA.2.1 (hA.2.2.2.2.2.2.2.1.2.1.1 k hk2).2.2.2 hS rfl hdg (k9 H locs ls hP hS hl0)) kk
end GS
theorem gf_callH {E : gE} {M y : gM} {d pc d1 : Nat} {lv : List (Nat × Value)} {st rest As : List Value} {h h1 h' : hp_T} {v v1 : Option Value} (ev1 : ev E y d1 As h v1 h1) (hd : d1 + 1 ≤ d)
    (hrun : ∀ (p : Program) (l : Launch) (e : Env) (R : Room) (s : State) (m : MethodId) (args : Array Value) (below : List Frame) (meth : Method) (c : Code) (H : Heap) (locs : List Loc) (cells slots : Nat) (ls : Array Slot), gf_at E M p s m args meth c → hp_P E h H → va_S (gE_A E) s.heap H locs → lv_has ls M.2.2.1 lv → d ≤ R.frames → 60 * d ≤ R.locals →
      (∀ U : State, U.heap = H → s.WarmedH U.vm → va_Pc As (ev_B E h) As.toArray U) → cells + (hp_n h1 - hp_n h) ≤ R.cells ∧ slots + (hp_s h1 - hp_s h) ≤ R.slots →
      va_Run p l e R s m args below meth c H locs cells slots (hp_n h1 - hp_n h) (hp_s h1 - hp_s h) (F0 m pc ls st) rest (gf_Qc E v1 h1 As.toArray) (gE_A E))
    (k : gf E M d (pc + 3) lv (v1.toList ++ rest) h1 v h') : gf E M d pc lv st h v h' := by
  have k1 := k.1
  have k2 := k.2.1
  have j1 := ev1.1
  have j2 := ev1.2.1
  refine ⟨by omega, by omega, fun p l e R s m args below meth c H locs cells slots c0 s0 ls hA hP hS hl hdd hDD hc hs hR hRs hz => ?_⟩
  intro T hT X
  have hup : T.heap.size ≤ s.heap.size + cells := X.heapSize
  rw [hT] at hup
  have h0 := hS.1
  have hlo : E.1 + hp_n h ≤ H.size := hp_size hP (by omega)
  have hsz : H.size = E.1 + hp_n h := by omega
  refine gf_after (hrun p l e R s m args below meth c H locs cells slots ls hA hP hS hl hdd hDD (fun U hU hW => ⟨rfl, by rw [hU]; exact hP, va_K.moved hW.alike hA.2.2.2.2.2.2.1, gf_St_warm hA.2.2.2.2.2.2.2.1 hS hU hW, by rw [hU]; exact hsz⟩) ⟨by omega, by omega⟩) hS (fun H1 locs1 hP1 hS1 => ?_) T hT X
  exact k.2.2 p l e R s m args below meth c H1 locs1 (cells + (hp_n h1 - hp_n h)) (slots + (hp_s h1 - hp_s h)) c0 s0 ls hA hP1 hS1 hl hdd hDD (by omega) (by omega) hR hRs hz
theorem gf_callVS {E : gE} {M y : gM} {d pc d1 n idx k : Nat} {lv : List (Nat × Value)} {st rest As : List Value} {h h1 h' : hp_T} {v v1 : Option Value} (cm : gf_CM y n) (hl : Cond.methodLink M.1.cls idx y.1 ∈ tt) (him : Cond.instanceMethod y.1 ∈ tt) (hse : Cond.selects y.1.cls y.1 y.1 ∈ tt) (hcc : y.1.cls = "java/lang/String") (hk2 : k < 2) (hdg : decode M.2.1 pc = .ok (.invokevirtual idx, 3)) (hd : d1 + 1 ≤ d) (ev1 : ev E y d1 (.ref (E.2.2.2 (4 + k)) :: As) h v1 h1) (hn : As.length = n) (hstk : st = As.reverse ++ .ref (E.2.2.2 (4 + k)) :: rest) (hw : (rest.map fun v => v.category).sum ≤ 8)
    (kk : gf E M d (pc + 3) lv (v1.toList ++ rest) h1 v h') : gf E M d pc lv st h v h' :=
  gf_callH ev1 hd (fun p l e R s m args below meth cc H locs cells slots ls hA hP hS hl0 hdd hDD hU hf =>
    va_runV (n := n) ⟨hA.1, hA.2.1, hA.2.2.1, hA.2.2.2.2.1, hA.2.2.2.2.2.1⟩ (ev1.2.2 l) ⟨callB_of n hA.2.2.2.2.2.1 (lw_in cm.2.1) rfl rfl rfl (hA.2.2.2.2.2.1 _ cm.1) (hA.2.2.2.2.2.1 _ hl) cm.2.2.1 ⟨by show d1 + 1 ≤ R.frames; omega, by show 8 + (y.2.2.1 + 11) + 60 * d1 ≤ R.locals; have := cm.2.2.2; omega⟩, hA.2.2.2.2.2.1 _ him, hA.2.2.2.2.2.1 _ hse⟩
      ⟨ev_blind, by rw [hcc]; exact vk_recv (i := k) (adK := fun i => E.2.2.2 (4 + i)) hA.2.2.2.2.2.2.2.1.2.1 hk2 hS, hU⟩ rfl hn hl0.1 hstk (lv_room hw) hdg hf) kk
theorem tx_c : ∀ k, k < 2 → ∀ j, j < gf_tl.getD k 0 → (((gf_tb.getD k []).getD j 0 &&& 255).toUInt32 % 65536).toInt32 = (gf_tb.getD k []).getD j 0 ∧ narrow .char (.int ((gf_tb.getD k []).getD j 0)) = .int ((gf_tb.getD k []).getD j 0) := by decide +kernel
theorem tx_l : ∀ k, k < 2 → nI (gf_tl.getD k 0) >>> ((0 : Int32) &&& 31) = nI (gf_tl.getD k 0) ∧ gf_tl.getD k 0 < 200 := by decide +kernel
theorem e_coder (E : gE) {d : Nat} (hd : 0 ≤ d) {k : Nat} (h : hp_T) (hk2 : k < 2) : ev E mJ0_coder_7d493 d [.ref (E.2.2.2 (4 + k))] h (some (.int 0)) h := by
  refine ev_of rfl (fun q => absurd q (by decide)) (Nat.le_of_ble_eq_true rfl) ?_
  refine gf_getCS rfl dJ0_coder_7d493_0 ?_
  refine gf_if_eq 13 dJ0_coder_7d493_3 rfl (fun q => absurd q (by decide)) (fun _ => ?_)
  refine gf_aload_n 0 dJ0_coder_7d493_6 rfl rfl ?_
  refine gf_getSc hk2 rfl dJ0_coder_7d493_7 ?_
  refine gf_goto 14 dJ0_coder_7d493_10 rfl ?_
  exact gf_zretTE dJ0_coder_7d493_14 rfl (rfl) (rfl) (rfl)
theorem e_isLatin1 (E : gE) {d : Nat} (hd : 0 ≤ d) {k : Nat} (h : hp_T) (hk2 : k < 2) : ev E mJ0_isLatin1_aae02 d [.ref (E.2.2.2 (4 + k))] h (some (.int 1)) h := by
  refine ev_of rfl (fun q => absurd q (by decide)) (Nat.le_of_ble_eq_true rfl) ?_
  refine gf_getCS rfl dJ0_isLatin1_aae02_0 ?_
  refine gf_if_eq 17 dJ0_isLatin1_aae02_3 rfl (fun q => absurd q (by decide)) (fun _ => ?_)
  refine gf_aload_n 0 dJ0_isLatin1_aae02_6 rfl rfl ?_
  refine gf_getSc hk2 rfl dJ0_isLatin1_aae02_7 ?_
  refine gf_if_ne 17 dJ0_isLatin1_aae02_10 rfl (fun q => absurd (rfl) q) (fun _ => ?_)
  refine gf_iconst (1) dJ0_isLatin1_aae02_13 rfl ?_
  refine gf_goto 18 dJ0_isLatin1_aae02_14 rfl ?_
  exact gf_zretE dJ0_isLatin1_aae02_18 rfl (rfl) (rfl) (rfl)
theorem e_length (E : gE) {d : Nat} (hd : 1 ≤ d) {k : Nat} (h : hp_T) (hk2 : k < 2) : ev E mJ0_length_8abf5 d [.ref (E.2.2.2 (4 + k))] h (some (.int (nI (gf_tl.getD k 0)))) h := by
  refine ev_of rfl (fun q => absurd q (by decide)) (Nat.le_of_ble_eq_true rfl) ?_
  refine gf_aload_n 0 dJ0_length_8abf5_0 rfl rfl ?_
  refine gf_getSv hk2 rfl dJ0_length_8abf5_1 ?_
  refine gf_blen hk2 dJ0_length_8abf5_4 ?_
  refine gf_aload_n 0 dJ0_length_8abf5_5 rfl rfl ?_
  refine gf_callVS cmJ0_coder_7d493 lkJ0_335 imJ0_coder_7d493 seJ0_coder_7d493 rfl hk2 dJ0_length_8abf5_6 (d1 := d - 1) (by omega) (e_coder E (by omega) h hk2) rfl rfl (Nat.le_of_ble_eq_true rfl) ?_
  refine gf_ishr dJ0_length_8abf5_9 ?_
  exact gf_iretE dJ0_length_8abf5_10 rfl ((tx_l k hk2).1) (rfl)
theorem e_chk3N (E : gE) {d : Nat} (hd : 0 ≤ d) {j N t : Nat} (h : hp_T) (hj : j < N) (hN : N < 1000) : ev E mJ3_checkIndex_8e157 d [.int (nI j), .int (nI N), .null] h (some (.int (nI j))) h := by
  refine ev_of rfl (fun q => absurd q (by decide)) (Nat.le_of_ble_eq_true rfl) ?_
  refine gf_iload_n 0 dJ3_checkIndex_8e157_0 rfl rfl ?_
  refine gf_if_lt 9 dJ3_checkIndex_8e157_1 rfl (fun q => absurd q (nI_pos (by omega))) (fun _ => ?_)
  refine gf_iload_n 0 dJ3_checkIndex_8e157_4 rfl rfl ?_
  refine gf_iload_n 1 dJ3_checkIndex_8e157_5 rfl rfl ?_
  refine gf_icmp_lt 16 dJ3_checkIndex_8e157_6 rfl (fun _ => ?_) (fun q => absurd (nI_lt hj (by omega)) q)
  refine gf_iload_n 0 dJ3_checkIndex_8e157_16 rfl rfl ?_
  exact gf_iretE dJ3_checkIndex_8e157_17 rfl (rfl) (rfl)
theorem e_chk3R (E : gE) {d : Nat} (hd : 0 ≤ d) {j N t : Nat} (h : hp_T) (hj : j < N) (hN : N < 1000) : ev E mJ3_checkIndex_8e157 d [.int (nI j), .int (nI N), .ref t] h (some (.int (nI j))) h := by
  refine ev_of rfl (fun q => absurd q (by decide)) (Nat.le_of_ble_eq_true rfl) ?_
  refine gf_iload_n 0 dJ3_checkIndex_8e157_0 rfl rfl ?_
  refine gf_if_lt 9 dJ3_checkIndex_8e157_1 rfl (fun q => absurd q (nI_pos (by omega))) (fun _ => ?_)
  refine gf_iload_n 0 dJ3_checkIndex_8e157_4 rfl rfl ?_
  refine gf_iload_n 1 dJ3_checkIndex_8e157_5 rfl rfl ?_
  refine gf_icmp_lt 16 dJ3_checkIndex_8e157_6 rfl (fun _ => ?_) (fun q => absurd (nI_lt hj (by omega)) q)
  refine gf_iload_n 0 dJ3_checkIndex_8e157_16 rfl rfl ?_
  exact gf_iretE dJ3_checkIndex_8e157_17 rfl (rfl) (rfl)
theorem e_chk0 (E : gE) {d : Nat} (hd : 1 ≤ d) {j N : Nat} (h : hp_T) (hj : j < N) (hN : N < 1000) : ev E mJ0_checkIndex_df160 d [.int (nI j), .int (nI N)] h (none) h := by
  refine ev_of rfl (fun q => absurd q (by decide)) (Nat.le_of_ble_eq_true rfl) ?_
  refine gf_iload_n 0 dJ0_checkIndex_df160_0 rfl rfl ?_
  refine gf_iload_n 1 dJ0_checkIndex_df160_1 rfl rfl ?_
  refine gf_getQ rfl dJ0_checkIndex_df160_2 ?_ (fun tq => ?_)
  · refine gf_callS cmJ3_checkIndex_8e157 lkJ0_1059 stJ3_checkIndex_8e157 dJ0_checkIndex_df160_5 (d1 := d - 1) (by omega) (e_chk3N E (t := 0) (by omega) h hj hN) rfl rfl (Nat.le_of_ble_eq_true rfl) ?_
    refine gf_pop dJ0_checkIndex_df160_8 rfl ?_
    exact gf_vretE dJ0_checkIndex_df160_9 rfl (rfl)
  · refine gf_callS cmJ3_checkIndex_8e157 lkJ0_1059 stJ3_checkIndex_8e157 dJ0_checkIndex_df160_5 (d1 := d - 1) (by omega) (e_chk3R E (t := tq) (by omega) h hj hN) rfl rfl (Nat.le_of_ble_eq_true rfl) ?_
    refine gf_pop dJ0_checkIndex_df160_8 rfl ?_
    exact gf_vretE dJ0_checkIndex_df160_9 rfl (rfl)
theorem e_charAt1 (E : gE) {d : Nat} (hd : 2 ≤ d) {k j : Nat} (h : hp_T) (hk2 : k < 2) (hj : j < gf_tl.getD k 0) : ev E mJ1_charAt_3b067 d [.ref (E.2.2.2 (6 + k)), .int (nI j)] h (some (.int ((gf_tb.getD k []).getD j 0))) h := by
  refine ev_of rfl (fun q => absurd q (by decide)) (Nat.le_of_ble_eq_true rfl) ?_
  refine gf_iload_n 1 dJ1_charAt_3b067_0 rfl rfl ?_
  refine gf_aload_n 0 dJ1_charAt_3b067_1 rfl rfl ?_
  refine gf_blen hk2 dJ1_charAt_3b067_2 ?_
  refine gf_callS cmJ0_checkIndex_df160 lkJ1_9 stJ0_checkIndex_df160 dJ1_charAt_3b067_3 (d1 := d - 1) (by omega) (e_chk0 E (by omega) h hj (by have := (tx_l k hk2).2; omega)) rfl rfl (Nat.le_of_ble_eq_true rfl) ?_
  refine gf_aload_n 0 dJ1_charAt_3b067_6 rfl rfl ?_
  refine gf_iload_n 1 dJ1_charAt_3b067_7 rfl rfl ?_
  refine gf_bald hk2 dJ1_charAt_3b067_8 rfl hj ?_
  refine gf_sipush (255) dJ1_charAt_3b067_9 rfl ?_
  refine gf_iand dJ1_charAt_3b067_12 ?_
  refine gf_i2c dJ1_charAt_3b067_13 ?_
  rw [(tx_c k hk2 j hj).1]
  exact gf_zretTE dJ1_charAt_3b067_14 rfl ((tx_c k hk2 j hj).2) (rfl) (rfl)
theorem e_charAt (E : gE) {d : Nat} (hd : 3 ≤ d) {k j : Nat} (h : hp_T) (hk2 : k < 2) (hj : j < gf_tl.getD k 0) : ev E mJ0_charAt_5068e d [.ref (E.2.2.2 (4 + k)), .int (nI j)] h (some (.int ((gf_tb.getD k []).getD j 0))) h := by
  refine ev_of rfl (fun q => absurd q (by decide)) (Nat.le_of_ble_eq_true rfl) ?_
  refine gf_aload_n 0 dJ0_charAt_5068e_0 rfl rfl ?_
  refine gf_callVS cmJ0_isLatin1_aae02 lkJ0_492 imJ0_isLatin1_aae02 seJ0_isLatin1_aae02 rfl hk2 dJ0_charAt_5068e_1 (d1 := d - 1) (by omega) (e_isLatin1 E (by omega) h hk2) rfl rfl (Nat.le_of_ble_eq_true rfl) ?_
  refine gf_if_eq 16 dJ0_charAt_5068e_4 rfl (fun q => absurd q (by decide)) (fun _ => ?_)
  refine gf_aload_n 0 dJ0_charAt_5068e_7 rfl rfl ?_
  refine gf_getSv hk2 rfl dJ0_charAt_5068e_8 ?_
  refine gf_iload_n 1 dJ0_charAt_5068e_11 rfl rfl ?_
  refine gf_callS cmJ1_charAt_3b067 lkJ0_495 stJ1_charAt_3b067 dJ0_charAt_5068e_12 (d1 := d - 1) (by omega) (e_charAt1 E (by omega) h hk2 hj) rfl rfl (Nat.le_of_ble_eq_true rfl) ?_
  exact gf_zretTE dJ0_charAt_5068e_15 rfl ((tx_c k hk2 j hj).2) (rfl) (rfl)
/-- the place of a byte in the signs -/
def sgP (q : Nat) (j : Nat) : Bool := decide ((gf_tb.getD 0 []).getD j 0 = (nI q).toInt8.toInt32)
def sgI (q : Nat) : Int32 := if fa_first (sgP q) 13 < 13 then nI (fa_first (sgP q) 13) else -1
theorem ff_at {p : Nat → Bool} {N j : Nat} (hj : j < N) (hp : p j = true) (hno : ∀ i, i < j → p i = false) : fa_first p N = j := by
  have a := fa_first_le p N
  rcases Nat.lt_trichotomy (fa_first p N) j with q | q | q
  · have := fa_first_yes p N (by omega)
    rw [hno _ q] at this
    cases this
  · exact q
  · have := fa_first_no p N j q
    rw [hp] at this
    cases this
theorem ff_none {p : Nat → Bool} {N : Nat} (hno : ∀ i, i < N → p i = false) : ¬ fa_first p N < N := fun q => by
  have := fa_first_yes p N q
  rw [hno _ q] at this
  cases this
theorem e_canEnc (E : gE) {d : Nat} (hd : 0 ≤ d) {bq : Nat} (h : hp_T) (hq : bq < 256) : ev E mJ1_canEncode_9a6ad d [.int (nI bq)] h (some (.int 1)) h := by
  refine ev_of rfl (fun q => absurd q (by decide)) (Nat.le_of_ble_eq_true rfl) ?_
  refine gf_iload_n 0 dJ1_canEncode_9a6ad_0 rfl rfl ?_
  refine gf_if_lt 15 dJ1_canEncode_9a6ad_1 rfl (fun q => absurd q (nI_pos (by omega))) (fun _ => ?_)
  refine gf_iload_n 0 dJ1_canEncode_9a6ad_4 rfl rfl ?_
  refine gf_sipush (255) dJ1_canEncode_9a6ad_5 rfl ?_
  refine gf_icmp_gt 15 dJ1_canEncode_9a6ad_8 rfl (fun q => absurd q (nI_nlt (b := bq) (a := 255) (by omega) (by omega))) (fun _ => ?_)
  refine gf_iconst (1) dJ1_canEncode_9a6ad_11 rfl ?_
  refine gf_goto 16 dJ1_canEncode_9a6ad_12 rfl ?_
  exact gf_zretE dJ1_canEncode_9a6ad_16 rfl (rfl) (rfl) (rfl)
theorem l_ixC (E : gE) {d q : Nat} (h : hp_T) : ∀ (kz jz : Nat), jz + kz = 13 → (∀ i, i < jz → sgP q i = false) → gf E mJ1_indexOfChar_4cfef d 7 [(0, .ref (E.2.2.2 (6 + 0))), (1, .int (nI q)), (2, .int 0), (3, .int (nI 13)), (4, .int (nI q).toInt8.toInt32), (5, .int (nI jz))] [] h (some (.int (sgI q))) h := by
  have hk2 : (0 : Nat) < 2 := by decide
  intro kz
  induction kz with
  | zero =>
    intro jz hj hno
    have hj : jz = 13 := by omega
    subst hj
    refine gf_iload dJ1_indexOfChar_4cfef_7 rfl ?_
    refine gf_iload_n 3 dJ1_indexOfChar_4cfef_9 rfl rfl ?_
    refine gf_icmp_ge 31 dJ1_indexOfChar_4cfef_10 rfl (fun _ => ?_) (fun q => absurd (Int32.le_refl _) q)
    refine gf_iconst (-1) dJ1_indexOfChar_4cfef_31 rfl ?_
    exact gf_iretE dJ1_indexOfChar_4cfef_32 rfl ((if_neg (ff_none hno) : sgI q = _).symm) (rfl)
  | succ kz ih =>
    intro jz hj hno
    refine gf_iload dJ1_indexOfChar_4cfef_7 rfl ?_
    refine gf_iload_n 3 dJ1_indexOfChar_4cfef_9 rfl rfl ?_
    refine gf_icmp_ge 31 dJ1_indexOfChar_4cfef_10 rfl (fun q => absurd q (nI_ge (b := 13) (by omega) (by omega))) (fun _ => ?_)
    refine gf_aload_n 0 dJ1_indexOfChar_4cfef_13 rfl rfl ?_
    refine gf_iload dJ1_indexOfChar_4cfef_14 rfl ?_
    refine gf_bald hk2 dJ1_indexOfChar_4cfef_16 rfl (show jz < 13 by omega) ?_
    refine gf_iload dJ1_indexOfChar_4cfef_17 rfl ?_
    refine gf_icmp_ne 25 dJ1_indexOfChar_4cfef_19 rfl (fun zc19 => ?_) (fun zc19 => ?_)
    · refine gf_iinc (1) dJ1_indexOfChar_4cfef_25 rfl rfl (Nat.le_of_ble_eq_true rfl) ?_
      refine gf_goto 7 dJ1_indexOfChar_4cfef_28 rfl ?_
      exact gf_lw (ih (jz + 1) (by omega) (fun i hi => by rcases Nat.lt_succ_iff_lt_or_eq.mp hi with w | w; exact hno i w; rw [w]; exact decide_eq_false zc19)) ⟨rfl, rfl, rfl, rfl, rfl, lvE (nI_1 jz), trivial⟩
    · refine gf_iload dJ1_indexOfChar_4cfef_22 rfl ?_
      exact gf_iretE dJ1_indexOfChar_4cfef_24 rfl (by have e := ff_at (p := sgP q) (N := 13) (j := jz) (by omega) (decide_eq_true zc19) hno; exact ((if_pos (by rw [e]; omega) : sgI q = _).trans (by rw [e])).symm) (rfl)
theorem e_ixC (E : gE) {d : Nat} (hd : 0 ≤ d) {q : Nat} (h : hp_T) : ev E mJ1_indexOfChar_4cfef d [.ref (E.2.2.2 (6 + 0)), .int (nI q), .int 0, .int (nI 13)] h (some (.int (sgI q))) h := by
  refine ev_of rfl (fun q => absurd q (by decide)) (Nat.le_of_ble_eq_true rfl) ?_
  refine gf_iload_n 1 dJ1_indexOfChar_4cfef_0 rfl rfl ?_
  refine gf_i2b dJ1_indexOfChar_4cfef_1 ?_
  refine gf_istore dJ1_indexOfChar_4cfef_2 (Nat.le_of_ble_eq_true rfl) ?_
  refine gf_iload_n 2 dJ1_indexOfChar_4cfef_4 rfl rfl ?_
  refine gf_istore dJ1_indexOfChar_4cfef_5 (Nat.le_of_ble_eq_true rfl) ?_
  exact gf_lw (l_ixC E h 13 0 (by omega) (fun i hi => absurd hi (Nat.not_lt_zero i))) ⟨rfl, rfl, rfl, rfl, rfl, rfl, trivial⟩
theorem e_ix1 (E : gE) {d : Nat} (hd : 1 ≤ d) {q : Nat} (h : hp_T) (hq : q < 256) : ev E mJ1_indexOf_4cfef d [.ref (E.2.2.2 (6 + 0)), .int (nI q), .int 0, .int (nI 13)] h (some (.int (sgI q))) h := by
  have hk2 : (0 : Nat) < 2 := by decide
  refine ev_of rfl (fun q => absurd q (by decide)) (Nat.le_of_ble_eq_true rfl) ?_
  refine gf_iload_n 1 dJ1_indexOf_4cfef_0 rfl rfl ?_
  refine gf_callS cmJ1_canEncode_9a6ad lkJ1_88 stJ1_canEncode_9a6ad dJ1_indexOf_4cfef_1 (d1 := d - 1) (by omega) (e_canEnc E (by omega) h hq) rfl rfl (Nat.le_of_ble_eq_true rfl) ?_
  refine gf_if_ne 9 dJ1_indexOf_4cfef_4 rfl (fun _ => ?_) (fun q => absurd q (by decide))
  refine gf_iload_n 2 dJ1_indexOf_4cfef_9 rfl rfl ?_
  refine gf_iconst (0) dJ1_indexOf_4cfef_10 rfl ?_
  refine gf_max lkJ1_92 kMmax.1 kMmax.2.1 kMmax.2.2 dJ1_indexOf_4cfef_11 (by omega) (Nat.le_of_ble_eq_true rfl) ?_
  refine gf_istore_n 2 dJ1_indexOf_4cfef_14 rfl (Nat.le_of_ble_eq_true rfl) ?_
  refine gf_lw (lv' := [(0, .ref (E.2.2.2 (6 + 0))), (1, .int (nI q)), (2, .int 0), (3, .int (nI 13))]) ?_ ⟨rfl, rfl, lvE (by decide), rfl, trivial⟩
  refine gf_iload_n 3 dJ1_indexOf_4cfef_15 rfl rfl ?_
  refine gf_aload_n 0 dJ1_indexOf_4cfef_16 rfl rfl ?_
  refine gf_blen hk2 dJ1_indexOf_4cfef_17 ?_
  refine gf_min lkJ1_38 kMmin.1 kMmin.2.1 kMmin.2.2 dJ1_indexOf_4cfef_18 (by omega) (Nat.le_of_ble_eq_true rfl) ?_
  refine gf_istore_n 3 dJ1_indexOf_4cfef_21 rfl (Nat.le_of_ble_eq_true rfl) ?_
  refine gf_lw (lv' := [(0, .ref (E.2.2.2 (6 + 0))), (1, .int (nI q)), (2, .int 0), (3, .int (nI 13))]) ?_ ⟨rfl, rfl, rfl, lvE (by decide), trivial⟩
  refine gf_iload_n 2 dJ1_indexOf_4cfef_22 rfl rfl ?_
  refine gf_iload_n 3 dJ1_indexOf_4cfef_23 rfl rfl ?_
  refine gf_icmp_lt 29 dJ1_indexOf_4cfef_24 rfl (fun _ => ?_) (fun q => absurd (by decide) q)
  refine gf_aload_n 0 dJ1_indexOf_4cfef_29 rfl rfl ?_
  refine gf_iload_n 1 dJ1_indexOf_4cfef_30 rfl rfl ?_
  refine gf_iload_n 2 dJ1_indexOf_4cfef_31 rfl rfl ?_
  refine gf_iload_n 3 dJ1_indexOf_4cfef_32 rfl rfl ?_
  refine gf_callS cmJ1_indexOfChar_4cfef lkJ1_95 stJ1_indexOfChar_4cfef dJ1_indexOf_4cfef_33 (d1 := d - 1) (by omega) (e_ixC E (by omega) h) rfl rfl (Nat.le_of_ble_eq_true rfl) ?_
  exact gf_iretE dJ1_indexOf_4cfef_36 rfl (rfl) (rfl)
theorem e_ix2 (E : gE) {d : Nat} (hd : 2 ≤ d) {q : Nat} (h : hp_T) (hq : q < 256) : ev E mJ0_indexOf_7cf53 d [.ref (E.2.2.2 (4 + 0)), .int (nI q), .int 0] h (some (.int (sgI q))) h := by
  have hk2 : (0 : Nat) < 2 := by decide
  refine ev_of rfl (fun q => absurd q (by decide)) (Nat.le_of_ble_eq_true rfl) ?_
  refine gf_aload_n 0 dJ0_indexOf_7cf53_0 rfl rfl ?_
  refine gf_callVS cmJ0_isLatin1_aae02 lkJ0_492 imJ0_isLatin1_aae02 seJ0_isLatin1_aae02 rfl hk2 dJ0_indexOf_7cf53_1 (d1 := d - 1) (by omega) (e_isLatin1 E (by omega) h hk2) rfl rfl (Nat.le_of_ble_eq_true rfl) ?_
  refine gf_if_eq 23 dJ0_indexOf_7cf53_4 rfl (fun q => absurd q (by decide)) (fun _ => ?_)
  refine gf_aload_n 0 dJ0_indexOf_7cf53_7 rfl rfl ?_
  refine gf_getSv hk2 rfl dJ0_indexOf_7cf53_8 ?_
  refine gf_iload_n 1 dJ0_indexOf_7cf53_11 rfl rfl ?_
  refine gf_iload_n 2 dJ0_indexOf_7cf53_12 rfl rfl ?_
  refine gf_aload_n 0 dJ0_indexOf_7cf53_13 rfl rfl ?_
  refine gf_callVS cmJ0_length_8abf5 lkJ0_505 imJ0_length_8abf5 seJ0_length_8abf5 rfl hk2 dJ0_indexOf_7cf53_14 (d1 := d - 1) (by omega) (e_length E (by omega) h hk2) rfl rfl (Nat.le_of_ble_eq_true rfl) ?_
  refine gf_callS cmJ1_indexOf_4cfef lkJ0_637 stJ1_indexOf_4cfef dJ0_indexOf_7cf53_17 (d1 := d - 1) (by omega) (e_ix1 E (by omega) h hq) rfl rfl (Nat.le_of_ble_eq_true rfl) ?_
  refine gf_goto 36 dJ0_indexOf_7cf53_20 rfl ?_
  exact gf_iretE dJ0_indexOf_7cf53_36 rfl (rfl) (rfl)
theorem e_ix (E : gE) {d : Nat} (hd : 3 ≤ d) {q : Nat} (h : hp_T) (hq : q < 256) : ev E mJ0_indexOf_0f7a4 d [.ref (E.2.2.2 (4 + 0)), .int (nI q)] h (some (.int (sgI q))) h := by
  have hk2 : (0 : Nat) < 2 := by decide
  refine ev_of rfl (fun q => absurd q (by decide)) (Nat.le_of_ble_eq_true rfl) ?_
  refine gf_aload_n 0 dJ0_indexOf_0f7a4_0 rfl rfl ?_
  refine gf_iload_n 1 dJ0_indexOf_0f7a4_1 rfl rfl ?_
  refine gf_iconst (0) dJ0_indexOf_0f7a4_2 rfl ?_
  refine gf_callVS cmJ0_indexOf_7cf53 lkJ0_633 imJ0_indexOf_7cf53 seJ0_indexOf_7cf53 rfl hk2 dJ0_indexOf_0f7a4_3 (d1 := d - 1) (by omega) (e_ix2 E (by omega) h hq) rfl rfl (Nat.le_of_ble_eq_true rfl) ?_
  exact gf_iretE dJ0_indexOf_0f7a4_6 rfl (rfl) (rfl)
