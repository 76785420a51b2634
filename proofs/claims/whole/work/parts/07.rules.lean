/-! ===== rows of the lifted judgement ===== -/
theorem mt_1 {w : Cond} (h : w ∈ tables_1_1) (g : goodWord w = true) : w ∈ tt := List.mem_filter.mpr ⟨List.mem_append_right _ (List.mem_append_left _ h), g⟩
theorem mt_2 {w : Cond} (h : w ∈ tables_1_2) (g : goodWord w = true) : w ∈ tt := List.mem_filter.mpr ⟨List.mem_append_right _ (List.mem_append_right _ (List.mem_append_left _ h)), g⟩
theorem mt_3 {w : Cond} (h : w ∈ tables_1_3) (g : goodWord w = true) : w ∈ tt := List.mem_filter.mpr ⟨List.mem_append_right _ (List.mem_append_right _ (List.mem_append_right _ (List.mem_append_left _ h))), g⟩
theorem mt_4 {w : Cond} (h : w ∈ tables_1_4) (g : goodWord w = true) : w ∈ tt := List.mem_filter.mpr ⟨List.mem_append_right _ (List.mem_append_right _ (List.mem_append_right _ (List.mem_append_right _ (List.mem_append_left _ h)))), g⟩
theorem mt_5 {w : Cond} (h : w ∈ tables_1_5) (g : goodWord w = true) : w ∈ tt := List.mem_filter.mpr ⟨List.mem_append_right _ (List.mem_append_right _ (List.mem_append_right _ (List.mem_append_right _ (List.mem_append_right _ (List.mem_append_left _ h))))), g⟩
theorem mt_6 {w : Cond} (h : w ∈ tables_1_6) (g : goodWord w = true) : w ∈ tt := List.mem_filter.mpr ⟨List.mem_append_right _ (List.mem_append_right _ (List.mem_append_right _ (List.mem_append_right _ (List.mem_append_right _ (List.mem_append_right _ (List.mem_append_left _ h)))))), g⟩
theorem mt_7 {w : Cond} (h : w ∈ tables_1_7) (g : goodWord w = true) : w ∈ tt := List.mem_filter.mpr ⟨List.mem_append_right _ (List.mem_append_right _ (List.mem_append_right _ (List.mem_append_right _ (List.mem_append_right _ (List.mem_append_right _ (List.mem_append_right _ (List.mem_append_left _ h))))))), g⟩
theorem mt_8 {w : Cond} (h : w ∈ tables_1_8) (g : goodWord w = true) : w ∈ tt := List.mem_filter.mpr ⟨List.mem_append_right _ (List.mem_append_right _ (List.mem_append_right _ (List.mem_append_right _ (List.mem_append_right _ (List.mem_append_right _ (List.mem_append_right _ (List.mem_append_right _ (List.mem_append_left _ h)))))))), g⟩
theorem mt_9 {w : Cond} (h : w ∈ tables_1_9) (g : goodWord w = true) : w ∈ tt := List.mem_filter.mpr ⟨List.mem_append_right _ (List.mem_append_right _ (List.mem_append_right _ (List.mem_append_right _ (List.mem_append_right _ (List.mem_append_right _ (List.mem_append_right _ (List.mem_append_right _ (List.mem_append_right _ (h))))))))), g⟩
theorem lw_in {y : MethodName} {b : ByteArray} {n : Nat} {r : Option FieldType} (h : Cond.code y b n r ∈ tt) : GoodIn tt (.code y b n r :: tt) := fun w hw => by
  have hm : w ∈ tt := by
    rcases List.mem_cons.mp hw with rfl | q
    · exact h
    · exact q
  exact ⟨hm, good_of_word (List.mem_filter.mp hm).2⟩
def hp_TT (c : Nat) : u_T := match c with
  | 0 => TX0
  | 1 => TX1
  | 2 => TX2
  | 3 => TX3
  | 4 => TX4
  | 5 => TX5
  | 6 => TX6
  | 7 => TX7
  | 8 => TX8
  | 9 => TX9
  | 10 => TX10
  | 11 => TX11
  | _ => TX12
def hp_C (c : Nat) : String := match c with
  | 0 => RX0
  | 1 => RX1
  | 2 => RX2
  | 3 => RX3
  | 4 => RX4
  | 5 => RX5
  | 6 => RX6
  | 7 => RX7
  | 8 => RX8
  | 9 => RX9
  | 10 => RX10
  | 11 => RX11
  | _ => RX12
theorem hp_cl : ∀ c, c < 13 → vwCl[c]? = some (hp_C c, hp_TT c, hp_N c) := by
  intro c hc
  match c, hc with
  | 0, _ => rfl
  | 1, _ => rfl
  | 2, _ => rfl
  | 3, _ => rfl
  | 4, _ => rfl
  | 5, _ => rfl
  | 6, _ => rfl
  | 7, _ => rfl
  | 8, _ => rfl
  | 9, _ => rfl
  | 10, _ => rfl
  | 11, _ => rfl
  | 12, _ => rfl
theorem hp_tyok : ∀ c, c < 13 → ∀ k, k < hp_N c → parseFieldDescriptor (hp_TT c k).2.2.1 = some (hp_ty c k) := by
  intro c hc
  match c, hc with
  | 0, _ => exact tyX0_ok
  | 1, _ => exact tyX1_ok
  | 2, _ => exact tyX2_ok
  | 3, _ => exact tyX3_ok
  | 4, _ => exact tyX4_ok
  | 5, _ => exact tyX5_ok
  | 6, _ => exact tyX6_ok
  | 7, _ => exact tyX7_ok
  | 8, _ => exact tyX8_ok
  | 9, _ => exact tyX9_ok
  | 10, _ => exact tyX10_ok
  | 11, _ => exact tyX11_ok
  | 12, _ => exact tyX12_ok
theorem hp_nm : ∀ c, c < 13 → ∀ a, a < hp_N c → ∀ b, b < hp_N c → a ≠ b → (hp_TT c a).2.1 ≠ (hp_TT c b).2.1 := by
  intro c hc
  match c, hc with
  | 0, _ => exact nmX0
  | 1, _ => exact nmX1
  | 2, _ => exact nmX2
  | 3, _ => exact nmX3
  | 4, _ => exact nmX4
  | 5, _ => exact nmX5
  | 6, _ => exact nmX6
  | 7, _ => exact nmX7
  | 8, _ => exact nmX8
  | 9, _ => exact nmX9
  | 10, _ => exact nmX10
  | 11, _ => exact nmX11
  | 12, _ => exact nmX12
theorem ws_mem {ws : List Cond} (ps : List Nat) (h : ws = ps.filterMap (fun i => tables_1[i]?)) (g : ws.all goodWord = true) : ∀ w ∈ ws, w ∈ tt := fun w hw => by
  have g1 := List.all_eq_true.mp g w hw
  rw [h] at hw
  obtain ⟨i, -, hi⟩ := List.mem_filterMap.mp hw
  exact List.mem_filter.mpr ⟨List.mem_append_right _ (List.mem_of_getElem? hi), g1⟩
theorem in_X0 : ∀ w ∈ u_ws RX0 TX0 8, w ∈ tt := ws_mem [229, 231, 233, 235, 237, 239, 241, 243] (by decide +kernel) (by decide +kernel)
theorem in_X1 : ∀ w ∈ u_ws RX1 TX1 17, w ∈ tt := ws_mem [79, 81, 83, 85, 87, 89, 91, 93, 95, 97, 99, 101, 103, 105, 107, 109, 111] (by decide +kernel) (by decide +kernel)
theorem in_X2 : ∀ w ∈ u_ws RX2 TX2 10, w ∈ tt := ws_mem [386, 388, 390, 392, 394, 396, 398, 400, 402, 404] (by decide +kernel) (by decide +kernel)
theorem in_X3 : ∀ w ∈ u_ws RX3 TX3 5, w ∈ tt := ws_mem [134, 136, 138, 140, 142] (by decide +kernel) (by decide +kernel)
theorem in_X4 : ∀ w ∈ u_ws RX4 TX4 4, w ∈ tt := ws_mem [421, 423, 425, 427] (by decide +kernel) (by decide +kernel)
theorem in_X5 : ∀ w ∈ u_ws RX5 TX5 16, w ∈ tt := ws_mem [333, 335, 337, 339, 341, 343, 345, 347, 349, 351, 353, 355, 357, 359, 361, 363] (by decide +kernel) (by decide +kernel)
theorem in_X6 : ∀ w ∈ u_ws RX6 TX6 5, w ∈ tt := ws_mem [294, 296, 298, 300, 302] (by decide +kernel) (by decide +kernel)
theorem in_X7 : ∀ w ∈ u_ws RX7 TX7 6, w ∈ tt := ws_mem [270, 272, 274, 276, 278, 280] (by decide +kernel) (by decide +kernel)
theorem in_X8 : ∀ w ∈ u_ws RX8 TX8 10, w ∈ tt := ws_mem [450, 452, 454, 456, 458, 460, 462, 464, 466, 468] (by decide +kernel) (by decide +kernel)
theorem in_X9 : ∀ w ∈ u_ws RX9 TX9 14, w ∈ tt := ws_mem [173, 175, 177, 179, 181, 183, 185, 187, 189, 191, 193, 195, 197, 199] (by decide +kernel) (by decide +kernel)
theorem in_X10 : ∀ w ∈ u_ws RX10 TX10 7, w ∈ tt := ws_mem [835, 837, 839, 841, 843, 845, 847] (by decide +kernel) (by decide +kernel)
theorem in_X11 : ∀ w ∈ u_ws RX11 TX11 12, w ∈ tt := ws_mem [501, 503, 505, 507, 509, 511, 513, 515, 517, 519, 521, 523] (by decide +kernel) (by decide +kernel)
theorem in_X12 : ∀ w ∈ u_ws RX12 TX12 114, w ∈ tt := ws_mem [1351, 1353, 1355, 1357, 1359, 1361, 1363, 1365, 1367, 1369, 1371, 1373, 1375, 1377, 1379, 1381, 1383, 1385, 1387, 1389, 1391, 1393, 1395, 1397, 1399, 1401, 1403, 1405, 1407, 1409, 1411, 1413, 1415, 1417, 1419, 1421, 1423, 1425, 1427, 1429, 1431, 1433, 1435, 1437, 1439, 1441, 1443, 1445, 1447, 1449, 1451, 1453, 1455, 1457, 1459, 1461, 1463, 1465, 1467, 1469, 1471, 1473, 1475, 1477, 1479, 1481, 1483, 1485, 1487, 1489, 1491, 1493, 1495, 1497, 1499, 1501, 1503, 1505, 1507, 1509, 1511, 1513, 1515, 1517, 1519, 1521, 1523, 1525, 1527, 1529, 1531, 1533, 1535, 1537, 1539, 1541, 1543, 1545, 1547, 1549, 1551, 1553, 1555, 1557, 1559, 1561, 1563, 1565, 1567, 1569, 1571, 1573, 1575, 1577] (by decide +kernel) (by decide +kernel)
theorem hp_in : ∀ c, c < 13 → ∀ w ∈ u_ws (hp_C c) (hp_TT c) (hp_N c), w ∈ tt := by
  intro c hc
  match c, hc with
  | 0, _ => exact in_X0
  | 1, _ => exact in_X1
  | 2, _ => exact in_X2
  | 3, _ => exact in_X3
  | 4, _ => exact in_X4
  | 5, _ => exact in_X5
  | 6, _ => exact in_X6
  | 7, _ => exact in_X7
  | 8, _ => exact in_X8
  | 9, _ => exact in_X9
  | 10, _ => exact in_X10
  | 11, _ => exact in_X11
  | 12, _ => exact in_X12
/-! locals -/
def lvc (v : Value) : Bool := match v with
  | .long _ => true
  | .double _ => true
  | _ => false
theorem lvc_cat (v : Value) : v.category = 2 ↔ lvc v = true := by cases v <;> simp [Value.category, lvc]
def lvg : List (Nat × Value) → Nat → Option Value
  | [], _ => none
  | q :: t, i => bif Nat.beq q.1 i then some q.2 else lvg t i
def lvd : List (Nat × Value) → Nat → List (Nat × Value)
  | [], _ => []
  | q :: t, i => bif (Nat.beq q.1 i || (Nat.beq (q.1 + 1) i && lvc q.2)) then lvd t i else q :: lvd t i
def lvi : List (Nat × Value) → Nat → Value → List (Nat × Value)
  | [], i, w => [(i, w)]
  | q :: t, i, w => bif Nat.blt q.1 i then q :: lvi t i w else (i, w) :: q :: t
def lvu (l : List (Nat × Value)) (i : Nat) (w : Value) : List (Nat × Value) := lvi (lvd l i) i w
def lvu2 (l : List (Nat × Value)) (i : Nat) (w : Value) : List (Nat × Value) := lvi (lvd (lvd l (i + 1)) i) i w
def lva (l : List (Nat × Value)) : List (Nat × Value) → Prop
  | [] => True
  | q :: t => lvg l q.1 = some q.2 ∧ lva l t
theorem lvg_idx {l : List (Nat × Value)} {i : Nat} {w : Value} (e : lvg l i = some w) : ∃ k : Nat, l[k]? = some (i, w) := by
  induction l with
  | nil => cases e
  | cons q t ih =>
    unfold lvg at e
    cases hb : Nat.beq q.1 i with
    | true =>
      rw [hb] at e
      have hq : q.1 = i := Nat.eq_of_beq_eq_true hb
      cases e
      exact ⟨0, by rw [← hq]; rfl⟩
    | false =>
      rw [hb] at e
      obtain ⟨k, hk⟩ := ih e
      exact ⟨k + 1, hk⟩
theorem lvg_at {ls : Array Slot} {nL : Nat} {l : List (Nat × Value)} (h : lv_has ls nL l) {i : Nat} {w : Value} (e : lvg l i = some w) : ls[i]? = some (.val w) := by
  obtain ⟨k, hk⟩ := lvg_idx e
  exact lv_at h k hk
theorem lvi_mem {l : List (Nat × Value)} {i : Nat} {w : Value} {q : Nat × Value} (h : q ∈ lvi l i w) : q = (i, w) ∨ q ∈ l := by
  induction l with
  | nil => exact Or.inl (List.mem_singleton.mp h)
  | cons r t ih =>
    unfold lvi at h
    cases hb : Nat.blt r.1 i with
    | true =>
      rw [hb] at h
      rcases List.mem_cons.mp h with rfl | h
      · exact Or.inr List.mem_cons_self
      · rcases ih h with h | h
        · exact Or.inl h
        · exact Or.inr (List.mem_cons_of_mem _ h)
    | false =>
      rw [hb] at h
      rcases List.mem_cons.mp h with rfl | h
      · exact Or.inl rfl
      · exact Or.inr h
theorem lvd_mem {l : List (Nat × Value)} {i : Nat} {q : Nat × Value} (h : q ∈ lvd l i) : q ∈ l ∧ ¬ q.1 = i ∧ ¬ (q.1 + 1 = i ∧ q.2.category = 2) := by
  induction l with
  | nil => cases h
  | cons r t ih =>
    unfold lvd at h
    cases hb : (Nat.beq r.1 i || (Nat.beq (r.1 + 1) i && lvc r.2)) with
    | true =>
      rw [hb] at h
      obtain ⟨h1, h2⟩ := ih h
      exact ⟨List.mem_cons_of_mem _ h1, h2⟩
    | false =>
      rw [hb] at h
      rcases List.mem_cons.mp h with rfl | h
      · refine ⟨List.mem_cons_self, fun e => ?_, fun e => ?_⟩
        · rw [e] at hb
          simp at hb
        · rw [e.1, (lvc_cat q.2).mp e.2] at hb
          simp at hb
      · obtain ⟨h1, h2⟩ := ih h
        exact ⟨List.mem_cons_of_mem _ h1, h2⟩
theorem lvu_has {ls : Array Slot} {nL i : Nat} {l : List (Nat × Value)} {w : Value} (h : lv_has ls nL ((i, w) :: l.filter (fun q => !(q.1 == i) && !(q.1 + 1 == i && q.2.category == 2)))) : lv_has ls nL (lvu l i w) := by
  refine ⟨h.1, h.2.1, fun q hq => h.2.2 q ?_⟩
  rcases lvi_mem hq with rfl | hq
  · exact List.mem_cons_self
  · obtain ⟨h1, h2, h3⟩ := lvd_mem hq
    refine List.mem_cons_of_mem _ (List.mem_filter.mpr ⟨h1, ?_⟩)
    simp only [Bool.and_eq_true, Bool.not_eq_true', beq_eq_false_iff_ne, Bool.and_eq_false_iff, ne_eq]
    refine ⟨h2, ?_⟩
    by_cases e : q.1 + 1 = i
    · exact Or.inr (fun z => h3 ⟨e, z⟩)
    · exact Or.inl e
theorem lvu2_has {ls : Array Slot} {nL i : Nat} {l : List (Nat × Value)} {w : Value} (h : lv_has ls nL ((i, w) :: l.filter (fun q => !(q.1 == i) && (!(q.1 == i + 1) && !(q.1 + 1 == i && q.2.category == 2))))) : lv_has ls nL (lvu2 l i w) := by
  refine ⟨h.1, h.2.1, fun q hq => h.2.2 q ?_⟩
  rcases lvi_mem hq with rfl | hq
  · exact List.mem_cons_self
  · obtain ⟨h1, h2, h3⟩ := lvd_mem hq
    obtain ⟨g1, g2, -⟩ := lvd_mem h1
    refine List.mem_cons_of_mem _ (List.mem_filter.mpr ⟨g1, ?_⟩)
    simp only [Bool.and_eq_true, Bool.not_eq_true', beq_eq_false_iff_ne, Bool.and_eq_false_iff, ne_eq]
    refine ⟨h2, g2, ?_⟩
    by_cases e : q.1 + 1 = i
    · exact Or.inr (fun z => h3 ⟨e, z⟩)
    · exact Or.inl e
theorem lva_has {ls : Array Slot} {nL : Nat} {l l' : List (Nat × Value)} (h : lv_has ls nL l) (hl : lva l l') : lv_has ls nL l' := by
  refine ⟨h.1, h.2.1, ?_⟩
  induction l' with
  | nil => intro q hq; cases hq
  | cons r t ih =>
    intro q hq
    rcases List.mem_cons.mp hq with rfl | hq
    · exact lvg_at h hl.1
    · exact ih hl.2 q hq
section GR
variable {E : gE} {M : gM} {d pc : Nat} {lv : List (Nat × Value)} {rest : List Value} {h h' : hp_T} {v : Option Value}
/-- fewer locals -/
theorem gf_lv {lv' : List (Nat × Value)} {st : List Value} (hl : lva lv lv') (k : gf E M d pc lv' st h v h') : gf E M d pc lv st h v h' := gf_pure (fun _ hl0 kk => kk _ (lva_has hl0 hl)) k
theorem gf_iconst {n : Int} (w : Int32) (hdg : decode M.2.1 pc = .ok (.iconst n, 1)) (hv : Int32.ofInt n = w) (k : gf E M d (pc + 1) lv (.int w :: rest) h v h') : gf E M d pc lv (rest) h v h' := gf_pure (fun hA hl kk => lv_iconst hA.1 hA.2.1 hdg hv (kk _ hl)) k
theorem gf_bipush {n : Int} (w : Int32) (hdg : decode M.2.1 pc = .ok (.bipush n, 2)) (hv : (Int8.ofInt n).toInt32 = w) (k : gf E M d (pc + 2) lv (.int w :: rest) h v h') : gf E M d pc lv (rest) h v h' := gf_pure (fun hA hl kk => lv_bipush hA.1 hA.2.1 hdg hv (kk _ hl)) k
theorem gf_sipush {n : Int} (w : Int32) (hdg : decode M.2.1 pc = .ok (.sipush n, 3)) (hv : (Int16.ofInt n).toInt32 = w) (k : gf E M d (pc + 3) lv (.int w :: rest) h v h') : gf E M d pc lv (rest) h v h' := gf_pure (fun hA hl kk => lv_sipush hA.1 hA.2.1 hdg hv (kk _ hl)) k
theorem gf_lconst {n : Fin 2} (w : Int64) (hdg : decode M.2.1 pc = .ok (.lconst n, 1)) (hv : Int64.ofNat (n : Nat) = w) (k : gf E M d (pc + 1) lv (.long w :: rest) h v h') : gf E M d pc lv (rest) h v h' := gf_pure (fun hA hl kk => lv_lconst hA.1 hA.2.1 hdg hv (kk _ hl)) k
theorem gf_null (hdg : decode M.2.1 pc = .ok (.aconst_null, 1)) (k : gf E M d (pc + 1) lv (.null :: rest) h v h') : gf E M d pc lv (rest) h v h' := gf_pure (fun hA hl kk => lv_null hA.1 hA.2.1 hdg (kk _ hl)) k
theorem gf_iload_n {j : Fin 4} {x : Int32} (i : Nat) (hdg : decode M.2.1 pc = .ok (.iload_n j, 1)) (hi : (j : Nat) = i) (he : lvg lv i = some (.int x)) (k : gf E M d (pc + 1) lv (.int x :: rest) h v h') : gf E M d pc lv (rest) h v h' := gf_pure (fun hA hl kk => lv_iload_n hA.1 hA.2.1 hdg hi (lvg_at hl he) (kk _ hl)) k
theorem gf_iload {i : Nat} {x : Int32} (hdg : decode M.2.1 pc = .ok (.iload i, 2)) (he : lvg lv i = some (.int x)) (k : gf E M d (pc + 2) lv (.int x :: rest) h v h') : gf E M d pc lv (rest) h v h' := gf_pure (fun hA hl kk => lv_iload hA.1 hA.2.1 hdg (lvg_at hl he) (kk _ hl)) k
theorem gf_lload_n {j : Fin 4} {x : Int64} (i : Nat) (hdg : decode M.2.1 pc = .ok (.lload_n j, 1)) (hi : (j : Nat) = i) (he : lvg lv i = some (.long x)) (k : gf E M d (pc + 1) lv (.long x :: rest) h v h') : gf E M d pc lv (rest) h v h' := gf_pure (fun hA hl kk => lv_lload_n hA.1 hA.2.1 hdg hi (lvg_at hl he) (kk _ hl)) k
theorem gf_lload {i : Nat} {x : Int64} (hdg : decode M.2.1 pc = .ok (.lload i, 2)) (he : lvg lv i = some (.long x)) (k : gf E M d (pc + 2) lv (.long x :: rest) h v h') : gf E M d pc lv (rest) h v h' := gf_pure (fun hA hl kk => lv_lload hA.1 hA.2.1 hdg (lvg_at hl he) (kk _ hl)) k
theorem gf_aload_n {j : Fin 4} {x : Nat} (i : Nat) (hdg : decode M.2.1 pc = .ok (.aload_n j, 1)) (hi : (j : Nat) = i) (he : lvg lv i = some (.ref x)) (k : gf E M d (pc + 1) lv (.ref x :: rest) h v h') : gf E M d pc lv (rest) h v h' := gf_pure (fun hA hl kk => lv_aload_n hA.1 hA.2.1 hdg hi (lvg_at hl he) (kk _ hl)) k
theorem gf_aload {i : Nat} {x : Nat} (hdg : decode M.2.1 pc = .ok (.aload i, 2)) (he : lvg lv i = some (.ref x)) (k : gf E M d (pc + 2) lv (.ref x :: rest) h v h') : gf E M d pc lv (rest) h v h' := gf_pure (fun hA hl kk => lv_aload hA.1 hA.2.1 hdg (lvg_at hl he) (kk _ hl)) k
theorem gf_istore_n {j : Fin 4} {x : Int32} (i : Nat) (hdg : decode M.2.1 pc = .ok (.istore_n j, 1)) (hi : (j : Nat) = i) (hn : i < M.2.2.1) (k : gf E M d (pc + 1) (lvu lv i (.int x)) (rest) h v h') : gf E M d pc lv (.int x :: rest) h v h' := gf_pure (fun hA hl kk => lv_istore_n hA.1 hA.2.1 hdg hi hl hn rfl (fun ls2 hl2 => kk ls2 (lvu_has hl2))) k
theorem gf_istore {i : Nat} {x : Int32} (hdg : decode M.2.1 pc = .ok (.istore i, 2)) (hn : i < M.2.2.1) (k : gf E M d (pc + 2) (lvu lv i (.int x)) (rest) h v h') : gf E M d pc lv (.int x :: rest) h v h' := gf_pure (fun hA hl kk => lv_istore hA.1 hA.2.1 hdg hl hn rfl (fun ls2 hl2 => kk ls2 (lvu_has hl2))) k
theorem gf_astore_n {j : Fin 4} {x : Nat} (i : Nat) (hdg : decode M.2.1 pc = .ok (.astore_n j, 1)) (hi : (j : Nat) = i) (hn : i < M.2.2.1) (k : gf E M d (pc + 1) (lvu lv i (.ref x)) (rest) h v h') : gf E M d pc lv (.ref x :: rest) h v h' := gf_pure (fun hA hl kk => lv_astore_n hA.1 hA.2.1 hdg hi hl hn rfl (fun ls2 hl2 => kk ls2 (lvu_has hl2))) k
theorem gf_astore {i : Nat} {x : Nat} (hdg : decode M.2.1 pc = .ok (.astore i, 2)) (hn : i < M.2.2.1) (k : gf E M d (pc + 2) (lvu lv i (.ref x)) (rest) h v h') : gf E M d pc lv (.ref x :: rest) h v h' := gf_pure (fun hA hl kk => lv_astore hA.1 hA.2.1 hdg hl hn rfl (fun ls2 hl2 => kk ls2 (lvu_has hl2))) k
theorem gf_lstore_n {j : Fin 4} {x : Int64} (i : Nat) (hdg : decode M.2.1 pc = .ok (.lstore_n j, 1)) (hi : (j : Nat) = i) (hn : i + 1 < M.2.2.1) (k : gf E M d (pc + 1) (lvu2 lv i (.long x)) (rest) h v h') : gf E M d pc lv (.long x :: rest) h v h' := gf_pure (fun hA hl kk => lv_lstore_n hA.1 hA.2.1 hdg hi hl hn rfl (fun ls2 hl2 => kk ls2 (lvu2_has hl2))) k
theorem gf_lstore {i : Nat} {x : Int64} (hdg : decode M.2.1 pc = .ok (.lstore i, 2)) (hn : i + 1 < M.2.2.1) (k : gf E M d (pc + 2) (lvu2 lv i (.long x)) (rest) h v h') : gf E M d pc lv (.long x :: rest) h v h' := gf_pure (fun hA hl kk => lv_lstore hA.1 hA.2.1 hdg hl hn rfl (fun ls2 hl2 => kk ls2 (lvu2_has hl2))) k
theorem gf_iinc {i : Nat} {n : Int} {x : Int32} (w : Int32) (hdg : decode M.2.1 pc = .ok (.iinc i n, 3)) (hw : Int32.ofInt n = w) (he : lvg lv i = some (.int x)) (hn : i < M.2.2.1) (k : gf E M d (pc + 3) (lvu lv i (.int (x + w))) rest h v h') : gf E M d pc lv rest h v h' := by
  obtain ⟨j, hj⟩ := lvg_idx he
  exact gf_pure (fun hA hl kk => lv_iinc hA.1 hA.2.1 hdg hl hj (by rw [hw]) hn rfl (fun ls2 hl2 => kk ls2 (lvu_has hl2))) k
theorem gf_iadd {x y : Int32} (hdg : decode M.2.1 pc = .ok (.iadd, 1)) (k : gf E M d (pc + 1) lv (.int (x + y) :: rest) h v h') : gf E M d pc lv (.int y :: .int x :: rest) h v h' := gf_pure (fun hA hl kk => lv_iadd hA.1 hA.2.1 hdg (kk _ hl)) k
theorem gf_isub {x y : Int32} (hdg : decode M.2.1 pc = .ok (.isub, 1)) (k : gf E M d (pc + 1) lv (.int (x - y) :: rest) h v h') : gf E M d pc lv (.int y :: .int x :: rest) h v h' := gf_pure (fun hA hl kk => lv_isub hA.1 hA.2.1 hdg (kk _ hl)) k
theorem gf_imul {x y : Int32} (hdg : decode M.2.1 pc = .ok (.imul, 1)) (k : gf E M d (pc + 1) lv (.int (x * y) :: rest) h v h') : gf E M d pc lv (.int y :: .int x :: rest) h v h' := gf_pure (fun hA hl kk => lv_imul hA.1 hA.2.1 hdg (kk _ hl)) k
theorem gf_iand {x y : Int32} (hdg : decode M.2.1 pc = .ok (.iand, 1)) (k : gf E M d (pc + 1) lv (.int (x &&& y) :: rest) h v h') : gf E M d pc lv (.int y :: .int x :: rest) h v h' := gf_pure (fun hA hl kk => lv_iand hA.1 hA.2.1 hdg (kk _ hl)) k
theorem gf_ior {x y : Int32} (hdg : decode M.2.1 pc = .ok (.ior, 1)) (k : gf E M d (pc + 1) lv (.int (x ||| y) :: rest) h v h') : gf E M d pc lv (.int y :: .int x :: rest) h v h' := gf_pure (fun hA hl kk => lv_ior hA.1 hA.2.1 hdg (kk _ hl)) k
theorem gf_ixor {x y : Int32} (hdg : decode M.2.1 pc = .ok (.ixor, 1)) (k : gf E M d (pc + 1) lv (.int (x ^^^ y) :: rest) h v h') : gf E M d pc lv (.int y :: .int x :: rest) h v h' := gf_pure (fun hA hl kk => lv_ixor hA.1 hA.2.1 hdg (kk _ hl)) k
theorem gf_ishl {x y : Int32} (hdg : decode M.2.1 pc = .ok (.ishl, 1)) (k : gf E M d (pc + 1) lv (.int (x <<< (y &&& 31)) :: rest) h v h') : gf E M d pc lv (.int y :: .int x :: rest) h v h' := gf_pure (fun hA hl kk => lv_ishl hA.1 hA.2.1 hdg (kk _ hl)) k
theorem gf_ishr {x y : Int32} (hdg : decode M.2.1 pc = .ok (.ishr, 1)) (k : gf E M d (pc + 1) lv (.int (x >>> (y &&& 31)) :: rest) h v h') : gf E M d pc lv (.int y :: .int x :: rest) h v h' := gf_pure (fun hA hl kk => lv_ishr hA.1 hA.2.1 hdg (kk _ hl)) k
theorem gf_iushr {x y : Int32} (hdg : decode M.2.1 pc = .ok (.iushr, 1)) (k : gf E M d (pc + 1) lv (.int (x.toUInt32 >>> (y.toUInt32 &&& Int32.toUInt32 31)).toInt32 :: rest) h v h') : gf E M d pc lv (.int y :: .int x :: rest) h v h' := gf_pure (fun hA hl kk => lv_iushr hA.1 hA.2.1 hdg rfl (kk _ hl)) k
theorem gf_idiv {x y : Int32} (hdg : decode M.2.1 pc = .ok (.idiv, 1)) (hne : ¬ y = 0) (k : gf E M d (pc + 1) lv (.int (x / y) :: rest) h v h') : gf E M d pc lv (.int y :: .int x :: rest) h v h' := gf_pure (fun hA hl kk => lv_idiv hA.1 hA.2.1 hdg hne (kk _ hl)) k
theorem gf_irem {x y : Int32} (hdg : decode M.2.1 pc = .ok (.irem, 1)) (hne : ¬ y = 0) (k : gf E M d (pc + 1) lv (.int (x - x / y * y) :: rest) h v h') : gf E M d pc lv (.int y :: .int x :: rest) h v h' := gf_pure (fun hA hl kk => lv_irem hA.1 hA.2.1 hdg hne (kk _ hl)) k
theorem gf_ladd {x y : Int64} (hdg : decode M.2.1 pc = .ok (.ladd, 1)) (k : gf E M d (pc + 1) lv (.long (x + y) :: rest) h v h') : gf E M d pc lv (.long y :: .long x :: rest) h v h' := gf_pure (fun hA hl kk => lv_ladd hA.1 hA.2.1 hdg (kk _ hl)) k
theorem gf_lsub {x y : Int64} (hdg : decode M.2.1 pc = .ok (.lsub, 1)) (k : gf E M d (pc + 1) lv (.long (x - y) :: rest) h v h') : gf E M d pc lv (.long y :: .long x :: rest) h v h' := gf_pure (fun hA hl kk => lv_lsub hA.1 hA.2.1 hdg (kk _ hl)) k
theorem gf_lmul {x y : Int64} (hdg : decode M.2.1 pc = .ok (.lmul, 1)) (k : gf E M d (pc + 1) lv (.long (x * y) :: rest) h v h') : gf E M d pc lv (.long y :: .long x :: rest) h v h' := gf_pure (fun hA hl kk => lv_lmul hA.1 hA.2.1 hdg (kk _ hl)) k
theorem gf_ldiv {x y : Int64} (hdg : decode M.2.1 pc = .ok (.ldiv, 1)) (hne : ¬ y = 0) (k : gf E M d (pc + 1) lv (.long (x / y) :: rest) h v h') : gf E M d pc lv (.long y :: .long x :: rest) h v h' := gf_pure (fun hA hl kk => lv_ldiv hA.1 hA.2.1 hdg hne (kk _ hl)) k
theorem gf_lrem {x y : Int64} (hdg : decode M.2.1 pc = .ok (.lrem, 1)) (hne : ¬ y = 0) (k : gf E M d (pc + 1) lv (.long (x - x / y * y) :: rest) h v h') : gf E M d pc lv (.long y :: .long x :: rest) h v h' := gf_pure (fun hA hl kk => lv_lrem hA.1 hA.2.1 hdg hne (kk _ hl)) k
theorem gf_lcmp {x y : Int64} (hdg : decode M.2.1 pc = .ok (.lcmp, 1)) (k : gf E M d (pc + 1) lv (.int (lg_cmp x y) :: rest) h v h') : gf E M d pc lv (.long y :: .long x :: rest) h v h' := gf_pure (fun hA hl kk => W.lcmp hA.1 hA.2.1 hdg (kk _ hl)) k
theorem gf_ineg {x : Int32} (hdg : decode M.2.1 pc = .ok (.ineg, 1)) (k : gf E M d (pc + 1) lv (.int (-x) :: rest) h v h') : gf E M d pc lv (.int x :: rest) h v h' := gf_pure (fun hA hl kk => lv_ineg hA.1 hA.2.1 hdg (kk _ hl)) k
theorem gf_i2l {x : Int32} (hdg : decode M.2.1 pc = .ok (.i2l, 1)) (k : gf E M d (pc + 1) lv (.long x.toInt64 :: rest) h v h') : gf E M d pc lv (.int x :: rest) h v h' := gf_pure (fun hA hl kk => lv_i2l hA.1 hA.2.1 hdg rfl (kk _ hl)) k
theorem gf_l2i {x : Int64} (hdg : decode M.2.1 pc = .ok (.l2i, 1)) (k : gf E M d (pc + 1) lv (.int x.toInt32 :: rest) h v h') : gf E M d pc lv (.long x :: rest) h v h' := gf_pure (fun hA hl kk => lv_l2i hA.1 hA.2.1 hdg rfl (kk _ hl)) k
theorem gf_i2c {x : Int32} (hdg : decode M.2.1 pc = .ok (.i2c, 1)) (k : gf E M d (pc + 1) lv (.int (x.toUInt32 % 65536).toInt32 :: rest) h v h') : gf E M d pc lv (.int x :: rest) h v h' := gf_pure (fun hA hl kk => lv_i2c hA.1 hA.2.1 hdg rfl (kk _ hl)) k
theorem gf_i2b {x : Int32} (hdg : decode M.2.1 pc = .ok (.i2b, 1)) (k : gf E M d (pc + 1) lv (.int x.toInt8.toInt32 :: rest) h v h') : gf E M d pc lv (.int x :: rest) h v h' := gf_pure (fun hA hl kk => lv_i2b hA.1 hA.2.1 hdg rfl (kk _ hl)) k
theorem gf_dup {x : Value} (hdg : decode M.2.1 pc = .ok (.dup, 1)) (hx : x.category = 1) (k : gf E M d (pc + 1) lv (x :: x :: rest) h v h') : gf E M d pc lv (x :: rest) h v h' := gf_pure (fun hA hl kk => lv_dup hA.1 hA.2.1 hdg hx (kk _ hl)) k
theorem gf_pop {x : Value} (hdg : decode M.2.1 pc = .ok (.pop, 1)) (hx : x.category = 1) (k : gf E M d (pc + 1) lv (rest) h v h') : gf E M d pc lv (x :: rest) h v h' := gf_pure (fun hA hl kk => lv_pop hA.1 hA.2.1 hdg hx (kk _ hl)) k
theorem gf_dup_x1 {x y : Value} (hdg : decode M.2.1 pc = .ok (.dup_x1, 1)) (hx : x.category = 1) (hy : y.category = 1) (k : gf E M d (pc + 1) lv (x :: y :: x :: rest) h v h') : gf E M d pc lv (x :: y :: rest) h v h' := gf_pure (fun hA hl kk => lv_dup_x1 hA.1 hA.2.1 hdg hx hy (kk _ hl)) k
theorem gf_dup2 {x y : Value} (hdg : decode M.2.1 pc = .ok (.dup2, 1)) (hx : x.category = 1) (hy : y.category = 1) (k : gf E M d (pc + 1) lv (x :: y :: x :: y :: rest) h v h') : gf E M d pc lv (x :: y :: rest) h v h' := gf_pure (fun hA hl kk => lv_dup2_11 hA.1 hA.2.1 hdg hx hy (kk _ hl)) k
theorem gf_dup2L {x : Value} (hdg : decode M.2.1 pc = .ok (.dup2, 1)) (hx : x.category = 2) (k : gf E M d (pc + 1) lv (x :: x :: rest) h v h') : gf E M d pc lv (x :: rest) h v h' := gf_pure (fun hA hl kk => lv_dup2_2 hA.1 hA.2.1 hdg hx (kk _ hl)) k
theorem gf_goto {off : Int} (tgt : Nat) (hdg : decode M.2.1 pc = .ok (.goto off, 3)) (ht : (pc : Int) + off = (tgt : Int)) (k : gf E M d tgt lv (rest) h v h') : gf E M d pc lv (rest) h v h' := gf_pure (fun hA hl kk => lv_goto hA.1 hA.2.1 hdg ht (kk _ hl)) k
theorem gf_ifnull_no {x : Nat} {off : Int} (hdg : decode M.2.1 pc = .ok (.ifnull off, 3)) (k : gf E M d (pc + 3) lv (rest) h v h') : gf E M d pc lv (.ref x :: rest) h v h' := gf_pure (fun hA hl kk => lv_ifnull hA.1 hA.2.1 hdg (kk _ hl)) k
theorem gf_ifnull_yes {off : Int} (tgt : Nat) (hdg : decode M.2.1 pc = .ok (.ifnull off, 3)) (ht : (pc : Int) + off = (tgt : Int)) (k : gf E M d tgt lv (rest) h v h') : gf E M d pc lv (.null :: rest) h v h' := gf_pure (fun hA hl kk => lv_ifnullN hA.1 hA.2.1 hdg ht (kk _ hl)) k
theorem gf_ifnonnull_yes {x : Nat} {off : Int} (tgt : Nat) (hdg : decode M.2.1 pc = .ok (.ifnonnull off, 3)) (ht : (pc : Int) + off = (tgt : Int)) (k : gf E M d tgt lv (rest) h v h') : gf E M d pc lv (.ref x :: rest) h v h' := gf_pure (fun hA hl kk => lv_ifnonnull hA.1 hA.2.1 hdg ht (kk _ hl)) k
theorem gf_ifnonnull_no {off : Int} (hdg : decode M.2.1 pc = .ok (.ifnonnull off, 3)) (k : gf E M d (pc + 3) lv (rest) h v h') : gf E M d pc lv (.null :: rest) h v h' := gf_pure (fun hA hl kk => lv_ifnonnullN hA.1 hA.2.1 hdg (kk _ hl)) k
theorem gf_if_eq {x : Int32} {off : Int} (tgt : Nat) (hdg : decode M.2.1 pc = .ok (.ifCond .eq off, 3)) (ht : (pc : Int) + off = (tgt : Int)) (kt : x = 0 → gf E M d tgt lv rest h v h') (kf : ¬ x = 0 → gf E M d (pc + 3) lv rest h v h') : gf E M d pc lv (.int x :: rest) h v h' := by
  by_cases hc : x = 0
  · exact gf_pure (fun hA hl kk => lv_if_eq hA.1 hA.2.1 hdg ht (fun _ => kk _ hl) (fun q => absurd hc q)) (kt hc)
  · exact gf_pure (fun hA hl kk => lv_if_eq hA.1 hA.2.1 hdg ht (fun q => absurd q hc) (fun _ => kk _ hl)) (kf hc)
theorem gf_if_ne {x : Int32} {off : Int} (tgt : Nat) (hdg : decode M.2.1 pc = .ok (.ifCond .ne off, 3)) (ht : (pc : Int) + off = (tgt : Int)) (kt : ¬ x = 0 → gf E M d tgt lv rest h v h') (kf : x = 0 → gf E M d (pc + 3) lv rest h v h') : gf E M d pc lv (.int x :: rest) h v h' := by
  by_cases hc : x = 0
  · exact gf_pure (fun hA hl kk => lv_if_ne hA.1 hA.2.1 hdg ht (fun q => absurd hc q) (fun _ => kk _ hl)) (kf hc)
  · exact gf_pure (fun hA hl kk => lv_if_ne hA.1 hA.2.1 hdg ht (fun _ => kk _ hl) (fun q => absurd q hc)) (kt hc)
theorem gf_if_lt {x : Int32} {off : Int} (tgt : Nat) (hdg : decode M.2.1 pc = .ok (.ifCond .lt off, 3)) (ht : (pc : Int) + off = (tgt : Int)) (kt : x < 0 → gf E M d tgt lv rest h v h') (kf : ¬ x < 0 → gf E M d (pc + 3) lv rest h v h') : gf E M d pc lv (.int x :: rest) h v h' := by
  by_cases hc : x < 0
  · exact gf_pure (fun hA hl kk => lv_if_lt hA.1 hA.2.1 hdg ht (fun _ => kk _ hl) (fun q => absurd hc q)) (kt hc)
  · exact gf_pure (fun hA hl kk => lv_if_lt hA.1 hA.2.1 hdg ht (fun q => absurd q hc) (fun _ => kk _ hl)) (kf hc)
theorem gf_if_ge {x : Int32} {off : Int} (tgt : Nat) (hdg : decode M.2.1 pc = .ok (.ifCond .ge off, 3)) (ht : (pc : Int) + off = (tgt : Int)) (kt : 0 ≤ x → gf E M d tgt lv rest h v h') (kf : ¬ 0 ≤ x → gf E M d (pc + 3) lv rest h v h') : gf E M d pc lv (.int x :: rest) h v h' := by
  by_cases hc : 0 ≤ x
  · exact gf_pure (fun hA hl kk => lv_if_ge hA.1 hA.2.1 hdg ht (fun _ => kk _ hl) (fun q => absurd hc q)) (kt hc)
  · exact gf_pure (fun hA hl kk => lv_if_ge hA.1 hA.2.1 hdg ht (fun q => absurd q hc) (fun _ => kk _ hl)) (kf hc)
theorem gf_if_gt {x : Int32} {off : Int} (tgt : Nat) (hdg : decode M.2.1 pc = .ok (.ifCond .gt off, 3)) (ht : (pc : Int) + off = (tgt : Int)) (kt : 0 < x → gf E M d tgt lv rest h v h') (kf : ¬ 0 < x → gf E M d (pc + 3) lv rest h v h') : gf E M d pc lv (.int x :: rest) h v h' := by
  by_cases hc : 0 < x
  · exact gf_pure (fun hA hl kk => lv_if_gt hA.1 hA.2.1 hdg ht (fun _ => kk _ hl) (fun q => absurd hc q)) (kt hc)
  · exact gf_pure (fun hA hl kk => lv_if_gt hA.1 hA.2.1 hdg ht (fun q => absurd q hc) (fun _ => kk _ hl)) (kf hc)
theorem gf_if_le {x : Int32} {off : Int} (tgt : Nat) (hdg : decode M.2.1 pc = .ok (.ifCond .le off, 3)) (ht : (pc : Int) + off = (tgt : Int)) (kt : x ≤ 0 → gf E M d tgt lv rest h v h') (kf : ¬ x ≤ 0 → gf E M d (pc + 3) lv rest h v h') : gf E M d pc lv (.int x :: rest) h v h' := by
  by_cases hc : x ≤ 0
  · exact gf_pure (fun hA hl kk => lv_if_le hA.1 hA.2.1 hdg ht (fun _ => kk _ hl) (fun q => absurd hc q)) (kt hc)
  · exact gf_pure (fun hA hl kk => lv_if_le hA.1 hA.2.1 hdg ht (fun q => absurd q hc) (fun _ => kk _ hl)) (kf hc)
theorem gf_icmp_eq {x y : Int32} {off : Int} (tgt : Nat) (hdg : decode M.2.1 pc = .ok (.if_icmp .eq off, 3)) (ht : (pc : Int) + off = (tgt : Int)) (kt : x = y → gf E M d tgt lv rest h v h') (kf : ¬ x = y → gf E M d (pc + 3) lv rest h v h') : gf E M d pc lv (.int y :: .int x :: rest) h v h' := by
  by_cases hc : x = y
  · exact gf_pure (fun hA hl kk => lv_icmp_eq hA.1 hA.2.1 hdg ht (fun _ => kk _ hl) (fun q => absurd hc q)) (kt hc)
  · exact gf_pure (fun hA hl kk => lv_icmp_eq hA.1 hA.2.1 hdg ht (fun q => absurd q hc) (fun _ => kk _ hl)) (kf hc)
theorem gf_icmp_ne {x y : Int32} {off : Int} (tgt : Nat) (hdg : decode M.2.1 pc = .ok (.if_icmp .ne off, 3)) (ht : (pc : Int) + off = (tgt : Int)) (kt : ¬ x = y → gf E M d tgt lv rest h v h') (kf : x = y → gf E M d (pc + 3) lv rest h v h') : gf E M d pc lv (.int y :: .int x :: rest) h v h' := by
  by_cases hc : x = y
  · exact gf_pure (fun hA hl kk => lv_icmp_ne hA.1 hA.2.1 hdg ht (fun q => absurd hc q) (fun _ => kk _ hl)) (kf hc)
  · exact gf_pure (fun hA hl kk => lv_icmp_ne hA.1 hA.2.1 hdg ht (fun _ => kk _ hl) (fun q => absurd q hc)) (kt hc)
theorem gf_icmp_lt {x y : Int32} {off : Int} (tgt : Nat) (hdg : decode M.2.1 pc = .ok (.if_icmp .lt off, 3)) (ht : (pc : Int) + off = (tgt : Int)) (kt : x < y → gf E M d tgt lv rest h v h') (kf : ¬ x < y → gf E M d (pc + 3) lv rest h v h') : gf E M d pc lv (.int y :: .int x :: rest) h v h' := by
  by_cases hc : x < y
  · exact gf_pure (fun hA hl kk => lv_icmp_lt hA.1 hA.2.1 hdg ht (fun _ => kk _ hl) (fun q => absurd hc q)) (kt hc)
  · exact gf_pure (fun hA hl kk => lv_icmp_lt hA.1 hA.2.1 hdg ht (fun q => absurd q hc) (fun _ => kk _ hl)) (kf hc)
theorem gf_icmp_ge {x y : Int32} {off : Int} (tgt : Nat) (hdg : decode M.2.1 pc = .ok (.if_icmp .ge off, 3)) (ht : (pc : Int) + off = (tgt : Int)) (kt : y ≤ x → gf E M d tgt lv rest h v h') (kf : ¬ y ≤ x → gf E M d (pc + 3) lv rest h v h') : gf E M d pc lv (.int y :: .int x :: rest) h v h' := by
  by_cases hc : y ≤ x
  · exact gf_pure (fun hA hl kk => lv_icmp_ge hA.1 hA.2.1 hdg ht (fun _ => kk _ hl) (fun q => absurd hc q)) (kt hc)
  · exact gf_pure (fun hA hl kk => lv_icmp_ge hA.1 hA.2.1 hdg ht (fun q => absurd q hc) (fun _ => kk _ hl)) (kf hc)
theorem gf_icmp_gt {x y : Int32} {off : Int} (tgt : Nat) (hdg : decode M.2.1 pc = .ok (.if_icmp .gt off, 3)) (ht : (pc : Int) + off = (tgt : Int)) (kt : y < x → gf E M d tgt lv rest h v h') (kf : ¬ y < x → gf E M d (pc + 3) lv rest h v h') : gf E M d pc lv (.int y :: .int x :: rest) h v h' := by
  by_cases hc : y < x
  · exact gf_pure (fun hA hl kk => lv_icmp_gt hA.1 hA.2.1 hdg ht (fun _ => kk _ hl) (fun q => absurd hc q)) (kt hc)
  · exact gf_pure (fun hA hl kk => lv_icmp_gt hA.1 hA.2.1 hdg ht (fun q => absurd q hc) (fun _ => kk _ hl)) (kf hc)
theorem gf_icmp_le {x y : Int32} {off : Int} (tgt : Nat) (hdg : decode M.2.1 pc = .ok (.if_icmp .le off, 3)) (ht : (pc : Int) + off = (tgt : Int)) (kt : x ≤ y → gf E M d tgt lv rest h v h') (kf : ¬ x ≤ y → gf E M d (pc + 3) lv rest h v h') : gf E M d pc lv (.int y :: .int x :: rest) h v h' := by
  by_cases hc : x ≤ y
  · exact gf_pure (fun hA hl kk => lv_icmp_le hA.1 hA.2.1 hdg ht (fun _ => kk _ hl) (fun q => absurd hc q)) (kt hc)
  · exact gf_pure (fun hA hl kk => lv_icmp_le hA.1 hA.2.1 hdg ht (fun q => absurd q hc) (fun _ => kk _ hl)) (kf hc)
theorem gf_tableIn {dflt lo hi : Int} {offs : Array Int} {len : Nat} {x : Int32} {off : Int} (tgt : Nat) (hdg : decode M.2.1 pc = .ok (.tableswitch dflt lo hi offs, len)) (h1 : ¬ x.toInt < lo) (h2 : ¬ hi < x.toInt) (ho : offs[(x.toInt - lo).toNat]? = some off) (ht : (pc : Int) + off = (tgt : Int)) (k : gf E M d tgt lv (rest) h v h') : gf E M d pc lv (.int x :: rest) h v h' := gf_pure (fun hA hl kk => lv_tableIn hA.1 hA.2.1 hdg h1 h2 ho ht (kk _ hl)) k
theorem gf_tableOut {dflt lo hi : Int} {offs : Array Int} {len : Nat} {x : Int32} (tgt : Nat) (hdg : decode M.2.1 pc = .ok (.tableswitch dflt lo hi offs, len)) (h1 : x.toInt < lo ∨ hi < x.toInt) (ht : (pc : Int) + dflt = (tgt : Int)) (k : gf E M d tgt lv (rest) h v h') : gf E M d pc lv (.int x :: rest) h v h' := gf_pure (fun hA hl kk => lv_tableOut hA.1 hA.2.1 hdg h1 ht (kk _ hl)) k
theorem gf_lookup {dflt : Int} {ps : Array (Int × Int)} {len : Nat} {x : Int32} {off : Int} (tgt : Nat) (hdg : decode M.2.1 pc = .ok (.lookupswitch dflt ps, len)) (hp : (ps.toList.zip (ps.toList.drop 1)).all (fun (a, next) => a.1 < next.1) = true) (ho : Op.lookupswitch.offset ps.toList dflt x.toInt = off) (ht : (pc : Int) + off = (tgt : Int)) (k : gf E M d tgt lv (rest) h v h') : gf E M d pc lv (.int x :: rest) h v h' := gf_pure (fun hA hl kk => lv_lookup hA.1 hA.2.1 hdg hp ho ht (kk _ hl)) k
theorem gf_ldc {idx : Nat} (w : Int32) (hc : Cond.constant M.1.cls idx w ∈ tt) (hdg : decode M.2.1 pc = .ok (.ldc idx, 2)) (k : gf E M d (pc + 2) lv (.int w :: rest) h v h') : gf E M d pc lv (rest) h v h' := gf_pure (fun hA hl kk => lv_ldc hA.1 hA.2.1 hA.2.2.2.2.1 (hA.2.2.2.2.2.1 _ hc) hdg (kk _ hl)) k
theorem gf_ldc2 {idx : Nat} (w : Int64) (hc : Cond.constantLong M.1.cls idx w ∈ tt) (hdg : decode M.2.1 pc = .ok (.ldc2_w idx, 3)) (k : gf E M d (pc + 3) lv (.long w :: rest) h v h') : gf E M d pc lv (rest) h v h' := gf_pure (fun hA hl kk => lv_ldc2 hA.1 hA.2.1 hA.2.2.2.2.1 (hA.2.2.2.2.2.1 _ hc) hdg (kk _ hl)) k
end GR
