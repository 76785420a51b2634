/-! ===== Arrays.copyOf ===== -/
theorem f_cpL : (Jvm.Cond.methodLink "java/util/Arrays" (150 : Nat) ({ cls := "java/lang/System", name := "arraycopy", desc := "(Ljava/lang/Object;ILjava/lang/Object;II)V" } : Jvm.MethodName)) ∈ tt := mt_4 (List.mem_of_getElem? (i := 97) rfl) rfl
theorem f_cpN : (Jvm.Cond.native ({ cls := "java/lang/System", name := "arraycopy", desc := "(Ljava/lang/Object;ILjava/lang/Object;II)V" } : Jvm.MethodName)) ∈ tt := mt_4 (List.mem_of_getElem? (i := 99) rfl) rfl
theorem f_cpS : (Jvm.Cond.static ({ cls := "java/lang/System", name := "arraycopy", desc := "(Ljava/lang/Object;ILjava/lang/Object;II)V" } : Jvm.MethodName)) ∈ tt := mt_4 (List.mem_of_getElem? (i := 98) rfl) rfl
theorem f_cpI : (Jvm.Cond.initialized "java/lang/System") ∈ tt := mt_1 (List.mem_of_getElem? (i := 21) rfl) rfl
theorem f_clL : (Jvm.Cond.methodLink "java/util/Arrays" (316 : Nat) ({ cls := "[I", name := "clone", desc := "()Ljava/lang/Object;" } : Jvm.MethodName)) ∈ tt := mt_4 (List.mem_of_getElem? (i := 89) rfl) rfl
theorem f_clM : (Jvm.Cond.sameMethod "[I" "java/lang/Object" "clone" "()Ljava/lang/Object;") ∈ tt := mt_4 (List.mem_of_getElem? (i := 90) rfl) rfl
theorem f_clN : (Jvm.Cond.native ({ cls := "java/lang/Object", name := "clone", desc := "()Ljava/lang/Object;" } : Jvm.MethodName)) ∈ tt := mt_4 (List.mem_of_getElem? (i := 91) rfl) rfl
theorem f_clI : (Jvm.Cond.instanceMethod ({ cls := "java/lang/Object", name := "clone", desc := "()Ljava/lang/Object;" } : Jvm.MethodName)) ∈ tt := mt_4 (List.mem_of_getElem? (i := 92) rfl) rfl
theorem f_clS : (Jvm.Cond.selects "[I" ({ cls := "[I", name := "clone", desc := "()Ljava/lang/Object;" } : Jvm.MethodName) ({ cls := "java/lang/Object", name := "clone", desc := "()Ljava/lang/Object;" } : Jvm.MethodName)) ∈ tt := mt_4 (List.mem_of_getElem? (i := 93) rfl) rfl
theorem f_ccL : (Jvm.Cond.classLink "java/util/Arrays" (317 : Nat) "[I") ∈ tt := mt_4 (List.mem_of_getElem? (i := 95) rfl) rfl
theorem f_arI : (Jvm.Cond.arrayClass Jvm.ClassFile.FieldType.int) ∈ tt := mt_1 (List.mem_of_getElem? (i := 115) rfl) rfl
theorem f_mnL : (Jvm.Cond.methodLink "java/util/Arrays" (304 : Nat) ({ cls := "java/lang/Math", name := "min", desc := "(II)I" } : Jvm.MethodName)) ∈ tt := mt_4 (List.mem_of_getElem? (i := 96) rfl) rfl
theorem hp_new_ne (h : hp_T) (t len sl : Nat) {x : Nat} (hx : x ≠ hp_n h) : hp_tag (hp_new h t len sl) x = hp_tag h x ∧ hp_len (hp_new h t len sl) x = hp_len h x ∧ hp_i (hp_new h t len sl) x = hp_i h x ∧ hp_l (hp_new h t len sl) x = hp_l h x ∧ hp_r (hp_new h t len sl) x = hp_r h x := ⟨if_neg hx, if_neg hx, if_neg hx, if_neg hx, if_neg hx⟩
theorem hp_P_rw1 {E : gE} {h : hp_T} {H : Heap} {a : Nat} {f : Nat → Int32} {e : va_E} (hP : hp_P E h H) (ha : a < hp_n h) (he : hp_E E (rw1 h a f) a = e) {H1 : Heap} (hP1 : va_P E.2.1 vwCl ((hp_ws E h).set a (E.1 + a, e)) H1) : hp_P E (rw1 h a f) H1 := by
  refine ⟨hP.1, ?_⟩
  have := hp_wset (E := E) (h' := rw1 h a f) ha rfl he (fun x hx => hp_E_ne rfl rfl (rw1_ne h f hx) rfl rfl)
  rw [← this]
  exact hP1
theorem hp_P_newf {E : gE} {h : hp_T} {H H1 : Heap} {t len sl : Nat} {f : Nat → Int32} {e : va_E} (hP : hp_P E h H) (he : hp_E E (rw1 (hp_new h t len sl) (hp_n h) f) (hp_n h) = e) (hP1 : va_P E.2.1 vwCl (hp_ws E h ++ [(E.1 + hp_n h, e)]) H1) : hp_P E (rw1 (hp_new h t len sl) (hp_n h) f) H1 := by
  refine ⟨fun a ha => ?_, ?_⟩
  · have h1 : hp_n h + 1 ≤ a := ha
    show va_up (hp_tag h) (hp_n h) t a = 99
    rw [va_up, if_neg (by omega)]
    exact hP.1 a (by omega)
  · have e0 : hp_ws E (rw1 (hp_new h t len sl) (hp_n h) f) = hp_ws E h ++ [(E.1 + hp_n h, e)] := by
      show (List.range (hp_n h + 1)).map _ = _
      rw [List.range_succ, List.map_append]
      congr 1
      · apply List.map_congr_left
        intro x hx
        have hx : x ≠ hp_n h := Nat.ne_of_lt (List.mem_range.mp hx)
        obtain ⟨q1, q2, q3, q4, q5⟩ := hp_new_ne h t len sl hx
        rw [hp_E_ne (h := h) (h' := rw1 (hp_new h t len sl) (hp_n h) f)]
        · exact q1
        · exact q2
        · exact (rw1_ne _ f hx).trans q3
        · exact q4
        · exact q5
      · show [(E.1 + hp_n h, hp_E E (rw1 (hp_new h t len sl) (hp_n h) f) (hp_n h))] = _
        rw [he]
    rw [e0]
    exact hP1
section GY
variable {E : gE} {M : gM} {d pc : Nat} {lv : List (Nat × Value)} {rest : List Value} {h h' : hp_T} {v : Option Value}
theorem gf_aretA {x : Value} {ty : FieldType} (hdg : decode M.2.1 pc = .ok (.areturn, 1)) (hr : M.2.2.2.1 = some (.array ty)) (hx : x = .null ∨ ∃ a, x = .ref a) (eh : h = h') : gf E M d pc lv [x] h (some x) h' := by
  subst eh
  refine ⟨Nat.le_refl _, Nat.le_refl _, fun p l e R s m args below meth c H locs cells slots c0 s0 ls hA hP hS hl _ _ hc hs hR hRs hz => ?_⟩
  have e1 : hp_n h - c0 = cells := by omega
  have e2 : hp_s h - s0 = slots := by omega
  rw [e1, e2]
  exact W.aret (v := x) hA.1 hA.2.1 (hA.2.2.2.1.trans hr) (Or.inr ⟨ty, rfl⟩) hx (fun t ht hW => ⟨⟨rfl, by rw [ht]; exact hP⟩, hS.F ht⟩) hS.2.2 hdg hA.2.2.2.2.2.2.2.2.1
theorem gf_copyi {a0 a n0 n1 n : Nat} {sn : Int32} (hM : M.1.cls = "java/util/Arrays") (ht0 : hp_tag h a0 = 14) (hL0 : hp_len h a0 = n0) (ht1 : hp_tag h a = 14) (hL1 : hp_len h a = n1) (hs : sn = nI n) (hn0 : n ≤ n0) (hn1 : n ≤ n1) (hN : n < 1000000) (hdg : decode M.2.1 pc = .ok (.invokestatic 150, 3)) (hd : 1 ≤ d) (hw : (rest.map fun v => v.category).sum ≤ 8) (kk : gf E M d (pc + 3) lv rest (rw1 h a (va_cpy (hp_i h a0) (hp_i h a) 0 0 n)) v h') : gf E M d pc lv (.int sn :: .int 0 :: .ref (E.1 + a) :: .int 0 :: .ref (E.1 + a0) :: rest) h v h' := by
  subst hs hL0 hL1
  have z0 : (0 : Int32).toNatClampNeg = 0 := by decide
  have zn : (nI n).toNatClampNeg = n := nI_clamp (by omega)
  have hloc : nativeFrameWords "java/lang/System" "arraycopy" 5 + 11 ≤ 50 := by decide
  refine gf_step (h1 := rw1 h a (va_cpy (hp_i h a0) (hp_i h a) 0 0 n)) rfl rfl (fun p l e R s m args below meth cc H locs cells slots ls Q hA hP hS hl0 hd1 hD1 _ _ k9 => ?_) kk
  refine va_copyi (own := "java/util/Arrays") (index := 150) (tys := hp_tys E) (sp := 0) (dp := 0) (n := nI n) hA.1 hA.2.1 (hA.2.2.1.trans hl0.1.symm) (by rw [← hM]; exact hA.2.2.2.2.1) (hA.2.2.2.2.2.1 _ f_cpL) (hA.2.2.2.2.2.1 _ f_cpN) (hA.2.2.2.2.2.1 _ f_cpS) (hA.2.2.2.2.2.1 _ f_cpI) hA.2.2.2.2.2.2.1 hP.2 (hp_D E h) hS a0 a 1 1 (hp_wI hP ht0 (by omega) (by omega) (by omega)) (hp_wI hP ht1 (by omega) (by omega) (by omega)) rfl rfl rfl (by decide) (by decide) (nI_pos (by omega)) (by rw [z0, zn]; omega) (by rw [z0, zn]; omega) (fun i hi => rfl) (by omega) (by omega) hdg (fun H1 locs1 hP1 _ hS1 => k9 H1 locs1 ls (hp_P_rw1 hP (hp_lt hP ht1 (by omega)) ?_ hP1) hS1 hl0)
  rw [hp_arr (h := rw1 h a _) ht1 (by omega), hp_ar_I (by omega) (by omega), rw1_at, z0, zn]
  rfl
theorem gf_clonei {a n0 : Nat} (hM : M.1.cls = "java/util/Arrays") (ht0 : hp_tag h a = 14) (hL0 : hp_len h a = n0) (hdg : decode M.2.1 pc = .ok (.invokevirtual 316, 3)) (hd : 1 ≤ d) (hw : (rest.map fun v => v.category).sum ≤ 8) (kk : gf E M d (pc + 3) lv (.ref (E.1 + hp_n h) :: rest) (rw1 (hp_new h 14 n0 n0) (hp_n h) (hp_i h a)) v h') : gf E M d pc lv (.ref (E.1 + a) :: rest) h v h' := by
  subst hL0
  have k1 : hp_n h + 1 ≤ hp_n h' := kk.1
  have k2 : hp_s h + hp_len h a ≤ hp_s h' := kk.2.1
  refine ⟨by omega, by omega, fun p l e R s m args below meth cc H locs cells slots c0 s0 ls hA hP hS hl hdd hD hcs hss hR hRs hz => ?_⟩
  refine va_clone (own := "java/util/Arrays") (ad := "[I") (index := 316) (tys := hp_tys E) (x := (hp_len h a, .inl (hp_i h a))) (ty := .int) hA.1 hA.2.1 (hA.2.2.1.trans hl.1.symm) (by rw [← hM]; exact hA.2.2.2.2.1) (hA.2.2.2.2.2.1 _ f_clL) (hA.2.2.2.2.2.1 _ f_clM) (hA.2.2.2.2.2.1 _ f_clN) (hA.2.2.2.2.2.1 _ f_clI) (hA.2.2.2.2.2.1 _ f_clS) hA.2.2.2.2.2.2.2.1.2.2.2.2.2.2.2.2.2.2 hA.2.2.2.2.2.2.1 hP.2 (hp_D E h) hS (fun q hq => ?_) a 1 (hp_wI hP ht0 (by omega) (by omega) (by omega)) rfl (va_nm_int (hA.2.2.2.2.2.2.1.2 1 _ rfl).2) (fun i v hv => ?_) (by omega) (by omega) (by omega) (by show slots + hp_len h a ≤ R.slots; omega) hdg (fun q H1 _ hP1 hD1 hS1 => ?_)
  · show E.1 ≤ q
    omega
  · have hlt : i < hp_len h a := by
      have q := (Array.getElem?_eq_some_iff.mp hv).1
      have q2 : (vp_cell (E.2.2.1 14) (hp_len h a, Sum.inl (hp_i h a))).slots.size = hp_len h a := arrV_size _ _ _
      omega
    have e : (vp_cell (E.2.2.1 14) (hp_len h a, Sum.inl (hp_i h a))).slots[i]? = some (.int (hp_i h a i)) := arrV_read _ _ hlt
    rw [Option.some.inj (hv.symm.trans e)]
    rfl
  · intro T hT X
    have hup : T.heap.size ≤ s.heap.size + (cells + 1) := X.heapSize
    rw [hT] at hup
    have hq := hp_place hP1 hD1 hz hcs hup
    subst hq
    exact kk.2.2 p l e R s m args below meth cc H1 locs (cells + 1) (slots + hp_len h a) c0 s0 ls hA (hp_P_newf hP (by rw [hp_arr (h := rw1 (hp_new h 14 (hp_len h a) (hp_len h a)) (hp_n h) (hp_i h a)) (hp_new_t h 14 (hp_len h a) (hp_len h a)) (by omega), hp_ar_I (by omega) (by omega), rw1_at]; show Sum.inl (_, hp_len (hp_new h 14 (hp_len h a) (hp_len h a)) (hp_n h), _) = _; rw [hp_new_n]) hP1) hS1 hl hdd hD (by show cells + 1 + c0 = hp_n h + 1; omega) (by show slots + hp_len h a + s0 = hp_s h + hp_len h a; omega) hR hRs hz T hT X
theorem gf_castI {a : Nat} (hM : M.1.cls = "java/util/Arrays") (ht0 : hp_tag h a = 14) (hdg : decode M.2.1 pc = .ok (.checkcast 317, 3)) (kk : gf E M d (pc + 3) lv (.ref (E.1 + a) :: rest) h v h') : gf E M d pc lv (.ref (E.1 + a) :: rest) h v h' :=
  gf_step rfl rfl (fun p l e R s m args below meth cc H locs cells slots ls Q hA hP hS hl0 _ _ _ _ k9 =>
    va_castA (own := "java/util/Arrays") (nm := "[I") hA.1 hA.2.1 (by rw [← hM]; exact hA.2.2.2.2.1) (hA.2.2.2.2.2.1 _ f_ccL) hP.2 a (hp_wI hP ht0 (by omega) (by omega) (by omega)) (va_nm_int (hA.2.2.2.2.2.2.1.2 1 _ rfl).2) hdg (k9 H locs ls hP hS hl0)) kk
end GY
/-- the first N of an array's n0 numbers -/
def cpyF (f : Nat → Int32) (n0 N : Nat) : Nat → Int32 := if N = n0 then f else va_cpy f (fun _ => 0) 0 0 (min n0 N)
theorem cpyF_in {f : Nat → Int32} {n0 N k : Nat} (h0 : k < n0) (h1 : k < N) : cpyF f n0 N k = f k := by
  unfold cpyF
  split
  · rfl
  · unfold va_cpy
    rw [if_pos ⟨by omega, by omega⟩]
    congr 1
    omega
def hcp (h : hp_T) (a n0 N : Nat) : hp_T := rw1 (hp_new h 14 N N) (hp_n h) (cpyF (hp_i h a) n0 N)
theorem e_copyOf (E : gE) {d : Nat} (hd : 2 ≤ d) {a n0 N : Nat} (h : hp_T) (ht : hp_tag h a = 14) (hL : hp_len h a = n0) (ha : a < hp_n h) (hn0 : n0 < 1000000) (hN : N < 1000000) : ev E mJ7_copyOf_59c91 d [.ref (E.1 + a), .int (nI N)] h (some (.ref (E.1 + hp_n h))) (hcp h a n0 N) := by
  refine ev_of rfl (fun q => absurd q (by decide)) (Nat.le_of_ble_eq_true rfl) ?_
  refine gf_iload_n 1 dJ7_copyOf_59c91_0 rfl rfl ?_
  refine gf_aload_n 0 dJ7_copyOf_59c91_1 rfl rfl ?_
  refine gf_alen n0 dJ7_copyOf_59c91_2 ht (by decide) (by decide) hL ?_
  by_cases e : N = n0
  · refine gf_icmp_ne 14 dJ7_copyOf_59c91_3 rfl (fun q => absurd (by rw [e]) q) (fun _ => ?_)
    refine gf_aload_n 0 dJ7_copyOf_59c91_6 rfl rfl ?_
    refine gf_clonei rfl ht hL dJ7_copyOf_59c91_7 (by omega) (Nat.le_of_ble_eq_true rfl) ?_
    refine gf_castI rfl (hp_new_t h 14 n0 n0) dJ7_copyOf_59c91_10 ?_
    exact gf_aretA dJ7_copyOf_59c91_13 rfl (Or.inr ⟨_, rfl⟩) (by unfold hcp cpyF; rw [if_pos e, e])
  · refine gf_icmp_ne 14 dJ7_copyOf_59c91_3 rfl (fun _ => ?_) (fun q => absurd ((nI_eq (by omega) (by omega)).mp q) e)
    refine gf_iload_n 1 dJ7_copyOf_59c91_14 rfl rfl ?_
    refine gf_newa (atype := .int) 14 N (by decide) rfl f_arI rfl (by omega) dJ7_copyOf_59c91_15 ?_
    obtain ⟨q1, q2, q3, -, -⟩ := hp_new_ne h 14 N N (x := a) (by omega)
    refine gf_astore_n 2 dJ7_copyOf_59c91_17 rfl (Nat.le_of_ble_eq_true rfl) ?_
    refine gf_aload_n 0 dJ7_copyOf_59c91_18 rfl rfl ?_
    refine gf_iconst (0) dJ7_copyOf_59c91_19 rfl ?_
    refine gf_aload_n 2 dJ7_copyOf_59c91_20 rfl rfl ?_
    refine gf_iconst (0) dJ7_copyOf_59c91_21 rfl ?_
    refine gf_aload_n 0 dJ7_copyOf_59c91_22 rfl rfl ?_
    refine gf_alen n0 dJ7_copyOf_59c91_23 (q1.trans ht) (by decide) (by decide) (q2.trans hL) ?_
    refine gf_iload_n 1 dJ7_copyOf_59c91_24 rfl rfl ?_
    refine gf_min f_mnL kMmin.1 kMmin.2.1 kMmin.2.2 dJ7_copyOf_59c91_25 (by omega) (Nat.le_of_ble_eq_true rfl) ?_
    refine gf_copyi (n := min n0 N) rfl (q1.trans ht) (q2.trans hL) (hp_new_t h 14 N N) (hp_new_n h 14 N N) ?_ (by omega) (by omega) (by omega) dJ7_copyOf_59c91_28 (by omega) (Nat.le_of_ble_eq_true rfl) ?_
    · by_cases w : N < n0
      · rw [if_pos (nI_lt w (by omega)), Nat.min_eq_right (by omega)]
      · rw [if_neg (nI_nlt (by omega) (by omega)), Nat.min_eq_left (by omega)]
    · refine gf_aload_n 2 dJ7_copyOf_59c91_31 rfl rfl ?_
      refine gf_aretA dJ7_copyOf_59c91_32 rfl (Or.inr ⟨_, rfl⟩) ?_
      unfold hcp cpyF
      rw [if_neg e, q3, funext (hp_new_i h 14 N N)]
