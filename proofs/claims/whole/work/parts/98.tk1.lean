/-! ===== the law's own code: rows with a premise on the state at its entry ===== -/
def gx (X : State → Prop) (E : gE) (M : gM) (d pc : Nat) (lv : List (Nat × Value)) (st : List Value) (h : hp_T) (v : Option Value) (h' : hp_T) : Prop :=
  hp_n h ≤ hp_n h' ∧ hp_s h ≤ hp_s h' ∧ ∀ (p : Program) (l : Launch) (e : Env) (R : Room) (s : State) (m : MethodId) (args : Array Value) (below : List Frame) (meth : Method) (c : Code) (H : Heap) (locs : List Loc) (cells slots c0 s0 : Nat) (ls : Array Slot),
    X s → gf_at E M p s m args meth c → hp_P E h H → va_S (gE_A E) s.heap H locs → lv_has ls M.2.2.1 lv → d ≤ R.frames → 60 * d ≤ R.locals → cells + c0 = hp_n h → slots + s0 = hp_s h → hp_n h' ≤ R.cells + c0 → hp_s h' ≤ R.slots + s0 → s.heap.size = E.1 + c0 →
    W p l e R s m args below meth c H locs cells slots (MQ below (gf_Qc E v h') args s (hp_n h' - c0) (hp_s h' - s0) (gE_A E)) (F0 m pc ls st)
section GXR
variable {X : State → Prop} {E : gE} {M : gM} {d pc : Nat} {lv : List (Nat × Value)} {rest : List Value} {h h' : hp_T} {v : Option Value}
theorem gx_step {X : State → Prop} {E : gE} {M : gM} {d pc pc' : Nat} {lv lv' : List (Nat × Value)} {st st' : List Value} {h h1 h' : hp_T} {v : Option Value} (hn : hp_n h1 = hp_n h) (hs : hp_s h1 = hp_s h)
    (f : ∀ (p : Program) (l : Launch) (e : Env) (R : Room) (s : State) (m : MethodId) (args : Array Value) (below : List Frame) (meth : Method) (c : Code) (H : Heap) (locs : List Loc) (cells slots : Nat) (ls : Array Slot) (Q : State → Prop), X s → gf_at E M p s m args meth c → hp_P E h H → va_S (gE_A E) s.heap H locs → lv_has ls M.2.2.1 lv → d ≤ R.frames → 60 * d ≤ R.locals → cells ≤ R.cells → slots ≤ R.slots →
      (∀ (H1 : Heap) (locs1 : List Loc) (ls1 : Array Slot), hp_P E h1 H1 → va_S (gE_A E) s.heap H1 locs1 → lv_has ls1 M.2.2.1 lv' → W p l e R s m args below meth c H1 locs1 cells slots Q (F0 m pc' ls1 st')) → W p l e R s m args below meth c H locs cells slots Q (F0 m pc ls st))
    (k : gx X E M d pc' lv' st' h1 v h') : gx X E M d pc lv st h v h' := by
  refine ⟨by rw [← hn]; exact k.1, by rw [← hs]; exact k.2.1, fun p l e R s m args below meth c H locs cells slots c0 s0 ls hX hA hP hS hl hd hD hc hsl hR hRs hz => ?_⟩
  have k1 := k.1
  have k2 := k.2.1
  refine f p l e R s m args below meth c H locs cells slots ls _ hX hA hP hS hl hd hD (by omega) (by omega) (fun H1 locs1 ls1 hP1 hS1 hl1 => ?_)
  exact k.2.2 p l e R s m args below meth c H1 locs1 cells slots c0 s0 ls1 hX hA hP1 hS1 hl1 hd hD (by rw [hn]; exact hc) (by rw [hs]; exact hsl) hR hRs hz
theorem gx_pure {X : State → Prop} {E : gE} {M : gM} {d pc pc' : Nat} {lv lv' : List (Nat × Value)} {st st' : List Value} {h h' : hp_T} {v : Option Value}
    (f : ∀ {p : Program} {l : Launch} {e : Env} {R : Room} {s : State} {m : MethodId} {args : Array Value} {below : List Frame} {meth : Method} {c : Code} {H : Heap} {locs : List Loc} {cells slots : Nat} {ls : Array Slot} {Q : State → Prop}, gf_at E M p s m args meth c → lv_has ls M.2.2.1 lv →
      (∀ ls1 : Array Slot, lv_has ls1 M.2.2.1 lv' → W p l e R s m args below meth c H locs cells slots Q (F0 m pc' ls1 st')) → W p l e R s m args below meth c H locs cells slots Q (F0 m pc ls st))
    (k : gx X E M d pc' lv' st' h v h') : gx X E M d pc lv st h v h' :=
  gx_step rfl rfl (fun _ _ _ _ _ _ _ _ _ _ _ _ _ _ _ _ _ hA hP hS hl _ _ _ _ kk => f hA hl (fun ls1 hl1 => kk _ _ ls1 hP hS hl1)) k
theorem gx_iconst {n : Int} (w : Int32) (hdg : decode M.2.1 pc = .ok (.iconst n, 1)) (hv : Int32.ofInt n = w) (k : gx X E M d (pc + 1) lv (.int w :: rest) h v h') : gx X E M d pc lv (rest) h v h' := gx_pure (fun hA hl kk => lv_iconst hA.1 hA.2.1 hdg hv (kk _ hl)) k
theorem gx_bipush {n : Int} (w : Int32) (hdg : decode M.2.1 pc = .ok (.bipush n, 2)) (hv : (Int8.ofInt n).toInt32 = w) (k : gx X E M d (pc + 2) lv (.int w :: rest) h v h') : gx X E M d pc lv (rest) h v h' := gx_pure (fun hA hl kk => lv_bipush hA.1 hA.2.1 hdg hv (kk _ hl)) k
theorem gx_iload_n {j : Fin 4} {x : Int32} (i : Nat) (hdg : decode M.2.1 pc = .ok (.iload_n j, 1)) (hi : (j : Nat) = i) (he : lvg lv i = some (.int x)) (k : gx X E M d (pc + 1) lv (.int x :: rest) h v h') : gx X E M d pc lv (rest) h v h' := gx_pure (fun hA hl kk => lv_iload_n hA.1 hA.2.1 hdg hi (lvg_at hl he) (kk _ hl)) k
theorem gx_aload_n {j : Fin 4} {x : Nat} (i : Nat) (hdg : decode M.2.1 pc = .ok (.aload_n j, 1)) (hi : (j : Nat) = i) (he : lvg lv i = some (.ref x)) (k : gx X E M d (pc + 1) lv (.ref x :: rest) h v h') : gx X E M d pc lv (rest) h v h' := gx_pure (fun hA hl kk => lv_aload_n hA.1 hA.2.1 hdg hi (lvg_at hl he) (kk _ hl)) k
theorem gx_istore_n {j : Fin 4} {x : Int32} (i : Nat) (hdg : decode M.2.1 pc = .ok (.istore_n j, 1)) (hi : (j : Nat) = i) (hn : i < M.2.2.1) (k : gx X E M d (pc + 1) (lvu lv i (.int x)) (rest) h v h') : gx X E M d pc lv (.int x :: rest) h v h' := gx_pure (fun hA hl kk => lv_istore_n hA.1 hA.2.1 hdg hi hl hn rfl (fun ls2 hl2 => kk ls2 (lvu_has hl2))) k
theorem gx_astore_n {j : Fin 4} {x : Nat} (i : Nat) (hdg : decode M.2.1 pc = .ok (.astore_n j, 1)) (hi : (j : Nat) = i) (hn : i < M.2.2.1) (k : gx X E M d (pc + 1) (lvu lv i (.ref x)) (rest) h v h') : gx X E M d pc lv (.ref x :: rest) h v h' := gx_pure (fun hA hl kk => lv_astore_n hA.1 hA.2.1 hdg hi hl hn rfl (fun ls2 hl2 => kk ls2 (lvu_has hl2))) k
theorem gx_iinc {i : Nat} {n : Int} {x : Int32} (w : Int32) (hdg : decode M.2.1 pc = .ok (.iinc i n, 3)) (hw : Int32.ofInt n = w) (he : lvg lv i = some (.int x)) (hn : i < M.2.2.1) (k : gx X E M d (pc + 3) (lvu lv i (.int (x + w))) rest h v h') : gx X E M d pc lv rest h v h' := by
  obtain ⟨j, hj⟩ := lvg_idx he
  exact gx_pure (fun hA hl kk => lv_iinc hA.1 hA.2.1 hdg hl hj (by rw [hw]) hn rfl (fun ls2 hl2 => kk ls2 (lvu_has hl2))) k
theorem gx_iadd {x y : Int32} (hdg : decode M.2.1 pc = .ok (.iadd, 1)) (k : gx X E M d (pc + 1) lv (.int (x + y) :: rest) h v h') : gx X E M d pc lv (.int y :: .int x :: rest) h v h' := gx_pure (fun hA hl kk => lv_iadd hA.1 hA.2.1 hdg (kk _ hl)) k
theorem gx_isub {x y : Int32} (hdg : decode M.2.1 pc = .ok (.isub, 1)) (k : gx X E M d (pc + 1) lv (.int (x - y) :: rest) h v h') : gx X E M d pc lv (.int y :: .int x :: rest) h v h' := gx_pure (fun hA hl kk => lv_isub hA.1 hA.2.1 hdg (kk _ hl)) k
theorem gx_iand {x y : Int32} (hdg : decode M.2.1 pc = .ok (.iand, 1)) (k : gx X E M d (pc + 1) lv (.int (x &&& y) :: rest) h v h') : gx X E M d pc lv (.int y :: .int x :: rest) h v h' := gx_pure (fun hA hl kk => lv_iand hA.1 hA.2.1 hdg (kk _ hl)) k
theorem gx_lcmp {x y : Int64} (hdg : decode M.2.1 pc = .ok (.lcmp, 1)) (k : gx X E M d (pc + 1) lv (.int (lg_cmp x y) :: rest) h v h') : gx X E M d pc lv (.long y :: .long x :: rest) h v h' := gx_pure (fun hA hl kk => W.lcmp hA.1 hA.2.1 hdg (kk _ hl)) k
theorem gx_dup {x : Value} (hdg : decode M.2.1 pc = .ok (.dup, 1)) (hx : x.category = 1) (k : gx X E M d (pc + 1) lv (x :: x :: rest) h v h') : gx X E M d pc lv (x :: rest) h v h' := gx_pure (fun hA hl kk => lv_dup hA.1 hA.2.1 hdg hx (kk _ hl)) k
theorem gx_goto {off : Int} (tgt : Nat) (hdg : decode M.2.1 pc = .ok (.goto off, 3)) (ht : (pc : Int) + off = (tgt : Int)) (k : gx X E M d tgt lv (rest) h v h') : gx X E M d pc lv (rest) h v h' := gx_pure (fun hA hl kk => lv_goto hA.1 hA.2.1 hdg ht (kk _ hl)) k
theorem gx_if_eq {x : Int32} {off : Int} (tgt : Nat) (hdg : decode M.2.1 pc = .ok (.ifCond .eq off, 3)) (ht : (pc : Int) + off = (tgt : Int)) (kt : x = 0 → gx X E M d tgt lv rest h v h') (kf : ¬ x = 0 → gx X E M d (pc + 3) lv rest h v h') : gx X E M d pc lv (.int x :: rest) h v h' := by
  by_cases hc : x = 0
  · exact gx_pure (fun hA hl kk => lv_if_eq hA.1 hA.2.1 hdg ht (fun _ => kk _ hl) (fun q => absurd hc q)) (kt hc)
  · exact gx_pure (fun hA hl kk => lv_if_eq hA.1 hA.2.1 hdg ht (fun q => absurd q hc) (fun _ => kk _ hl)) (kf hc)
theorem gx_icmp_eq {x y : Int32} {off : Int} (tgt : Nat) (hdg : decode M.2.1 pc = .ok (.if_icmp .eq off, 3)) (ht : (pc : Int) + off = (tgt : Int)) (kt : x = y → gx X E M d tgt lv rest h v h') (kf : ¬ x = y → gx X E M d (pc + 3) lv rest h v h') : gx X E M d pc lv (.int y :: .int x :: rest) h v h' := by
  by_cases hc : x = y
  · exact gx_pure (fun hA hl kk => lv_icmp_eq hA.1 hA.2.1 hdg ht (fun _ => kk _ hl) (fun q => absurd hc q)) (kt hc)
  · exact gx_pure (fun hA hl kk => lv_icmp_eq hA.1 hA.2.1 hdg ht (fun q => absurd q hc) (fun _ => kk _ hl)) (kf hc)
theorem gx_icmp_gt {x y : Int32} {off : Int} (tgt : Nat) (hdg : decode M.2.1 pc = .ok (.if_icmp .gt off, 3)) (ht : (pc : Int) + off = (tgt : Int)) (kt : y < x → gx X E M d tgt lv rest h v h') (kf : ¬ y < x → gx X E M d (pc + 3) lv rest h v h') : gx X E M d pc lv (.int y :: .int x :: rest) h v h' := by
  by_cases hc : y < x
  · exact gx_pure (fun hA hl kk => lv_icmp_gt hA.1 hA.2.1 hdg ht (fun _ => kk _ hl) (fun q => absurd hc q)) (kt hc)
  · exact gx_pure (fun hA hl kk => lv_icmp_gt hA.1 hA.2.1 hdg ht (fun q => absurd q hc) (fun _ => kk _ hl)) (kf hc)
theorem gx_tableIn {dflt lo hi : Int} {offs : Array Int} {len : Nat} {x : Int32} {off : Int} (tgt : Nat) (hdg : decode M.2.1 pc = .ok (.tableswitch dflt lo hi offs, len)) (h1 : ¬ x.toInt < lo) (h2 : ¬ hi < x.toInt) (ho : offs[(x.toInt - lo).toNat]? = some off) (ht : (pc : Int) + off = (tgt : Int)) (k : gx X E M d tgt lv (rest) h v h') : gx X E M d pc lv (.int x :: rest) h v h' := gx_pure (fun hA hl kk => lv_tableIn hA.1 hA.2.1 hdg h1 h2 ho ht (kk _ hl)) k
theorem gx_tableOut {dflt lo hi : Int} {offs : Array Int} {len : Nat} {x : Int32} (tgt : Nat) (hdg : decode M.2.1 pc = .ok (.tableswitch dflt lo hi offs, len)) (h1 : x.toInt < lo ∨ hi < x.toInt) (ht : (pc : Int) + dflt = (tgt : Int)) (k : gx X E M d tgt lv (rest) h v h') : gx X E M d pc lv (.int x :: rest) h v h' := gx_pure (fun hA hl kk => lv_tableOut hA.1 hA.2.1 hdg h1 ht (kk _ hl)) k
theorem gx_new {idx : Nat} (c : Nat) (hc : c < 13) (hlk : Cond.classLink M.1.cls idx (hp_C c) ∈ tt) (hins : Cond.instantiable (hp_C c) (hp_N c) ∈ tt) (hini : Cond.initialized (hp_C c) ∈ tt) (hdg : decode M.2.1 pc = .ok (.new idx, 3)) (kk : gx X E M d (pc + 3) lv (.ref (E.1 + hp_n h) :: rest) (hp_new h c 0 (hp_N c)) v h') : gx X E M d pc lv rest h v h' := by
  have k1 : hp_n h + 1 ≤ hp_n h' := kk.1
  have k2 : hp_s h + hp_N c ≤ hp_s h' := kk.2.1
  refine ⟨by omega, by omega, fun p l e R s m args below meth cc H locs cells slots c0 s0 ls hX hA hP hS hl hd hD hcs hss hR hRs hz => ?_⟩
  refine va_new (D := E.2.1) (cl := vwCl) (ci := c) (C := hp_C c) (T := hp_TT c) (N := hp_N c) (fs := hp_fs E.1 (hp_new h c 0 (hp_N c)) c (hp_n h)) hA.1 hA.2.1 hA.2.2.2.2.2.1 (hp_in c hc) (hp_ty c) (hp_tyok c hc) hA.2.2.2.2.1 (hA.2.2.2.2.2.1 _ hlk) (hA.2.2.2.2.2.1 _ hins) (hA.2.2.2.2.2.1 _ hini) hA.2.2.2.2.2.2.1 hP.2 (hp_D E h) hS (fun q hq => ?_) (hp_cl c hc) (fun i hi => ?_) (by omega) (by omega) hdg (fun q H1 hP1 hD1 hS1 => ?_)
  · show E.1 ≤ q
    omega
  · show _ = (hp_fs E.1 (hp_new h c 0 (hp_N c)) c (hp_n h)).getD i .null
    rw [List.getD_eq_getElem?_getD, hp_fs_get hi]
    exact hp_dv E.1 h c 0 (hp_N c) i (hp_okall c hc i hi)
  · intro T hT X
    have hup : T.heap.size ≤ s.heap.size + (cells + 1) := X.heapSize
    rw [hT] at hup
    have hq := hp_place hP1 hD1 hz hcs hup
    subst hq
    exact kk.2.2 p l e R s m args below meth cc H1 locs (cells + 1) (slots + hp_N c) c0 s0 ls hX hA (hp_P_new hP (hp_obj (h := hp_new h c 0 (hp_N c)) (hp_new_t h c 0 (hp_N c)) hc) hP1) hS1 hl hd hD (by show cells + 1 + c0 = hp_n h + 1; omega) (by show slots + hp_N c + s0 = hp_s h + hp_N c; omega) hR hRs hz T hT X
theorem gx_call {X : State → Prop} {E : gE} {M y : gM} {d pc d1 : Nat} {lv : List (Nat × Value)} {st rest As : List Value} {h h1 h' : hp_T} {v v1 : Option Value} (ev1 : ev E y d1 As h v1 h1) (hd : d1 + 1 ≤ d)
    (hrun : ∀ (p : Program) (l : Launch) (e : Env) (R : Room) (s : State) (m : MethodId) (args : Array Value) (below : List Frame) (meth : Method) (c : Code) (H : Heap) (locs : List Loc) (cells slots : Nat) (ls : Array Slot), gf_at E M p s m args meth c → hp_P E h H → lv_has ls M.2.2.1 lv → d ≤ R.frames → 60 * d ≤ R.locals →
      (∀ U : State, U.heap = H → s.WarmedH U.vm → va_Pc As (ev_B E h) As.toArray U) → cells + (hp_n h1 - hp_n h) ≤ R.cells ∧ slots + (hp_s h1 - hp_s h) ≤ R.slots →
      va_Run p l e R s m args below meth c H locs cells slots (hp_n h1 - hp_n h) (hp_s h1 - hp_s h) (F0 m pc ls st) rest (gf_Qc E v1 h1 As.toArray) (gE_A E))
    (k : gx X E M d (pc + 3) lv (v1.toList ++ rest) h1 v h') : gx X E M d pc lv st h v h' := by
  have k1 := k.1
  have k2 := k.2.1
  have j1 := ev1.1
  have j2 := ev1.2.1
  refine ⟨by omega, by omega, fun p l e R s m args below meth c H locs cells slots c0 s0 ls hX hA hP hS hl hdd hDD hc hs hR hRs hz => ?_⟩
  intro T hT X
  have hup : T.heap.size ≤ s.heap.size + cells := X.heapSize
  rw [hT] at hup
  have h0 := hS.1
  have hlo : E.1 + hp_n h ≤ H.size := hp_size hP (by omega)
  have hsz : H.size = E.1 + hp_n h := by omega
  refine gf_after (hrun p l e R s m args below meth c H locs cells slots ls hA hP hl hdd hDD (fun U hU hW => ⟨rfl, by rw [hU]; exact hP, va_K.moved hW.alike hA.2.2.2.2.2.2.1, gf_St_warm hA.2.2.2.2.2.2.2.1 hS hU hW, by rw [hU]; exact hsz⟩) ⟨by omega, by omega⟩) hS (fun H1 locs1 hP1 hS1 => ?_) T hT X
  exact k.2.2 p l e R s m args below meth c H1 locs1 (cells + (hp_n h1 - hp_n h)) (slots + (hp_s h1 - hp_s h)) c0 s0 ls hX hA hP1 hS1 hl hdd hDD (by omega) (by omega) hR hRs hz
theorem gx_callV {X : State → Prop} {E : gE} {M y : gM} {d pc d1 n idx : Nat} {c a : Nat} {lv : List (Nat × Value)} {st rest As : List Value} {h h1 h' : hp_T} {v v1 : Option Value} (cm : gf_CM y n) (hl : Cond.methodLink M.1.cls idx y.1 ∈ tt) (him : Cond.instanceMethod y.1 ∈ tt) (hse : Cond.selects y.1.cls y.1 y.1 ∈ tt) (hcc : y.1.cls = hp_C c ∧ c < 13) (hdg : decode M.2.1 pc = .ok (.invokevirtual idx, 3)) (hd : d1 + 1 ≤ d) (ht : hp_tag h a = c) (ev1 : ev E y d1 (.ref (E.1 + a) :: As) h v1 h1) (hn : As.length = n) (hstk : st = As.reverse ++ .ref (E.1 + a) :: rest) (hw : (rest.map fun v => v.category).sum ≤ 8)
    (k : gx X E M d (pc + 3) lv (v1.toList ++ rest) h1 v h') : gx X E M d pc lv st h v h' :=
  gx_call ev1 hd (fun p l e R s m args below meth cc H locs cells slots ls hA hP hl0 hdd hDD hU hf =>
    va_runV (n := n) ⟨hA.1, hA.2.1, hA.2.2.1, hA.2.2.2.2.1, hA.2.2.2.2.2.1⟩ (ev1.2.2 l) ⟨callB_of n hA.2.2.2.2.2.1 (lw_in cm.2.1) rfl rfl rfl (hA.2.2.2.2.2.1 _ cm.1) (hA.2.2.2.2.2.1 _ hl) cm.2.2.1 ⟨by show d1 + 1 ≤ R.frames; omega, by show 8 + (y.2.2.1 + 11) + 60 * d1 ≤ R.locals; have := cm.2.2.2; omega⟩, hA.2.2.2.2.2.1 _ him, hA.2.2.2.2.2.1 _ hse⟩
      ⟨ev_blind, by rw [hcc.1]; exact va_recv hA.2.2.2.2.2.2.1 hP.2 (hp_cl c hcc.2) ((hp_get (hp_lt hP ht (by have := hcc.2; omega))).trans (by rw [hp_obj ht hcc.2])), hU⟩ rfl hn hl0.1 hstk (lv_room hw) hdg hf) k
theorem gx_callI {X : State → Prop} {E : gE} {M y : gM} {d pc d1 n idx : Nat} {b : Nat} {lv : List (Nat × Value)} {st rest As : List Value} {h h1 h' : hp_T} {v v1 : Option Value} (cm : gf_CM y n) (hret : y.2.2.2.1 = none) (hl : Cond.methodLink M.1.cls idx y.1 ∈ tt) (him : Cond.instanceMethod y.1 ∈ tt) (hnm : y.1.name = "<init>") (hdg : decode M.2.1 pc = .ok (.invokespecial idx, 3)) (hd : d1 + 1 ≤ d) (ev1 : ev E y d1 (.ref b :: As) h v1 h1) (hn : As.length = n) (hstk : st = As.reverse ++ .ref b :: rest) (hw : (rest.map fun v => v.category).sum ≤ 8)
    (k : gx X E M d (pc + 3) lv (v1.toList ++ rest) h1 v h') : gx X E M d pc lv st h v h' :=
  gx_call ev1 hd (fun p l e R s m args below meth c H locs cells slots ls hA hP hl0 hdd hDD hU hf =>
    va_runI (n := n) (bytes := y.2.1) (maxL := y.2.2.1) ⟨hA.1, hA.2.1, hA.2.2.1, hA.2.2.2.2.1, hA.2.2.2.2.2.1⟩ (ev1.2.2 l) ⟨callB_of n hA.2.2.2.2.2.1 (lw_in cm.2.1) (by rw [hret]) rfl rfl (hA.2.2.2.2.2.1 _ cm.1) (hA.2.2.2.2.2.1 _ hl) cm.2.2.1 ⟨by show d1 + 1 ≤ R.frames; omega, by show 8 + (y.2.2.1 + 11) + 60 * d1 ≤ R.locals; have := cm.2.2.2; omega⟩, hnm, hA.2.2.2.2.2.1 _ him⟩ ⟨ev_blind, hU⟩ rfl hn hl0.1 hstk (lv_room hw) hdg hf) k
theorem gx_zret {x : Int32} (hdg : decode M.2.1 pc = .ok (.ireturn, 1)) (hr : M.2.2.2.1 = some .boolean) (hn : narrow .boolean (.int x) = .int x) : gx X E M d pc lv [.int x] h (some (.int x)) h := by
  refine ⟨Nat.le_refl _, Nat.le_refl _, fun p l e R s m args below meth c H locs cells slots c0 s0 ls hX hA hP hS hl _ _ hc hs hR hRs hz => ?_⟩
  have e1 : hp_n h - c0 = cells := by omega
  have e2 : hp_s h - s0 = slots := by omega
  rw [e1, e2]
  exact W.zret (v := x) hA.1 hA.2.1 (hA.2.2.2.1.trans hr) hn (fun t ht hW => ⟨⟨rfl, by rw [ht]; exact hP⟩, hS.F ht⟩) hS.2.2 hdg hA.2.2.2.2.2.2.2.2.1
theorem gx_zretE {x y : Int32} (hdg : decode M.2.1 pc = .ok (.ireturn, 1)) (hr : M.2.2.2.1 = some .boolean) (hn : narrow .boolean (.int x) = .int x) (e : x = y) (eh : h = h') : gx X E M d pc lv [.int x] h (some (.int y)) h' := by
  subst e; subst eh; exact gx_zret hdg hr hn
end GXR
/-- the script at the address b: n numbers -/
def scX (E : gE) (b n : Nat) (f : Nat → Int32) : State → Prop := fun s => va_T .int b n (fun j => .int (f j)) (gE_A E) s s.heap
theorem gx_xald {E : gE} {M : gM} {d pc : Nat} {lv : List (Nat × Value)} {rest : List Value} {h h' : hp_T} {v : Option Value} {b n j : Nat} {f : Nat → Int32} {i : Int32} (hdg : decode M.2.1 pc = .ok (.iaload, 1)) (hi : i = nI j) (hj : j < n) (hn : n < 2147483648) (kk : gx (scX E b n f) E M d (pc + 1) lv (.int (f j) :: rest) h v h') : gx (scX E b n f) E M d pc lv (.int i :: .ref b :: rest) h v h' := by
  obtain ⟨h1, h2⟩ := hp_ix hi hj hn
  subst h2
  exact gx_step rfl rfl (fun p l e R s m args below meth cc H locs cells slots ls Q hX hA hP hS hl0 _ _ _ _ k9 =>
    va_ti hA.1 hA.2.1 hX hS h1 rfl hdg (k9 H locs ls hP hS hl0)) kk
theorem gx_xlen {E : gE} {M : gM} {d pc : Nat} {lv : List (Nat × Value)} {rest : List Value} {h h' : hp_T} {v : Option Value} {b n : Nat} {f : Nat → Int32} (hdg : decode M.2.1 pc = .ok (.arraylength, 1)) (kk : gx (scX E b n f) E M d (pc + 1) lv (.int (nI n) :: rest) h v h') : gx (scX E b n f) E M d pc lv (.ref b :: rest) h v h' :=
  gx_step rfl rfl (fun p l e R s m args below meth cc H locs cells slots ls Q hX hA hP hS hl0 _ _ _ _ k9 =>
    va_tlen hA.1 hA.2.1 hX hS rfl hdg (k9 H locs ls hP hS hl0)) kk
/-- some heap behind, with a property -/
def gy (X : State → Prop) (E : gE) (M : gM) (d pc : Nat) (lv : List (Nat × Value)) (st : List Value) (h : hp_T) (v : Option Value) (Q : hp_T → Prop) : Prop := ∃ h', gx X E M d pc lv st h v h' ∧ Q h'
theorem gy_st {X : State → Prop} {E : gE} {M : gM} {d pc pc2 : Nat} {lv lv2 : List (Nat × Value)} {st st2 : List Value} {h h2 : hp_T} {v : Option Value} {Q : hp_T → Prop} (f : ∀ h', gx X E M d pc2 lv2 st2 h2 v h' → gx X E M d pc lv st h v h') (k : gy X E M d pc2 lv2 st2 h2 v Q) : gy X E M d pc lv st h v Q := by
  obtain ⟨h', k1, k2⟩ := k
  exact ⟨h', f h' k1, k2⟩
