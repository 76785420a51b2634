/-! ===== rows of the lifted judgement: calls, new cells ===== -/
theorem gf_after {E : gE} {p : Program} {l : Launch} {e : Env} {R : Room} {s : State} {m : MethodId} {args : Array Value} {below : List Frame} {meth : Method} {c : Code} {H H0 : Heap} {locs : List Loc} {cells slots mc ms pc : Nat} {ls : Array Slot} {st0 rest : List Value} {v1 : Option Value} {h1 : hp_T} {a : Array Value} {Q : State → Prop}
    (hr : va_Run p l e R s m args below meth c H locs cells slots mc ms (F0 m pc ls st0) rest (gf_Qc E v1 h1 a) (gE_A E)) (hS : va_S (gE_A E) H0 H locs)
    (kk : ∀ (H1 : Heap) (locs1 : List Loc), hp_P E h1 H1 → va_S (gE_A E) H0 H1 locs1 → W p l e R s m args below meth c H1 locs1 (cells + mc) (slots + ms) Q (F0 m (pc + 3) ls (v1.toList ++ rest))) : W p l e R s m args below meth c H locs cells slots Q (F0 m pc ls st0) := by
  intro T hT X
  obtain ⟨v, st₀, t, T', L, h0, X', hL, e1, e2, ⟨⟨hv, hp⟩, hz, hk⟩, st⟩ := hr T hT X
  cases hv
  rw [h0] at hz hk
  obtain ⟨t2, a1, b1⟩ := kk T'.heap (locs ++ L) (by rw [e1]; exact hp) ⟨Nat.le_trans hS.1 (by rw [e1]; exact hz), fun q h1 h2 => by rw [e1, hk q (Nat.lt_of_lt_of_le h1 hS.1) h2]; exact hS.2.1 q h1 h2, fun q hq => by
      rcases List.mem_append.mp hq with h | h
      · exact hS.2.2 q h
      · exact hL q h⟩ T' rfl X'
  exact ⟨t2, st t2 a1, b1⟩
theorem ev_blind {E : gE} {h : hp_T} {av : List Value} : FrameBlind (va_Pc av (ev_B E h)) := fun _ U _ _ q =>
  ⟨q.1, q.2.1, va_K.moved (Vm.Alike.refl U.vm) q.2.2.1, gf_St_call q.2.2.2.1, q.2.2.2.2⟩
theorem gf_call {E : gE} {M y : gM} {d pc d1 : Nat} {lv : List (Nat × Value)} {st rest As : List Value} {h h1 h' : hp_T} {v v1 : Option Value} (ev1 : ev E y d1 As h v1 h1) (hd : d1 + 1 ≤ d)
    (hrun : ∀ (p : Program) (l : Launch) (e : Env) (R : Room) (s : State) (m : MethodId) (args : Array Value) (below : List Frame) (meth : Method) (c : Code) (H : Heap) (locs : List Loc) (cells slots : Nat) (ls : Array Slot), gf_at E M p s m args meth c → hp_P E h H → lv_has ls M.2.2.1 lv → d ≤ R.frames → 60 * d ≤ R.locals →
      (∀ U : State, U.heap = H → s.WarmedH U.vm → va_Pc As (ev_B E h) As.toArray U) → cells + (hp_n h1 - hp_n h) ≤ R.cells ∧ slots + (hp_s h1 - hp_s h) ≤ R.slots →
      va_Run p l e R s m args below meth c H locs cells slots (hp_n h1 - hp_n h) (hp_s h1 - hp_s h) (F0 m pc ls st) rest (gf_Qc E v1 h1 As.toArray) (gE_A E))
    (k : gf E M d (pc + 3) lv (v1.toList ++ rest) h1 v h') : gf E M d pc lv st h v h' := by
  have k1 := k.1
  have k2 := k.2.1
  have j1 := ev1.1
  have j2 := ev1.2.1
  refine ⟨by omega, by omega, fun p l e R s m args below meth c H locs cells slots c0 s0 ls hA hP hS hl hdd hDD hc hs hR hRs hz => ?_⟩
  intro T hT X
  have hup : T.heap.size ≤ s.heap.size + cells := X.heapSize
  rw [hT] at hup
  have h0 := hS.1
  have hlo : E.1 + hp_n h ≤ H.size := hp_size hP (by omega)
  have hsz : H.size = E.1 + hp_n h := by omega
  refine gf_after (hrun p l e R s m args below meth c H locs cells slots ls hA hP hl hdd hDD (fun U hU hW => ⟨rfl, by rw [hU]; exact hP, va_K.moved hW.alike hA.2.2.2.2.2.2.1, gf_St_warm hA.2.2.2.2.2.2.2.1 hS hU hW, by rw [hU]; exact hsz⟩) ⟨by omega, by omega⟩) hS (fun H1 locs1 hP1 hS1 => ?_) T hT X
  exact k.2.2 p l e R s m args below meth c H1 locs1 (cells + (hp_n h1 - hp_n h)) (slots + (hp_s h1 - hp_s h)) c0 s0 ls hA hP1 hS1 hl hdd hDD (by omega) (by omega) hR hRs hz
def gf_CM (y : gM) (n : Nat) : Prop := Cond.initialized y.1.cls ∈ tt ∧ Cond.code y.1 y.2.1 y.2.2.1 y.2.2.2.1 ∈ tt ∧ (y.1.cls ≠ "java/lang/invoke/MethodHandle" ∧ y.1.cls ≠ "java/lang/invoke/VarHandle" ∧ (parseMethodDescriptor y.1.desc).map (fun d => d.parameters.length) = some n) ∧ y.2.2.1 ≤ 41
theorem gf_callS {E : gE} {M y : gM} {d pc d1 n idx : Nat} {lv : List (Nat × Value)} {st rest As : List Value} {h h1 h' : hp_T} {v v1 : Option Value} (cm : gf_CM y n) (hl : Cond.methodLink M.1.cls idx y.1 ∈ tt) (hst : Cond.static y.1 ∈ tt) (hdg : decode M.2.1 pc = .ok (.invokestatic idx, 3)) (hd : d1 + 1 ≤ d) (ev1 : ev E y d1 As h v1 h1) (hn : As.length = n) (hstk : st = As.reverse ++ rest) (hw : (rest.map fun v => v.category).sum ≤ 8)
    (k : gf E M d (pc + 3) lv (v1.toList ++ rest) h1 v h') : gf E M d pc lv st h v h' :=
  gf_call ev1 hd (fun p l e R s m args below meth c H locs cells slots ls hA hP hl0 hdd hDD hU hf =>
    va_runS (n := n) ⟨hA.1, hA.2.1, hA.2.2.1, hA.2.2.2.2.1, hA.2.2.2.2.2.1⟩ (ev1.2.2 l) ⟨callB_of n hA.2.2.2.2.2.1 (lw_in cm.2.1) rfl rfl rfl (hA.2.2.2.2.2.1 _ cm.1) (hA.2.2.2.2.2.1 _ hl) cm.2.2.1 ⟨by show d1 + 1 ≤ R.frames; omega, by show 8 + (y.2.2.1 + 11) + 60 * d1 ≤ R.locals; have := cm.2.2.2; omega⟩, hA.2.2.2.2.2.1 _ hst⟩ ⟨ev_blind, hU⟩ rfl hn hl0.1 hstk (lv_room hw) hdg hf) k
theorem gf_callSN {E : gE} {M y : gM} {d pc d1 n idx : Nat} {host : String} {lv : List (Nat × Value)} {st rest As : List Value} {h h1 h' : hp_T} {v v1 : Option Value} (cm : gf_CM y n) (hl : (M.1.cls, idx, y.1, host) ∈ gf_nm) (hst : Cond.static y.1 ∈ tt) (hdg : decode M.2.1 pc = .ok (.invokestatic idx, 3)) (hd : d1 + 1 ≤ d) (ev1 : ev E y d1 As h v1 h1) (hn : As.length = n) (hstk : st = As.reverse ++ rest) (hw : (rest.map fun v => v.category).sum ≤ 8)
    (k : gf E M d (pc + 3) lv (v1.toList ++ rest) h1 v h') : gf E M d pc lv st h v h' :=
  gf_call ev1 hd (fun p l e R s m args below meth c H locs cells slots ls hA hP hl0 hdd hDD hU hf =>
    va_runSN (n := n) ⟨hA.1, hA.2.1, hA.2.2.1, hA.2.2.2.2.1, hA.2.2.2.2.2.1⟩ (ev1.2.2 l) ⟨va_cnB n hA.2.2.2.2.2.1 (lw_in cm.2.1) rfl rfl rfl (hA.2.2.2.2.2.2.2.1.2.2.2.2.1 _ hl) (hA.2.2.2.2.2.1 _ cm.1) cm.2.2.1 ⟨by show d1 + 1 ≤ R.frames; omega, by show 8 + (y.2.2.1 + 11) + 60 * d1 ≤ R.locals; have := cm.2.2.2; omega⟩, hA.2.2.2.2.2.1 _ hst, trivial⟩ ⟨ev_blind, hU⟩ rfl hn hl0.1 hstk (lv_room hw) hdg hf) k
theorem gf_callV {E : gE} {M y : gM} {d pc d1 n idx : Nat} {c a : Nat} {lv : List (Nat × Value)} {st rest As : List Value} {h h1 h' : hp_T} {v v1 : Option Value} (cm : gf_CM y n) (hl : Cond.methodLink M.1.cls idx y.1 ∈ tt) (him : Cond.instanceMethod y.1 ∈ tt) (hse : Cond.selects y.1.cls y.1 y.1 ∈ tt) (hcc : y.1.cls = hp_C c ∧ c < 13) (hdg : decode M.2.1 pc = .ok (.invokevirtual idx, 3)) (hd : d1 + 1 ≤ d) (ht : hp_tag h a = c) (ev1 : ev E y d1 (.ref (E.1 + a) :: As) h v1 h1) (hn : As.length = n) (hstk : st = As.reverse ++ .ref (E.1 + a) :: rest) (hw : (rest.map fun v => v.category).sum ≤ 8)
    (k : gf E M d (pc + 3) lv (v1.toList ++ rest) h1 v h') : gf E M d pc lv st h v h' :=
  gf_call ev1 hd (fun p l e R s m args below meth cc H locs cells slots ls hA hP hl0 hdd hDD hU hf =>
    va_runV (n := n) ⟨hA.1, hA.2.1, hA.2.2.1, hA.2.2.2.2.1, hA.2.2.2.2.2.1⟩ (ev1.2.2 l) ⟨callB_of n hA.2.2.2.2.2.1 (lw_in cm.2.1) rfl rfl rfl (hA.2.2.2.2.2.1 _ cm.1) (hA.2.2.2.2.2.1 _ hl) cm.2.2.1 ⟨by show d1 + 1 ≤ R.frames; omega, by show 8 + (y.2.2.1 + 11) + 60 * d1 ≤ R.locals; have := cm.2.2.2; omega⟩, hA.2.2.2.2.2.1 _ him, hA.2.2.2.2.2.1 _ hse⟩
      ⟨ev_blind, by rw [hcc.1]; exact va_recv hA.2.2.2.2.2.2.1 hP.2 (hp_cl c hcc.2) ((hp_get (hp_lt hP ht (by have := hcc.2; omega))).trans (by rw [hp_obj ht hcc.2])), hU⟩ rfl hn hl0.1 hstk (lv_room hw) hdg hf) k
theorem gf_callI {E : gE} {M y : gM} {d pc d1 n idx : Nat} {b : Nat} {lv : List (Nat × Value)} {st rest As : List Value} {h h1 h' : hp_T} {v v1 : Option Value} (cm : gf_CM y n) (hret : y.2.2.2.1 = none) (hl : Cond.methodLink M.1.cls idx y.1 ∈ tt) (him : Cond.instanceMethod y.1 ∈ tt) (hnm : y.1.name = "<init>") (hdg : decode M.2.1 pc = .ok (.invokespecial idx, 3)) (hd : d1 + 1 ≤ d) (ev1 : ev E y d1 (.ref b :: As) h v1 h1) (hn : As.length = n) (hstk : st = As.reverse ++ .ref b :: rest) (hw : (rest.map fun v => v.category).sum ≤ 8)
    (k : gf E M d (pc + 3) lv (v1.toList ++ rest) h1 v h') : gf E M d pc lv st h v h' :=
  gf_call ev1 hd (fun p l e R s m args below meth c H locs cells slots ls hA hP hl0 hdd hDD hU hf =>
    va_runI (n := n) (bytes := y.2.1) (maxL := y.2.2.1) ⟨hA.1, hA.2.1, hA.2.2.1, hA.2.2.2.2.1, hA.2.2.2.2.2.1⟩ (ev1.2.2 l) ⟨callB_of n hA.2.2.2.2.2.1 (lw_in cm.2.1) (by rw [hret]) rfl rfl (hA.2.2.2.2.2.1 _ cm.1) (hA.2.2.2.2.2.1 _ hl) cm.2.2.1 ⟨by show d1 + 1 ≤ R.frames; omega, by show 8 + (y.2.2.1 + 11) + 60 * d1 ≤ R.locals; have := cm.2.2.2; omega⟩, hnm, hA.2.2.2.2.2.1 _ him⟩ ⟨ev_blind, hU⟩ rfl hn hl0.1 hstk (lv_room hw) hdg hf) k
theorem gf_callIN {E : gE} {M y : gM} {d pc d1 n idx : Nat} {host : String} {b : Nat} {lv : List (Nat × Value)} {st rest As : List Value} {h h1 h' : hp_T} {v v1 : Option Value} (cm : gf_CM y n) (hret : y.2.2.2.1 = none) (hl : (M.1.cls, idx, y.1, host) ∈ gf_nm) (him : Cond.instanceMethod y.1 ∈ tt) (hnm : y.1.name = "<init>") (hdg : decode M.2.1 pc = .ok (.invokespecial idx, 3)) (hd : d1 + 1 ≤ d) (ev1 : ev E y d1 (.ref b :: As) h v1 h1) (hn : As.length = n) (hstk : st = As.reverse ++ .ref b :: rest) (hw : (rest.map fun v => v.category).sum ≤ 8)
    (k : gf E M d (pc + 3) lv (v1.toList ++ rest) h1 v h') : gf E M d pc lv st h v h' :=
  gf_call ev1 hd (fun p l e R s m args below meth c H locs cells slots ls hA hP hl0 hdd hDD hU hf =>
    va_runIN (n := n) (bytes := y.2.1) (maxL := y.2.2.1) ⟨hA.1, hA.2.1, hA.2.2.1, hA.2.2.2.2.1, hA.2.2.2.2.2.1⟩ (ev1.2.2 l) ⟨va_cnB n hA.2.2.2.2.2.1 (lw_in cm.2.1) (by rw [hret]) rfl rfl (hA.2.2.2.2.2.2.2.1.2.2.2.2.1 _ hl) (hA.2.2.2.2.2.1 _ cm.1) cm.2.2.1 ⟨by show d1 + 1 ≤ R.frames; omega, by show 8 + (y.2.2.1 + 11) + 60 * d1 ≤ R.locals; have := cm.2.2.2; omega⟩, hnm, hA.2.2.2.2.2.1 _ him⟩ ⟨ev_blind, hU⟩ rfl hn hl0.1 hstk (lv_room hw) hdg hf) k
section GN
variable {E : gE} {M : gM} {d pc : Nat} {lv : List (Nat × Value)} {rest : List Value} {h h' : hp_T} {v : Option Value}
theorem gf_objInit {idx a : Nat} (hl : Cond.methodLink M.1.cls idx Lib.objectInit ∈ tt) (him : Cond.instanceMethod Lib.objectInit ∈ tt) (hco : Cond.code Lib.objectInit ⟨#[0xb1]⟩ 1 none ∈ tt) (hdg : decode M.2.1 pc = .ok (.invokespecial idx, 3)) (hd : 1 ≤ d) (hw : (rest.map fun v => v.category).sum ≤ 8) (k : gf E M d (pc + 3) lv rest h v h') : gf E M d pc lv (.ref a :: rest) h v h' :=
  gf_step rfl rfl (fun p l e R s m args below meth cc H locs cells slots ls Q hA hP hS hl0 hd1 hD1 _ _ k9 =>
    W.objInit hA.1 hA.2.1 hA.2.2.2.2.1 (hA.2.2.2.2.2.1 _ hl) (hA.2.2.2.2.2.1 _ him) (hA.2.2.2.2.2.1 _ hco) rfl (hl0.1.trans hA.2.2.1.symm) rfl hdg (by omega) (by have := lv_room (m := m) (pc := pc) (ls := ls) (rest := .ref a :: rest) hw; omega) (k9 H locs ls hP hS hl0)) k
theorem gf_max {idx : Nat} {x y : Int32} (hl : Cond.methodLink M.1.cls idx Lib.Math.max.name ∈ tt) (hst : Cond.static Lib.Math.max.name ∈ tt) (hini : Cond.initialized "java/lang/Math" ∈ tt) (hco : Cond.code Lib.Math.max.name Lib.Math.max.code 2 (some .int) ∈ tt) (hdg : decode M.2.1 pc = .ok (.invokestatic idx, 3)) (hd : 1 ≤ d) (hw : (rest.map fun v => v.category).sum ≤ 8) (k : gf E M d (pc + 3) lv (.int (if x < y then y else x) :: rest) h v h') : gf E M d pc lv (.int y :: .int x :: rest) h v h' :=
  gf_step rfl rfl (fun p l e R s m args below meth cc H locs cells slots ls Q hA hP hS hl0 hd1 hD1 hc1 hs1 k9 =>
    va_mmax hA.1 hA.2.1 (hA.2.2.1.trans hl0.1.symm) hA.2.2.2.2.1 (hA.2.2.2.2.2.1 _ hl) (hA.2.2.2.2.2.1 _ hst) (hA.2.2.2.2.2.1 _ hini) (hA.2.2.2.2.2.1 _ hco) (by omega) (by omega) hc1 hs1 hdg (k9 H locs ls hP hS hl0)) k
theorem gf_min {idx : Nat} {x y : Int32} (hl : Cond.methodLink M.1.cls idx Lib.Math.min.name ∈ tt) (hst : Cond.static Lib.Math.min.name ∈ tt) (hini : Cond.initialized "java/lang/Math" ∈ tt) (hco : Cond.code Lib.Math.min.name Lib.Math.min.code 2 (some .int) ∈ tt) (hdg : decode M.2.1 pc = .ok (.invokestatic idx, 3)) (hd : 1 ≤ d) (hw : (rest.map fun v => v.category).sum ≤ 8) (k : gf E M d (pc + 3) lv (.int (if y < x then y else x) :: rest) h v h') : gf E M d pc lv (.int y :: .int x :: rest) h v h' :=
  gf_step rfl rfl (fun p l e R s m args below meth cc H locs cells slots ls Q hA hP hS hl0 hd1 hD1 hc1 hs1 k9 =>
    va_mmin hA.1 hA.2.1 (hA.2.2.1.trans hl0.1.symm) hA.2.2.2.2.1 (hA.2.2.2.2.2.1 _ hl) (hA.2.2.2.2.2.1 _ hst) (hA.2.2.2.2.2.1 _ hini) (hA.2.2.2.2.2.1 _ hco) (by omega) (by omega) hc1 hs1 hdg (k9 H locs ls hP hS hl0)) k
/-- an array of the class's that lies below the base -/
theorem gf_gets {idx k : Nat} (hk : k < 4) (hl : Cond.fieldLink M.1.cls idx "PlateCity" (gf_sn k) "[I" ∈ tt) (hdg : decode M.2.1 pc = .ok (.getstatic idx, 3)) (kk : gf E M d (pc + 3) lv (.ref (E.2.2.2 k) :: rest) h v h') : gf E M d pc lv rest h v h' :=
  gf_step rfl rfl (fun p l e R s m args below meth cc H locs cells slots ls Q hA hP hS hl0 _ _ _ _ k9 =>
    va_gets hA.1 hA.2.1 (hA.2.2.2.2.2.2.2.1.1 k hk).1 hS hA.2.2.2.2.1 (hA.2.2.2.2.2.1 _ hl) (fun _ h9 => h9) hdg (k9 H locs ls hP hS hl0)) kk
theorem gf_getsN {idx k : Nat} {host : String} (hk : k < 4) (hl : (M.1.cls, idx, "PlateCity", gf_sn k, "[I", host) ∈ gf_nf) (hdg : decode M.2.1 pc = .ok (.getstatic idx, 3)) (kk : gf E M d (pc + 3) lv (.ref (E.2.2.2 k) :: rest) h v h') : gf E M d pc lv rest h v h' :=
  gf_step rfl rfl (fun p l e R s m args below meth cc H locs cells slots ls Q hA hP hS hl0 _ _ _ _ k9 =>
    va_getsN hA.1 hA.2.1 (hA.2.2.2.2.2.2.2.1.1 k hk).1 hS hA.2.2.2.2.1 (va_Nw.use rfl (hA.2.2.2.2.2.2.2.1.2.2.2.2.2.1 _ hl)) (fun _ h9 => h9) hdg (k9 H locs ls hP hS hl0)) kk
theorem gf_sald {k j : Nat} {i : Int32} (hdg : decode M.2.1 pc = .ok (.iaload, 1)) (hk : k < 4) (hi : i = nI j) (hj : j < gf_sl k) (kk : gf E M d (pc + 1) lv (.int ((gf_sc k).getD j 0) :: rest) h v h') : gf E M d pc lv (.int i :: .ref (E.2.2.2 k) :: rest) h v h' := by
  obtain ⟨h1, h2⟩ := hp_ix hi hj (by rcases (show k = 0 ∨ k = 1 ∨ k = 2 ∨ k = 3 by omega) with rfl | rfl | rfl | rfl <;> decide)
  subst h2
  exact gf_step rfl rfl (fun p l e R s m args below meth cc H locs cells slots ls Q hA hP hS hl0 _ _ _ _ k9 =>
    va_ti hA.1 hA.2.1 (hA.2.2.2.2.2.2.2.1.1 k hk).2 hS h1 rfl hdg (k9 H locs ls hP hS hl0)) kk
theorem gf_salen {k : Nat} (hdg : decode M.2.1 pc = .ok (.arraylength, 1)) (hk : k < 4) (kk : gf E M d (pc + 1) lv (.int (nI (gf_sl k)) :: rest) h v h') : gf E M d pc lv (.ref (E.2.2.2 k) :: rest) h v h' :=
  gf_step rfl rfl (fun p l e R s m args below meth cc H locs cells slots ls Q hA hP hS hl0 _ _ _ _ k9 =>
    va_tlen hA.1 hA.2.1 (hA.2.2.2.2.2.2.2.1.1 k hk).2 hS rfl hdg (k9 H locs ls hP hS hl0)) kk
end GN
