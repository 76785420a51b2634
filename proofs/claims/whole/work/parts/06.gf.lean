/-! ===== the lifted judgement: 'gf': from this frame, over the abstract heap h, the method returns v and leaves h1; 'ev': the method as a whole ===== -/
/-- the tables' words that a callee may be given -/
def tt : List Cond := lw_tbl.filter goodWord
abbrev gM : Type := MethodName × ByteArray × Nat × Option FieldType × Bool
def gf_sn (k : Nat) : String := match k with
  | 0 => "ROW_STEP"
  | 1 => "COLUMN_STEP"
  | 2 => "RESIST"
  | _ => "FUEL"
def gf_sc (k : Nat) : List Int32 := match k with
  | 0 => [-1, -1, 0, 1, 1, 1, 0, -1]
  | 1 => [0, 1, 1, 1, 0, -1, -1, -1]
  | 2 => [40, 60, 100, 160]
  | _ => [15, 25, 40, 60]
def gf_sl (k : Nat) : Nat := match k with
  | 0 => 8
  | 1 => 8
  | _ => 4
def gf_tx (k : Nat) : String := match k with
  | 0 => "()*+,-/;<=>[]"
  | _ => "wall trade worth sum loss others near min max all office not and or cover void help pay premium beside first parts after "
def gf_ti (k : Nat) : Nat := match k with
  | 0 => 75
  | _ => 92
def gf_tb : List (List Int32) := [[40, 41, 42, 43, 44, 45, 47, 59, 60, 61, 62, 91, 93], [119, 97, 108, 108, 32, 116, 114, 97, 100, 101, 32, 119, 111, 114, 116, 104, 32, 115, 117, 109, 32, 108, 111, 115, 115, 32, 111, 116, 104, 101, 114, 115, 32, 110, 101, 97, 114, 32, 109, 105, 110, 32, 109, 97, 120, 32, 97, 108, 108, 32, 111, 102, 102, 105, 99, 101, 32, 110, 111, 116, 32, 97, 110, 100, 32, 111, 114, 32, 99, 111, 118, 101, 114, 32, 118, 111, 105, 100, 32, 104, 101, 108, 112, 32, 112, 97, 121, 32, 112, 114, 101, 109, 105, 117, 109, 32, 98, 101, 115, 105, 100, 101, 32, 102, 105, 114, 115, 116, 32, 112, 97, 114, 116, 115, 32, 97, 102, 116, 101, 114, 32]]
def gf_tl : List Nat := [13, 121]
/-- the private members that nest mates reach, and the array classes that are made by their components -/
def gf_nm : List (String × Nat × MethodName × String) := [("PlateCity", 18, ⟨"PlateCity$Engines", "<init>", "()V"⟩, "PlateCity"), ("PlateCity", 25, ⟨"PlateCity$Reader", "<init>", "()V"⟩, "PlateCity"), ("PlateCity", 32, ⟨"PlateCity$Acts", "<init>", "()V"⟩, "PlateCity"), ("PlateCity", 39, ⟨"PlateCity$Known", "<init>", "()V"⟩, "PlateCity"), ("PlateCity", 79, ⟨"PlateCity$Fall", "<init>", "()V"⟩, "PlateCity"), ("PlateCity", 9, ⟨"PlateCity$City", "<init>", "()V"⟩, "PlateCity"), ("PlateCity$Acts", 51, ⟨"PlateCity", "within", "(III)Z"⟩, "PlateCity"), ("PlateCity$City", 83, ⟨"PlateCity", "within", "(III)Z"⟩, "PlateCity"), ("PlateCity$Judge", 109, ⟨"PlateCity", "within", "(III)Z"⟩, "PlateCity")]
def gf_nf : List (String × Nat × String × String × String × String) := [("PlateCity$City", 77, "PlateCity", "ROW_STEP", "[I", "PlateCity"), ("PlateCity$City", 80, "PlateCity", "COLUMN_STEP", "[I", "PlateCity"), ("PlateCity$City", 91, "PlateCity", "RESIST", "[I", "PlateCity"), ("PlateCity$City", 94, "PlateCity", "FUEL", "[I", "PlateCity")]
def oa (ty : FieldType) (U : State) : Prop := (Cond.arrayOver ty).before #[] U = true
theorem oa_movedA {t : FieldType} {u U : State} (hvm : u.vm.Alike U.vm) (h : oa (.array t) u) : oa (.array t) U := by
  have h0 : (Cond.arrayOver (.array t)).holds #[] u none u [] = true := h
  simp only [Cond.holds, Cond.value, beq_iff_eq] at h0
  cases hc : u.vm.findClass (FieldType.array t).toString with
  | none => simp [hc] at h0
  | some comp =>
    simp only [hc, Option.bind_some, Option.bind_eq_some_iff, Option.map_eq_some_iff] at h0
    obtain ⟨c, hi, k, hk, hb⟩ := h0
    obtain ⟨k', hk', he⟩ := hvm.2.2 _ _ hk
    have hi2 : (U.vm.classes.findIdx? fun (x : Class) => match x.kind with | .array component _ => component == comp | _ => false) = some c := by
      have e1 := va_idx_bare U.vm comp
      have e2 := va_idx_bare u.vm comp
      first | rw [hvm.bare_eq] at e1 | rw [← hvm.bare_eq] at e1
      exact e1.symm.trans (e2.trans hi)
    have f1 : U.vm.findClass (FieldType.array t).toString = some comp := by rw [hvm.findClass]; exact hc
    have f2 : U.vm.findClass ("[" ++ (FieldType.array t).toString) = u.vm.findClass ("[" ++ (FieldType.array t).toString) := by rw [hvm.findClass]
    have hkind : k'.kind = k.kind := by rw [he]
    show (Cond.arrayOver (.array t)).holds #[] U none U [] = true
    simp only [Cond.holds, Cond.value]
    rw [f1, Option.bind_some]
    refine (congrArg (fun o : Option Nat => (o.bind (fun c => (U.vm.classes[c]?).map fun (k : Class) => match k.kind with | .array _ ty => decide (ty = FieldType.array t) && decide (U.vm.findClass ("[" ++ (FieldType.array t).toString) = some c) | _ => false) == some true)) hi2).trans ?_
    show (((U.vm.classes[c]?).map (fun (k : Class) => match k.kind with | .array _ ty => decide (ty = FieldType.array t) && decide (U.vm.findClass ("[" ++ (FieldType.array t).toString) = some c) | _ => false)) == some true) = true
    rw [hk']
    have hb2 : (match k'.kind with | .array _ ty => decide (ty = FieldType.array t) && decide (U.vm.findClass ("[" ++ (FieldType.array t).toString) = some c) | _ => false) = true := by
      rw [hkind, f2]
      exact hb
    exact (congrArg (fun b : Bool => (some b == some true)) hb2).trans rfl
/-- what lies below the base: four arrays of numbers, two texts -/
def gf_St (E : gE) (U : State) : Prop := (∀ k, k < 4 → va_Z "PlateCity" (gf_sn k) "[I" (.ref (E.2.2.2 k)) (gE_A E) U U.heap ∧ va_T .int (E.2.2.2 k) (gf_sl k) (fun j => .int ((gf_sc k).getD j 0)) (gE_A E) U U.heap) ∧ vk_S 2 gf_tl gf_tb (fun i => E.2.2.2 (4 + i)) (fun i => E.2.2.2 (6 + i)) (gE_A E) U U.heap ∧ (∀ k, k < 2 → vk_R "PlateCity$Reader" (gf_ti k) (gf_tx k) (E.2.2.2 (4 + k)) U) ∧ va_Z "java/lang/String" "COMPACT_STRINGS" "Z" (.int 1) (gE_A E) U U.heap ∧ (∀ q ∈ gf_nm, va_Nw (.methodLinkNest q.1 q.2.1 q.2.2.1 q.2.2.2) U) ∧ (∀ q ∈ gf_nf, va_Nw (.fieldLinkNest q.1 q.2.1 q.2.2.1 q.2.2.2.1 q.2.2.2.2.1 q.2.2.2.2.2) U) ∧ oa (.object RX10) U ∧ oa (.array .int) U ∧ oa (.array .long) U ∧ va_Zq "jdk/internal/util/Preconditions" "SIOOBE_FORMATTER" "Ljava/util/function/BiFunction;" (gE_A E) U U.heap ∧ va_Nw (.castable "[I" "java/lang/Cloneable") U
theorem gf_St_warm {E : gE} {s U : State} {H : Heap} {locs : List Loc} (h : gf_St E s) (hS : va_S (gE_A E) s.heap H locs) (hU : U.heap = H) (hW : s.WarmedH U.vm) : gf_St E U := by
  obtain ⟨h1, h2, h3, h4, h5, h6, h7, h8, h9, h10, h11⟩ := h
  subst hU
  have hq : ∀ a : Nat, a < s.heap.size → ¬ gE_A E a → U.heap[a]? = s.heap[a]? := hS.2.1
  exact ⟨fun k hk => ⟨((h1 k hk).1.moved hW.alike).kept hq, ((h1 k hk).2.moved hW.alike).kept hq⟩, (h2.moved hW.alike).kept hq, fun k hk => (h3 k hk).warm hW, (h4.moved hW.alike).kept hq, fun q hq => (h5 q hq).warmM hW, fun q hq => (h6 q hq).warmF hW, va_AO.moved hW.alike h7, oa_movedA hW.alike h8, oa_movedA hW.alike h9, (h10.moved hW.alike).kept hq, h11.warmC hW⟩
theorem gf_St_call {E : gE} {U : State} {g : JFrame} {mk : MethodId} {a : Array Value} (h : gf_St E U) : gf_St E (U.calling g mk a) := by
  obtain ⟨h1, h2, h3, h4, h5, h6, h7, h8, h9, h10, h11⟩ := h
  have hv : U.vm.Alike (U.calling g mk a).vm := Vm.Alike.refl U.vm
  exact ⟨fun k hk => ⟨(h1 k hk).1.moved hv, (h1 k hk).2.moved hv⟩, h2.moved hv, fun k hk => (h3 k hk).same rfl, h4.moved hv, fun q hq => (h5 q hq).same rfl rfl, fun q hq => (h6 q hq).same rfl rfl, va_AO.moved hv h7, oa_movedA hv h8, oa_movedA hv h9, h10.moved hv, h11.same rfl rfl⟩
/-- what holds in a method's frame -/
def gf_at (E : gE) (M : gM) (p : Program) (s : State) (m : MethodId) (args : Array Value) (meth : Method) (c : Code) : Prop :=
  p.tables.exec = Jvm.exec ∧ c.code = M.2.1 ∧ c.maxLocals = M.2.2.1 ∧ meth.sig.returnType = M.2.2.2.1 ∧ s.vm.findClass M.1.cls = some m.cls ∧ (∀ w ∈ tt, w.before args s = true) ∧ va_K E.2.1 vwCl (hp_tys E) s ∧ gf_St E s ∧ meth.locks = false ∧ (M.2.2.2.2 = true → meth.name = "<init>")
def gf_Qc (E : gE) (v : Option Value) (h' : hp_T) : Array Value → State → Outcome → State → Prop := fun _ st oc t => (oc = .returned v ∧ hp_P E h' t.heap) ∧ va_F (gE_A E) st t
def gf (E : gE) (M : gM) (d pc : Nat) (lv : List (Nat × Value)) (st : List Value) (h : hp_T) (v : Option Value) (h' : hp_T) : Prop :=
  hp_n h ≤ hp_n h' ∧ hp_s h ≤ hp_s h' ∧ ∀ (p : Program) (l : Launch) (e : Env) (R : Room) (s : State) (m : MethodId) (args : Array Value) (below : List Frame) (meth : Method) (c : Code) (H : Heap) (locs : List Loc) (cells slots c0 s0 : Nat) (ls : Array Slot),
    gf_at E M p s m args meth c → hp_P E h H → va_S (gE_A E) s.heap H locs → lv_has ls M.2.2.1 lv → d ≤ R.frames → 60 * d ≤ R.locals → cells + c0 = hp_n h → slots + s0 = hp_s h → hp_n h' ≤ R.cells + c0 → hp_s h' ≤ R.slots + s0 → s.heap.size = E.1 + c0 →
    W p l e R s m args below meth c H locs cells slots (MQ below (gf_Qc E v h') args s (hp_n h' - c0) (hp_s h' - s0) (gE_A E)) (F0 m pc ls st)
def ev_B (E : gE) (h : hp_T) (U : State) : Prop := hp_P E h U.heap ∧ va_K E.2.1 vwCl (hp_tys E) U ∧ gf_St E U ∧ U.heap.size = E.1 + hp_n h
def ev (E : gE) (M : gM) (d : Nat) (av : List Value) (h : hp_T) (v : Option Value) (h' : hp_T) : Prop :=
  hp_n h ≤ hp_n h' ∧ hp_s h ≤ hp_s h' ∧ ∀ l : Launch, Met l M.1 (.code M.1 M.2.1 M.2.2.1 M.2.2.2.1 :: tt) { frames := d, cells := hp_n h' - hp_n h, slots := hp_s h' - hp_s h, locals := 60 * d } (va_Pc av (ev_B E h)) (gf_Qc E v h') (hp_n h' - hp_n h) (hp_s h' - hp_s h) (gE_A E)
set_option maxHeartbeats 1000000 in
theorem ev_of {E : gE} {M : gM} {d : Nat} {av : List Value} {h h' : hp_T} {v : Option Value} (hy : plainName M.1.cls = true) (hi : M.2.2.2.2 = true → M.1.name = "<init>") (hl : (lg_sl av).length ≤ M.2.2.1) (k : gf E M d 0 (lv_args 0 av) [] h v h') : ev E M d av h v h' := by
  refine ⟨k.1, k.2.1, fun l => ?_⟩
  refine Met.ofW (cc := M.2.1) (maxL := M.2.2.1) (ret := M.2.2.2.1) hy rfl ?_
  intro p e s m args below meth c s₁ B hml hv
  obtain ⟨rfl, hP, hK, hSt, hz⟩ := hv
  have hts0 := atoms_spec (ws := .code M.1 M.2.1 M.2.2.1 M.2.2.2.1 :: tt) B.pre
  have hts : ∀ w ∈ tt, w.before av.toArray s = true := fun w hw => hts0 w (List.mem_cons_of_mem _ hw)
  have hown : s.vm.findClass M.1.cls = some m.cls := findClass_of_methodNamed B.named
  have hin : meth.name = M.1.name := (name_of_methodNamed B.named B.method).1
  have hA : gf_at E M p s m av.toArray meth c := ⟨B.exec, B.bytes, hml, B.returns, hown, hts, hK, hSt, B.notSynchronized, fun q => hin.trans (hi q)⟩
  have hl0 := lv_entry av (n := M.2.2.1) hl
  rw [lg_entry_eq]
  generalize (lg_sl av ++ List.replicate (M.2.2.1 - (lg_sl av).length) Slot.unset).toArray = ls at hl0 ⊢
  have k3 := k.2.2 p l e (headSpec (.code M.1 M.2.1 M.2.2.1 M.2.2.2.1 :: tt) { frames := d, cells := hp_n h' - hp_n h, slots := hp_s h' - hp_s h, locals := 60 * d }).room s m av.toArray below meth c s.heap [] 0 0 (hp_n h) (hp_s h) ls hA hP va_S.rf hl0
    (Nat.le_refl d) (Nat.le_refl _) (Nat.zero_add _) (Nat.zero_add _)
    (show hp_n h' ≤ (hp_n h' - hp_n h) + hp_n h by have := k.1; omega) (show hp_s h' ≤ (hp_s h' - hp_s h) + hp_s h by have := k.2.1; omega) hz
  exact k3
/-- an instruction that stays in the frame and makes no cell -/
theorem gf_step {E : gE} {M : gM} {d pc pc' : Nat} {lv lv' : List (Nat × Value)} {st st' : List Value} {h h1 h' : hp_T} {v : Option Value} (hn : hp_n h1 = hp_n h) (hs : hp_s h1 = hp_s h)
    (f : ∀ (p : Program) (l : Launch) (e : Env) (R : Room) (s : State) (m : MethodId) (args : Array Value) (below : List Frame) (meth : Method) (c : Code) (H : Heap) (locs : List Loc) (cells slots : Nat) (ls : Array Slot) (Q : State → Prop), gf_at E M p s m args meth c → hp_P E h H → va_S (gE_A E) s.heap H locs → lv_has ls M.2.2.1 lv → d ≤ R.frames → 60 * d ≤ R.locals → cells ≤ R.cells → slots ≤ R.slots →
      (∀ (H1 : Heap) (locs1 : List Loc) (ls1 : Array Slot), hp_P E h1 H1 → va_S (gE_A E) s.heap H1 locs1 → lv_has ls1 M.2.2.1 lv' → W p l e R s m args below meth c H1 locs1 cells slots Q (F0 m pc' ls1 st')) → W p l e R s m args below meth c H locs cells slots Q (F0 m pc ls st))
    (k : gf E M d pc' lv' st' h1 v h') : gf E M d pc lv st h v h' := by
  refine ⟨by rw [← hn]; exact k.1, by rw [← hs]; exact k.2.1, fun p l e R s m args below meth c H locs cells slots c0 s0 ls hA hP hS hl hd hD hc hsl hR hRs hz => ?_⟩
  have k1 := k.1
  have k2 := k.2.1
  refine f p l e R s m args below meth c H locs cells slots ls _ hA hP hS hl hd hD (by omega) (by omega) (fun H1 locs1 ls1 hP1 hS1 hl1 => ?_)
  exact k.2.2 p l e R s m args below meth c H1 locs1 cells slots c0 s0 ls1 hA hP1 hS1 hl1 hd hD (by rw [hn]; exact hc) (by rw [hs]; exact hsl) hR hRs hz
/-- .. and leaves the heap -/
theorem gf_pure {E : gE} {M : gM} {d pc pc' : Nat} {lv lv' : List (Nat × Value)} {st st' : List Value} {h h' : hp_T} {v : Option Value}
    (f : ∀ {p : Program} {l : Launch} {e : Env} {R : Room} {s : State} {m : MethodId} {args : Array Value} {below : List Frame} {meth : Method} {c : Code} {H : Heap} {locs : List Loc} {cells slots : Nat} {ls : Array Slot} {Q : State → Prop}, gf_at E M p s m args meth c → lv_has ls M.2.2.1 lv →
      (∀ ls1 : Array Slot, lv_has ls1 M.2.2.1 lv' → W p l e R s m args below meth c H locs cells slots Q (F0 m pc' ls1 st')) → W p l e R s m args below meth c H locs cells slots Q (F0 m pc ls st))
    (k : gf E M d pc' lv' st' h v h') : gf E M d pc lv st h v h' :=
  gf_step rfl rfl (fun _ _ _ _ _ _ _ _ _ _ _ _ _ _ _ _ hA hP hS hl _ _ _ _ kk => f hA hl (fun ls1 hl1 => kk _ _ ls1 hP hS hl1)) k
