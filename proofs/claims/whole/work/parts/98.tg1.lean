/-! ===== arrays of arrays: the row multianewarray with two counts ===== -/
theorem oa_use {t : FieldType} {u : State} (h : oa (.array t) u) : ∃ (comp c : ClassId) (k : Class), u.vm.findClass (FieldType.array t).toString = some comp ∧ u.vm.classes[c]? = some k ∧ k.kind = .array comp (.array t) ∧ u.vm.findClass ("[" ++ (FieldType.array t).toString) = some c := by
  have h0 : (Cond.arrayOver (.array t)).holds #[] u none u [] = true := h
  simp only [Cond.holds, Cond.value, beq_iff_eq] at h0
  cases hc : u.vm.findClass (FieldType.array t).toString with
  | none => simp [hc] at h0
  | some comp =>
    simp only [hc, Option.bind_some, Option.bind_eq_some_iff, Option.map_eq_some_iff] at h0
    obtain ⟨c, hi, k, hk, hb⟩ := h0
    obtain ⟨hlt, hp, -⟩ := Array.findIdx?_eq_some_iff_getElem.mp hi
    rw [(Array.getElem?_eq_some_iff.mp hk).2] at hp
    cases hkind : k.kind with
    | array component ty =>
      rw [hkind] at hb hp
      simp at hb hp
      exact ⟨comp, c, k, rfl, hk, by rw [hkind, hp, hb.1], hb.2⟩
    | _ => rw [hkind] at hb; simp at hb
/-- what the outer array holds when i rows are made -/
def mnF (b i : Nat) : Nat → Value := fun j => if j < i then .ref (b + 1 + j) else .null
theorem mn_st (cA : ClassId) (b n i : Nat) : (arrV cA n (mnF b i)).setSlot i (.ref (b + 1 + i)) = arrV cA n (mnF b (i + 1)) := by
  rw [arrV_store]
  refine congrArg (arrV cA n) (funext fun j => ?_)
  unfold updV mnF
  by_cases e : j = i
  · rw [if_pos e, if_pos (by omega), e]
  · rw [if_neg e]
    by_cases q : j < i
    · rw [if_pos q, if_pos (by omega)]
    · rw [if_neg q, if_neg (by omega)]
/-- the state when i rows are made -/
def mnT (S : State) (cA cC : ClassId) (n w : Nat) (dv : Value) : Nat → State
  | 0 => S.pushCell (arrV cA n (mnF S.heap.size 0))
  | i + 1 => ((mnT S cA cC n w dv i).pushCell (arrV cC w (fun _ => dv))).setCell S.heap.size (arrV cA n (mnF S.heap.size (i + 1)))
theorem mnT_f (S : State) (cA cC : ClassId) (n w : Nat) (dv : Value) : ∀ i, (mnT S cA cC n w dv i).heap.size = S.heap.size + 1 + i ∧ (mnT S cA cC n w dv i).heap[S.heap.size]? = some (arrV cA n (mnF S.heap.size i)) ∧ (mnT S cA cC n w dv i).vm = S.vm ∧ (mnT S cA cC n w dv i).slotsUsed = S.slotsUsed + n + i * w
  | 0 => ⟨by simp [mnT], by simp [mnT], rfl, by simp [mnT, arrV_size]⟩
  | i + 1 => by
    obtain ⟨a, b, c, u⟩ := mnT_f S cA cC n w dv i
    have hlt : S.heap.size < (mnT S cA cC n w dv i).heap.size := by omega
    have hb : ((mnT S cA cC n w dv i).pushCell (arrV cC w (fun _ => dv))).heap[S.heap.size]? = some (arrV cA n (mnF S.heap.size i)) := by
      rw [State.heap_pushCell_of_lt (h := hlt)]
      exact b
    refine ⟨?_, State.heap_setCell_self hb, by simp [mnT, c], ?_⟩
    · simp [mnT, State.setCell, a]; omega
    · simp [mnT, u, arrV_size, Nat.succ_mul]; omega
theorem mnT_top (S : State) (f : JFrame) (cA cC : ClassId) (n w : Nat) (dv : Value) : ∀ i, mnT (S.setTop f) cA cC n w dv i = (mnT S cA cC n w dv i).setTop f
  | 0 => rfl
  | i + 1 => by simp only [mnT, mnT_top S f cA cC n w dv i, State.heap_setTop, State.pushCell_setTop, State.setCell_setTop]
theorem mnT_old (S : State) (cA cC : ClassId) (n w : Nat) (dv : Value) {a : Addr} (ha : a < S.heap.size) : ∀ i, (mnT S cA cC n w dv i).heap[a]? = S.heap[a]?
  | 0 => State.heap_pushCell_of_lt _ _ ha
  | i + 1 => by
    have f1 := (mnT_f S cA cC n w dv i).1
    have hlt : a < (mnT S cA cC n w dv i).heap.size := Nat.lt_of_lt_of_le ha (by rw [f1]; omega)
    show (((mnT S cA cC n w dv i).pushCell (arrV cC w (fun _ => dv))).setCell S.heap.size _).heap[a]? = _
    rw [State.heap_setCell_other (Nat.ne_of_gt ha), State.heap_pushCell_of_lt (h := hlt)]
    exact mnT_old S cA cC n w dv ha i
theorem mnT_row (S : State) (cA cC : ClassId) (n w : Nat) (dv : Value) : ∀ i j, j < i → (mnT S cA cC n w dv i).heap[S.heap.size + 1 + j]? = some (arrV cC w (fun _ => dv))
  | 0, _, h => absurd h (Nat.not_lt_zero _)
  | i + 1, j, h => by
    have f1 := (mnT_f S cA cC n w dv i).1
    show (((mnT S cA cC n w dv i).pushCell (arrV cC w (fun _ => dv))).setCell S.heap.size _).heap[S.heap.size + 1 + j]? = _
    rw [State.heap_setCell_other (show S.heap.size ≠ S.heap.size + 1 + j by omega)]
    by_cases hj : j < i
    · have hlt : S.heap.size + 1 + j < (mnT S cA cC n w dv i).heap.size := by omega
      rw [State.heap_pushCell_of_lt (h := hlt)]
      exact mnT_row S cA cC n w dv i j hj
    · have e : j = i := by omega
      subst e
      rw [← f1]
      exact State.heap_pushCell_size _ _
section MNW
variable {E : CtlPost} {e : Env} {d : Bool} {acts : List Action} {S : State}
theorem mn_w1 {cC cc : ClassId} {kc : Class} {ty : FieldType} {k : Int32} (hkc : S.vm.classes[cC]? = some kc) (hkind : kc.kind = .array cc ty) (hk : ¬ k < 0) (hl : ¬ k.toNatClampNeg > e.platform.arrayLengthLimit) (hh : ¬ k.toNatClampNeg * componentBytes ty > e.platform.maxHeapBytes) (hf : fits ty (defaultValue ty) = true) (h1 : S.heap.size < e.platform.maxCells) (h2 : S.slotsUsed + k.toNatClampNeg ≤ e.platform.maxSlots) {Q : Addr → Pre} (hq : ∀ acts', Q S.heap.size d acts' (S.pushCell (arrV cC k.toNatClampNeg (fun _ => defaultValue ty)))) : wp (multianewarray.make cC [k]) Q E e d acts S := by
  rw [multianewarray.make]
  simp only [wp_bind', W.ite, hk, if_false, wp_pure', W.theClass, hkc, hkind, Option.some.injEq, exists_eq_left']
  refine W.newArray_of hkc hkind hl hh h1 h2 hf (fun a' => ?_)
  rw [arrV_new]
  exact hq a'
/-- a loop over 0 .. n - 1 that goes from the state F i to F (i + 1) -/
theorem mn_for {f : Nat → PUnit → Sem (ForInStep PUnit)} {F : Nat → State} {n : Nat} (hf : ∀ i, i < n → ∀ (d1 : Bool) (a1 : List Action) (Q1 : ForInStep PUnit → Pre), (∀ d2 a2, Q1 (ForInStep.yield PUnit.unit) d2 a2 (F (i + 1))) → wp (f i PUnit.unit) Q1 E e d1 a1 (F i)) : ∀ (k i : Nat) (d1 : Bool) (a1 : List Action) (Q1 : PUnit → Pre), i + k = n → (∀ d2 a2, Q1 PUnit.unit d2 a2 (F n)) → wp (forIn (List.range' i k) PUnit.unit f) Q1 E e d1 a1 (F i) := by
  intro k
  induction k with
  | zero =>
    intro i d1 a1 Q1 hi hQ
    have e1 : i = n := by omega
    subst e1
    simp only [List.range'_zero, List.forIn_nil, wp_pure']
    exact hQ _ _
  | succ k ih =>
    intro i d1 a1 Q1 hi hQ
    simp only [List.range'_succ, List.forIn_cons, wp_bind']
    exact hf i (by omega) d1 a1 _ (fun d2 a2 => ih (i + 1) d2 a2 Q1 (by omega) hQ)
theorem mn_w2 {cA cC cc : ClassId} {ka kc : Class} {ty : FieldType} {n k : Int32} (hka : S.vm.classes[cA]? = some ka) (hkinda : ka.kind = .array cC (.array ty)) (hkc : S.vm.classes[cC]? = some kc) (hkind : kc.kind = .array cc ty) (hn : ¬ n < 0) (hk : ¬ k < 0) (hl1 : ¬ n.toNatClampNeg > e.platform.arrayLengthLimit) (hh1 : ¬ n.toNatClampNeg * componentBytes (.array ty) > e.platform.maxHeapBytes) (hl : ¬ k.toNatClampNeg > e.platform.arrayLengthLimit) (hh : ¬ k.toNatClampNeg * componentBytes ty > e.platform.maxHeapBytes) (hf : fits ty (defaultValue ty) = true) (h1 : S.heap.size + 1 + n.toNatClampNeg ≤ e.platform.maxCells) (h2 : S.slotsUsed + n.toNatClampNeg + n.toNatClampNeg * k.toNatClampNeg ≤ e.platform.maxSlots) {Q : Addr → Pre} (hq : ∀ d' acts', Q S.heap.size d' acts' (mnT S cA cC n.toNatClampNeg k.toNatClampNeg (defaultValue ty) n.toNatClampNeg)) : wp (multianewarray.make cA [n, k]) Q E e d acts S := by
  have hz : ([k].find? (· < 0)) = none := by simp [hk]
  have hr : S.slotsUsed + n.toNatClampNeg ≤ e.platform.maxSlots := Nat.le_trans (Nat.le_add_right _ _) h2
  rw [multianewarray.make]
  simp only [wp_bind', W.ite, hn, if_false, wp_pure', W.theClass, hka, hkinda, Option.some.injEq, exists_eq_left']
  refine W.newArray_of hka hkinda hl1 hh1 (by omega) hr rfl (fun a1 => ?_)
  have e0 : S.pushCell ({ cls := cA, slots := Array.replicate n.toNatClampNeg .null } : Cell) = mnT S cA cC n.toNatClampNeg k.toNatClampNeg (defaultValue ty) 0 := by
    rw [arrV_new]
    exact congrArg S.pushCell (congrArg (arrV cA n.toNatClampNeg) (funext fun j => (if_neg (Nat.not_lt_zero j)).symm))
  rw [e0]
  simp only [hz, ite_self, wp_bind', Std.Legacy.Range.forIn_eq_forIn_range']
  have hs : ([:n.toNatClampNeg] : Std.Legacy.Range).size = n.toNatClampNeg := by simp [Std.Legacy.Range.size]
  rw [hs]
  refine mn_for (F := mnT S cA cC n.toNatClampNeg k.toNatClampNeg (defaultValue ty)) (fun i hi d1 a3 Q1 hQ1 => ?_) n.toNatClampNeg 0 d a1 _ (Nat.zero_add _) (fun d2 a2 => by
    simp only [wp_pure']
    exact hq d2 a2)
  obtain ⟨f1, f2, f3, f4⟩ := mnT_f S cA cC n.toNatClampNeg k.toNatClampNeg (defaultValue ty) i
  have hm : (i + 1) * k.toNatClampNeg ≤ n.toNatClampNeg * k.toNatClampNeg := Nat.mul_le_mul_right _ hi
  rw [Nat.succ_mul] at hm
  have hlt : S.heap.size < (mnT S cA cC n.toNatClampNeg k.toNatClampNeg (defaultValue ty) i).heap.size := by omega
  simp only [wp_bind']
  refine mn_w1 (by rw [f3]; exact hkc) hkind hk hl hh hf (by rw [f1]; omega) (by rw [f4]; omega) (fun a2 => ?_)
  have e1 : ((mnT S cA cC n.toNatClampNeg k.toNatClampNeg (defaultValue ty) i).pushCell (arrV cC k.toNatClampNeg (fun _ => defaultValue ty))).heap[S.heap.size]? = some (arrV cA n.toNatClampNeg (mnF S.heap.size i)) := by
    rw [State.heap_pushCell_of_lt (h := hlt)]
    exact f2
  simp only [wp_bind', W.writeLoc, wp_pure']
  refine ⟨_, e1, by simp [arrV], by rw [arrV_size]; exact hi, ?_, ?_⟩
  · simp [arrV, State.fitsSlot, State.slotType?, f3, hka, hkinda]
    rfl
  · rw [f1, mn_st]
    exact hQ1 _ _
end MNW
section MNS
variable {p : Program} {l : Launch} {e : Env} {R : Room} {s : State} {m : MethodId} {args : Array Value} {below : List Frame} {meth : Method} {c : Code} {T : State} {locs : List Loc} {cells slots : Nat}
theorem mnT_stand (X : Stand p l e R s m args below meth c T locs cells slots) (cA cC : ClassId) (n w : Nat) (dv : Value) : ∀ i, Stand p l e R s m args below meth c (mnT T cA cC n w dv i) (locs ++ (List.range i).map fun j => ⟨T.heap.size, j⟩) (cells + 1 + i) (slots + n + i * w)
  | 0 => by
    have h := X.pushed (arrV cA n (mnF T.heap.size 0))
    rw [arrV_size] at h
    simpa [mnT] using h
  | i + 1 => by
    have Xi := mnT_stand X cA cC n w dv i
    obtain ⟨f1, f2, f3, f4⟩ := mnT_f T cA cC n w dv i
    have hlt0 : T.heap.size < (mnT T cA cC n w dv i).heap.size := by rw [f1]; omega
    have hcell : ((mnT T cA cC n w dv i).pushCell (arrV cC w (fun _ => dv))).heap[T.heap.size]? = some (arrV cA n (mnF T.heap.size i)) := by
      rw [State.heap_pushCell_of_lt (h := hlt0)]
      exact f2
    have h := (Xi.pushed (arrV cC w (fun _ => dv))).stored hcell i (.ref (T.heap.size + 1 + i))
    rw [arrV_size, mn_st] at h
    have e2 : (locs ++ (List.range (i + 1)).map fun j => (⟨T.heap.size, j⟩ : Loc)) = (locs ++ (List.range i).map fun j => (⟨T.heap.size, j⟩ : Loc)) ++ [⟨T.heap.size, i⟩] := by simp [List.range_succ, List.append_assoc]
    have e3 : slots + n + (i + 1) * w = slots + n + i * w + w := by rw [Nat.succ_mul]; omega
    rw [e2, e3]
    exact h
theorem mn_steps (X : Stand p l e R s m args below meth c T locs cells slots) (hexec : p.tables.exec = Jvm.exec) {own : String} {index : Nat} {ty : FieldType} (hown : s.vm.findClass own = some m.cls) (hclink : (Cond.classLink own index ("[" ++ (FieldType.array ty).toString)).before args s = true) (hover : oa (.array ty) s) (harr : (Cond.arrayClass ty).before args s = true) {g : JFrame} (hg : g.method = m) (hdg : decode c.code g.pc = .ok (.multianewarray index 2, 4)) {n k : Int32} {rest : List Value} (hstack : g.stack = .int k :: .int n :: rest) (hn : ¬ n < 0) (hk : ¬ k < 0) (hb1 : n.toNatClampNeg * 4 ≤ 536870912) (hb2 : k.toNatClampNeg * componentBytes ty ≤ 536870912) (hb3 : k.toNatClampNeg ≤ 536870912) (hf : fits ty (defaultValue ty) = true) (hcells : cells + (1 + n.toNatClampNeg) ≤ R.cells) (hslots : slots + (n.toNatClampNeg + n.toNatClampNeg * k.toNatClampNeg) ≤ R.slots) : ∃ (vm₁ : Vm) (cA cC : ClassId), s.vm.findClass ("[" ++ (FieldType.array ty).toString) = some cA ∧ s.vm.findClass (FieldType.array ty).toString = some cC ∧ Stand p l e R s m args below meth c (mnT (T.setVm vm₁) cA cC n.toNatClampNeg k.toNatClampNeg (defaultValue ty) n.toNatClampNeg) locs (cells + 1 + n.toNatClampNeg) (slots + n.toNatClampNeg + n.toNatClampNeg * k.toNatClampNeg) ∧ ∀ target, Steps p.tables e below ((mnT (T.setVm vm₁) cA cC n.toNatClampNeg k.toNatClampNeg (defaultValue ty) n.toNatClampNeg).setTop { g with pc := g.pc + 4, stack := .ref T.heap.size :: rest }) target → Steps p.tables e below (T.setTop g) target := by
  subst hg
  have hpl : e.platform.magicAccessors = ({} : Platform).magicAccessors := by rw [X.admits.platform]
  obtain ⟨cC, cA, kA, hcomp, hkA, hkindA, hnameA⟩ := oa_use hover
  obtain ⟨cC', kC, cc, hcomp', hkC, hkindC⟩ := Cond.arrayClass_spec harr
  have ecomp : cC' = cC := Option.some.inj (hcomp'.symm.trans hcomp)
  subst ecomp
  obtain ⟨c0, hfc0, hcl⟩ := Cond.classLink_spec hown hclink e.platform hpl
  cases hnameA.symm.trans hfc0
  obtain ⟨hg₁, hwarm₁, -⟩ := State.classEntry (e := e) X.warmed hcl
  generalize T.vm.noted g.method.cls index (.cls cA) = vm₁ at hg₁ hwarm₁
  have hal : s.vm.Alike vm₁ := hwarm₁.alike
  obtain ⟨kA₁, hkA₁, heA⟩ := hal.2.2 _ _ hkA
  obtain ⟨kC₁, hkC₁, heC⟩ := hal.2.2 _ _ hkC
  have hkindA₁ : kA₁.kind = .array cC' (.array ty) := by rw [heA]; exact hkindA
  have hkindC₁ : kC₁.kind = .array cc ty := by rw [heC]; exact hkindC
  have X₁ := X.noted hwarm₁
  obtain ⟨hr1, hr2⟩ := X.roomAbove hcells hslots
  have XF := mnT_stand X₁ cA cC' n.toNatClampNeg k.toNatClampNeg (defaultValue ty) n.toNatClampNeg
  refine ⟨vm₁, cA, cC', hnameA, hcomp, XF.dropFresh (fun x hx => ?_), fun target hrest => ?_⟩
  · obtain ⟨j, -, rfl⟩ := List.mem_map.mp hx
    exact X.heapGrown
  have hl1 : ¬ n.toNatClampNeg > e.platform.arrayLengthLimit := by rw [Launch.admits_arrayLengthLimit X.admits]; omega
  have hh1 : ¬ n.toNatClampNeg * componentBytes (.array ty) > e.platform.maxHeapBytes := by
    rw [Launch.admits_maxHeapBytes X.admits]
    show ¬ n.toNatClampNeg * 4 > 536870912
    omega
  have hl2 : ¬ k.toNatClampNeg > e.platform.arrayLengthLimit := by rw [Launch.admits_arrayLengthLimit X.admits]; omega
  have hh2 : ¬ k.toNatClampNeg * componentBytes ty > e.platform.maxHeapBytes := by rw [Launch.admits_maxHeapBytes X.admits]; omega
  jvm_step X.here [hexec, hdg]
  simp only [multianewarray.sem, wp_bind', W.resolveClassAt_links (State.method?_setTop g X.here.top) hg₁]
  rw [W.popN, if_neg (by decide)]
  refine ⟨g, State.topJava?_setTop' (s := T.setVm vm₁) g X.here.top, [.int n, .int k], rest, rfl, hstack, ?_⟩
  simp only [List.mapM_cons, List.mapM_nil, wp_bind', wp_pure']
  refine mn_w2 hkA₁ hkindA₁ hkC₁ hkindC₁ hn hk hl1 hh1 hl2 hh2 hf (by show T.heap.size + 1 + _ ≤ _; omega) (by show T.slotsUsed + _ + _ ≤ _; omega) (fun d' acts' => ?_)
  have eS : ((T.setTop g).setVm vm₁).setTop { g with stack := rest } = (T.setVm vm₁).setTop { g with stack := rest } := by
    show ((T.setVm vm₁).setTop g).setTop _ = _
    rw [State.setTop_setTop]
  rw [eS, mnT_top]
  simp only [wp_bind', W.mark, W.pushRef, State.topJava?_setTop' _ XF.here.top, Option.some.injEq, exists_eq_left', State.setTop_setTop, State.heap_setTop]
  intro acts
  simp [jvm, XF.here.top]
  exact hrest
end MNS
