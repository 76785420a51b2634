/-! ===== arrays of arrays: cells put behind in one go ===== -/
/-- the cells L lie behind all others, and u places more are booked -/
def mrZ (T : State) (L : List Cell) (u : Nat) : State := { T with heap := T.heap ++ L.toArray, slotsUsed := T.slotsUsed + u }
theorem mrZ_lo {T : State} {L : List Cell} {u x : Nat} (hx : x < T.heap.size) : (mrZ T L u).heap[x]? = T.heap[x]? := Array.getElem?_append_left hx
theorem mrZ_hi (T : State) (L : List Cell) (u y : Nat) : (mrZ T L u).heap[T.heap.size + y]? = L[y]? := by
  show (T.heap ++ L.toArray)[T.heap.size + y]? = L[y]?
  rw [Array.getElem?_append_right (Nat.le_add_right _ _), Nat.add_sub_cancel_left, List.getElem?_toArray]
theorem mrZ_n (T : State) (L : List Cell) (u : Nat) : (mrZ T L u).heap.size = T.heap.size + L.length := by
  show (T.heap ++ L.toArray).size = T.heap.size + L.length
  rw [Array.size_append]
  rfl
theorem mrZ_push (T : State) (L : List Cell) (u : Nat) (x : Cell) : (mrZ T L u).pushCell x = mrZ T (L ++ [x]) (u + x.slots.size) := by
  have q1 : (T.heap ++ L.toArray).push x = T.heap ++ (L ++ [x]).toArray := by rw [Array.push_append, List.push_toArray]
  show ({ T with heap := (T.heap ++ L.toArray).push x, slotsUsed := T.slotsUsed + u + x.slots.size } : State) = { T with heap := T.heap ++ (L ++ [x]).toArray, slotsUsed := T.slotsUsed + (u + x.slots.size) }
  rw [q1, Nat.add_assoc]
theorem mrZ_set (T : State) (L : List Cell) (u y : Nat) (x : Cell) : (mrZ T L u).setCell (T.heap.size + y) x = mrZ T (L.set y x) u := by
  have q1 : (T.heap ++ L.toArray).setIfInBounds (T.heap.size + y) x = T.heap ++ (L.set y x).toArray := by
    rw [Array.setIfInBounds_append_right (Nat.le_add_right _ _), Nat.add_sub_cancel_left, List.setIfInBounds_toArray]
  show ({ T with heap := (T.heap ++ L.toArray).setIfInBounds (T.heap.size + y) x, slotsUsed := T.slotsUsed + u } : State) = { T with heap := T.heap ++ (L.set y x).toArray, slotsUsed := T.slotsUsed + u }
  rw [q1]
/-- nothing that was there moves -/
theorem mrZ_same {T : State} {y : Thread} (hy : T.threads[T.cur]? = some y) {L : List Cell} {u : Nat} (hu : (L.map (·.slots.size)).sum = u) : T.sameButNew (mrZ T L u) [] L.length u := by
  have hz := mrZ_n T L u
  have hd : (mrZ T L u).heap.toList.drop T.heap.size = L := by
    show (T.heap ++ L.toArray).toList.drop T.heap.size = L
    rw [Array.toList_append, List.drop_left' Array.length_toList]
  have hf : T.setFrames (mrZ T L u).frames = T := State.setFrames_self hy
  unfold State.sameButNew
  rw [hd, hu, hf]
  exact ⟨rfl, by omega, by omega, rfl, Nat.le_refl u, fun a x hx => ⟨x, (mrZ_lo (Array.getElem?_eq_some_iff.mp hx).1).trans hx, rfl, rfl, fun _ _ => rfl⟩⟩
/-- the cells of an array of N rows of K places, when i rows are made -/
def mrL (B : Nat) (o q : ClassId) (N K : Nat) (z : Value) (i : Nat) : List Cell := arrV o N (fun j => if j < i then .ref (B + (1 + j)) else .null) :: List.replicate i (arrV q K (fun _ => z))
theorem mrL_n (B : Nat) (o q : ClassId) (N K : Nat) (z : Value) (i : Nat) : (mrL B o q N K z i).length = 1 + i := by
  unfold mrL
  rw [List.length_cons, List.length_replicate, Nat.add_comm]
theorem mrL_u (B : Nat) (o q : ClassId) (N K : Nat) (z : Value) (i : Nat) : ((mrL B o q N K z i).map (·.slots.size)).sum = N + i * K := by
  unfold mrL
  rw [List.map_cons, List.map_replicate, List.sum_cons, List.sum_replicate_nat, arrV_size, arrV_size]
theorem mrL_in (B : Nat) (o q : ClassId) (N K : Nat) (z : Value) {i j : Nat} (hj : j < i) : (mrL B o q N K z i)[1 + j]? = some (arrV q K (fun _ => z)) := by
  unfold mrL
  rw [Nat.add_comm, List.getElem?_cons_succ, List.getElem?_replicate_of_lt hj]
/-- a row is put behind and named in the outer array -/
theorem mrL_st (B : Nat) (o q : ClassId) (N K : Nat) (z : Value) (i : Nat) : (mrL B o q N K z i ++ [arrV q K (fun _ => z)]).set 0 ((arrV o N (fun j => if j < i then .ref (B + (1 + j)) else .null)).setSlot i (.ref (B + (1 + i)))) = mrL B o q N K z (i + 1) := by
  have q1 : updV (fun j => if j < i then Value.ref (B + (1 + j)) else .null) i (.ref (B + (1 + i))) = fun j => if j < i + 1 then Value.ref (B + (1 + j)) else .null := by
    funext j
    unfold updV
    dsimp only
    rcases Nat.lt_trichotomy j i with w1 | w1 | w1
    · rw [if_neg (Nat.ne_of_lt w1), if_pos w1, if_pos (Nat.lt_succ_of_lt w1)]
    · rw [if_pos w1, w1, if_pos (Nat.lt_succ_self i)]
    · rw [if_neg (Nat.ne_of_gt w1), if_neg (Nat.not_lt_of_gt w1), if_neg (by omega)]
  rw [arrV_store, q1]
  unfold mrL
  rw [List.cons_append, List.set_cons_zero, List.replicate_succ']
/-- a reference fits a place of the outer array -/
theorem mr_fit {U : State} {o q : ClassId} {ko : Class} {ty : FieldType} (h1 : U.vm.classes[o]? = some ko) (h2 : ko.kind = .array q (.array ty)) (i : Nat) (a : Addr) : U.fitsSlot o .none i (.ref a) = true := by
  have h3 : U.slotType? o .none i = some (.array ty) := by
    unfold State.slotType?
    rw [h1]
    show (match ko.kind with | .array _ y => some y | _ => ko.instanceTypes[i]?) = some (FieldType.array ty)
    rw [h2]
  unfold State.fitsSlot
  rw [h3]
  rfl
section MRW
variable {E : CtlPost} {e : Env} {d : Bool} {acts : List Action} {S : State}
/-- so many places of this type can be had at all -/
def mrK (e : Env) (ty : FieldType) (N : Nat) : Prop := N ≤ e.platform.arrayLengthLimit ∧ N * componentBytes ty ≤ e.platform.maxHeapBytes
theorem mr_new {o q : ClassId} {ko : Class} {ty : FieldType} {z : Value} {N : Nat} (hko : S.vm.classes[o]? = some ko) (hkd : ko.kind = .array q ty) (hK : mrK e ty N) (hz : fits ty z = true) (r1 : S.heap.size + 1 ≤ e.platform.maxCells) (r2 : S.slotsUsed + N ≤ e.platform.maxSlots) {Q : Addr → Pre} (hq : ∀ a1, Q S.heap.size d a1 (S.pushCell (arrV o N (fun _ => z)))) : wp (Jvm.newArray o N z) Q E e d acts S :=
  W.newArray_of hko hkd (Nat.not_lt_of_le hK.1) (Nat.not_lt_of_le hK.2) r1 r2 hz (fun a1 => (arrV_new o N z).symm ▸ hq a1)
/-- a loop over i .. i + k - 1 that goes along the states F -/
theorem mr_for {f : Nat → PUnit → Sem (ForInStep PUnit)} {F : Nat → State} {n : Nat} (hf : ∀ i, i < n → ∀ (d1 : Bool) (a1 : List Action) (Q1 : ForInStep PUnit → Pre), (∀ d2 a2, Q1 (ForInStep.yield PUnit.unit) d2 a2 (F (i + 1))) → wp (f i PUnit.unit) Q1 E e d1 a1 (F i)) : ∀ (k i : Nat) (d1 : Bool) (a1 : List Action) (Q1 : PUnit → Pre), i + k = n → (∀ d2 a2, Q1 PUnit.unit d2 a2 (F n)) → wp (forIn (List.range' i k) PUnit.unit f) Q1 E e d1 a1 (F i) := by
  intro k
  induction k with
  | zero =>
    intro i d1 a1 Q1 hi hQ
    have e1 : i = n := by omega
    subst e1
    simp only [List.range'_zero, List.forIn_nil, wp_pure']
    exact hQ _ _
  | succ k ih =>
    intro i d1 a1 Q1 hi hQ
    simp only [List.range'_succ, List.forIn_cons, wp_bind']
    exact hf i (by omega) d1 a1 _ (fun d2 a2 => ih (i + 1) d2 a2 Q1 (by omega) hQ)
/-- both counts: the outer array, then row by row -/
theorem mr_make {o q r : ClassId} {ko kq : Class} {ty : FieldType} {n k : Int32} {N K : Nat} (eN : n.toNatClampNeg = N) (eK : k.toNatClampNeg = K) (hko : S.vm.classes[o]? = some ko) (hod : ko.kind = .array q (.array ty)) (hkq : S.vm.classes[q]? = some kq) (hqd : kq.kind = .array r ty) (hn : ¬ n < 0) (hk : ¬ k < 0) (hN : mrK e (.array ty) N) (hK : mrK e ty K) {z : Value} (ez : defaultValue ty = z) (hz : fits ty z = true) (r1 : S.heap.size + (1 + N) ≤ e.platform.maxCells) (r2 : S.slotsUsed + (N + N * K) ≤ e.platform.maxSlots) {Q : Addr → Pre} (hq : ∀ d1 a1, Q S.heap.size d1 a1 (mrZ S (mrL S.heap.size o q N K z N) (N + N * K))) : wp (multianewarray.make o [n, k]) Q E e d acts S := by
  have hrow : ∀ i, i < N → ∀ (d1 : Bool) (a1 : List Action) (Q1 : Addr → Pre), (∀ a2, Q1 (S.heap.size + (1 + i)) d1 a2 (mrZ S (mrL S.heap.size o q N K z i ++ [arrV q K (fun _ => z)]) (N + i * K + K))) → wp (multianewarray.make q [k]) Q1 E e d1 a1 (mrZ S (mrL S.heap.size o q N K z i) (N + i * K)) := by
    intro i hi d1 a1 Q1 h1
    have u1 : i * K + K ≤ N * K := by
      rw [← Nat.succ_mul]
      exact Nat.mul_le_mul_right K hi
    have u2 : (mrZ S (mrL S.heap.size o q N K z i) (N + i * K)).heap.size = S.heap.size + (1 + i) := by rw [mrZ_n, mrL_n]
    unfold multianewarray.make
    simp only [wp_bind', wp_pure', W.ite, W.theClass, hk, if_false]
    refine ⟨kq, hkq, ?_⟩
    rw [hqd, eK]
    show wp (Jvm.newArray q K (defaultValue ty)) Q1 E e d1 a1 (mrZ S (mrL S.heap.size o q N K z i) (N + i * K))
    rw [ez]
    refine mr_new (S := mrZ S (mrL S.heap.size o q N K z i) (N + i * K)) hkq hqd hK hz (by rw [u2]; omega) (by show S.slotsUsed + (N + i * K) + K ≤ _; omega) (fun a2 => ?_)
    rw [mrZ_push, arrV_size, u2]
    exact h1 a2
  have hbeg : S.pushCell (arrV o N (fun _ => .null)) = mrZ S (mrL S.heap.size o q N K z 0) (N + 0 * K) := by
    have q1 := mrZ_push S [] 0 (arrV o N (fun _ => .null))
    have q2 : mrZ S [] 0 = S := by
      show ({ S with heap := S.heap ++ #[], slotsUsed := S.slotsUsed + 0 } : State) = S
      rw [Array.append_empty]
      rfl
    rw [q2, arrV_size, Nat.zero_add] at q1
    rw [q1, Nat.zero_mul, Nat.add_zero]
    exact congrArg (fun y => mrZ S [arrV o N y] N) (funext fun j => (if_neg (Nat.not_lt_zero j)).symm)
  unfold multianewarray.make
  simp only [wp_bind', wp_pure', W.ite, W.theClass, hn, if_false]
  refine ⟨ko, hko, ?_⟩
  rw [hod, eN]
  simp only [wp_bind', wp_pure', List.find?_cons, List.find?_nil, hk, decide_false, ite_self]
  refine mr_new hko hod hN rfl (by omega) (by omega) (fun a1 => ?_)
  rw [hbeg, Std.Legacy.Range.forIn_eq_forIn_range']
  have hsz : ([:N] : Std.Legacy.Range).size = N := by simp [Std.Legacy.Range.size]
  rw [hsz, wp_bind']
  refine mr_for (F := fun i => mrZ S (mrL S.heap.size o q N K z i) (N + i * K)) ?_ N 0 d a1 _ (Nat.zero_add N) ?_
  rotate_left
  · intro d2 a2
    simp only [wp_pure']
    exact hq d2 a2
  intro i hi d1 a2 Q1 hQ1
  simp only [wp_bind', wp_pure']
  refine hrow i hi d1 a2 _ (fun a3 => ?_)
  simp only [wp_bind', wp_pure', W.writeLoc]
  refine ⟨arrV o N (fun j => if j < i then .ref (S.heap.size + (1 + j)) else .null), mrZ_hi S _ _ 0, fun w => (by cases w), (by rw [arrV_size]; exact hi), ?_, ?_⟩
  · exact mr_fit (U := mrZ S (mrL S.heap.size o q N K z i ++ [arrV q K (fun _ => z)]) (N + i * K + K)) hko hod i _
  · have q1 := mrZ_set S (mrL S.heap.size o q N K z i ++ [arrV q K (fun _ => z)]) (N + i * K + K) 0 ((arrV o N (fun j => if j < i then .ref (S.heap.size + (1 + j)) else .null)).setSlot i (.ref (S.heap.size + (1 + i))))
    rw [mrL_st, Nat.add_zero] at q1
    rw [q1, Nat.add_assoc, ← Nat.succ_mul]
    exact hQ1 _ _
/-- the words of the instruction, where its entry gives o -/
theorem mr_sem {f : JFrame} {index : Nat} {w : Vm} {o q r : ClassId} {ko kq : Class} {ty : FieldType} {n k : Int32} {rest : List Value} {N K : Nat} (eN : n.toNatClampNeg = N) (eK : k.toNatClampNeg = K) (hs : S.topJava?.isSome) (hg : (Jvm.resolveClass f.method.cls index).Gives e.toSetting S.vm (.ok o) w) (hsz : w.classes.size ≤ S.vm.classes.size) (hst : f.stack = .int k :: .int n :: rest) (hko : w.classes[o]? = some ko) (hod : ko.kind = .array q (.array ty)) (hkq : w.classes[q]? = some kq) (hqd : kq.kind = .array r ty) (hn : ¬ n < 0) (hk : ¬ k < 0) (hN : mrK e (.array ty) N) (hK : mrK e ty K) (hz : fits ty (defaultValue ty) = true) (r1 : S.heap.size + (1 + N) ≤ e.platform.maxCells) (r2 : S.slotsUsed + (N + N * K) ≤ e.platform.maxSlots) {Q : Unit → Pre} (hq : ∀ d1 a1, Q () d1 a1 ((mrZ (S.setVm w) (mrL S.heap.size o q N K (defaultValue ty) N) (N + N * K)).setTop { f with stack := .ref S.heap.size :: rest })) : wp (multianewarray.sem index 2) Q E e d acts (S.setTop f) := by
  unfold multianewarray.sem
  rw [wp_bind']
  refine (W.resolveClassAt_links (State.method?_setTop f hs) hg hsz).mpr ?_
  rw [wp_bind']
  refine (popN_top (s := S.setVm w) (f := f) (args := [.int n, .int k]) hs hst).mpr ?_
  simp only [List.mapM_cons, List.mapM_nil, wp_bind', wp_pure']
  refine mr_make (S := (S.setVm w).setTop { f with stack := rest }) eN eK hko hod hkq hqd hn hk hN hK rfl hz r1 r2 (fun d1 a1 => ?_)
  refine ⟨{ f with stack := rest }, State.topJava?_setTop' (s := mrZ (S.setVm w) _ _) _ hs, ?_⟩
  have q1 := hq true a1
  rw [← State.setTop_setTop _ { f with stack := rest }] at q1
  exact q1
end MRW
section MRS
variable {p : Program} {l : Launch} {e : Env} {R : Room} {s : State} {m : MethodId} {args : Array Value} {below : List Frame} {meth : Method} {c : Code} {T : State} {locs : List Loc} {cells slots : Nat}
/-- a walk stands where cells were put behind -/
theorem mr_stand (X : Stand p l e R s m args below meth c T locs cells slots) {L : List Cell} {u : Nat} (hu : (L.map (·.slots.size)).sum = u) : Stand p l e R s m args below meth c (mrZ T L u) locs (cells + L.length) (slots + u) := by
  have hA := X.here
  cases hy : T.threads[T.cur]? with
  | none =>
    have w1 := hA.top
    have w2 : T.frames = [] := by
      unfold State.frames
      rw [hy]
    unfold State.topJava? at w1
    rw [w2] at w1
    exact Bool.noConfusion w1
  | some y =>
    have h := X.moved (T₂ := mrZ T L u) ⟨hA.top, hA.above, hA.running, hA.runnable, hA.alone, hA.code, hA.plain⟩ X.tail rfl rfl (State.WarmedH.refl T) (mrZ_same hy hu)
    rw [List.append_nil] at h
    exact h
/-- what the word oa says of an array of arrays -/
theorem mr_oa {ty : FieldType} (h : oa (.array ty) s) : ∃ (q o : ClassId) (ko : Class), s.vm.findClass (FieldType.array ty).toString = some q ∧ s.vm.findClass ("[" ++ (FieldType.array ty).toString) = some o ∧ s.vm.classes[o]? = some ko ∧ ko.kind = .array q (.array ty) := by
  obtain ⟨q, hq, h2⟩ := Option.bind_eq_some_iff.mp (eq_of_beq h)
  obtain ⟨o, ho, h3⟩ := Option.bind_eq_some_iff.mp h2
  obtain ⟨ko, hko, h4⟩ := Option.map_eq_some_iff.mp h3
  have h5 := Array.of_findIdx?_eq_some ho
  rw [hko] at h5
  refine ⟨q, o, ko, hq, ?_⟩
  cases hkd : ko.kind with
  | array cp t9 =>
    have h6 : (decide (t9 = FieldType.array ty) && decide (s.vm.findClass ("[" ++ (FieldType.array ty).toString) = some o)) = true := by
      have h7 := h4
      rw [hkd] at h7
      exact h7
    have h8 : (cp == q) = true := by
      have h9 : (match ko.kind with | .array y _ => y == q | _ => false) = true := h5
      rw [hkd] at h9
      exact h9
    obtain ⟨u1, u2⟩ := Bool.and_eq_true_iff.mp h6
    rw [eq_of_beq h8, of_decide_eq_true u1]
    exact ⟨of_decide_eq_true u2, hko, rfl⟩
  | _ =>
    rw [hkd] at h4
    exact Bool.noConfusion h4
/-- what the tables say where the instruction stands -/
theorem mr_link (X : Stand p l e R s m args below meth c T locs cells slots) {own : String} {index : Nat} {ty : FieldType} (hown : s.vm.findClass own = some m.cls) (hlk : (Cond.classLink own index ("[" ++ (FieldType.array ty).toString)).before args s = true) (hov : oa (.array ty) s) (har : (Cond.arrayClass ty).before args s = true) : ∃ (w : Vm) (o q r : ClassId) (ko kq : Class), s.vm.findClass ("[" ++ (FieldType.array ty).toString) = some o ∧ s.vm.findClass (FieldType.array ty).toString = some q ∧ s.WarmedH w ∧ (Jvm.resolveClass m.cls index).Gives e.toSetting T.vm (.ok o) w ∧ (w.classes[o]? = some ko ∧ ko.kind = .array q (.array ty)) ∧ w.classes[q]? = some kq ∧ kq.kind = .array r ty := by
  obtain ⟨q, o, k0, h1, h2, h3, h4⟩ := mr_oa hov
  obtain ⟨q2, k1, r, g1, g2, g3⟩ := Cond.arrayClass_spec har
  have w0 := congrArg Platform.magicAccessors X.admits.platform
  obtain ⟨o2, f1, f2⟩ := Cond.classLink_spec hown hlk e.platform w0
  rw [Option.some.inj (g1.symm.trans h1)] at g2
  rw [Option.some.inj (f1.symm.trans h2)] at f2
  obtain ⟨w1, w2, -⟩ := State.classEntry (e := e) X.warmed f2
  obtain ⟨ko, j1, j2⟩ := w2.alike.2.2 _ _ h3
  obtain ⟨kq, j3, j4⟩ := w2.alike.2.2 _ _ g2
  exact ⟨_, o, q, r, ko, kq, h2, h1, w2, w1, ⟨j1, (congrArg Class.kind j2).trans h4⟩, j3, (congrArg Class.kind j4).trans g3⟩
/-- the instruction, by what it makes -/
theorem mr_steps (X : Stand p l e R s m args below meth c T locs cells slots) (hexec : p.tables.exec = Jvm.exec) {own : String} {index : Nat} {ty : FieldType} (hown : s.vm.findClass own = some m.cls) (hlk : (Cond.classLink own index ("[" ++ (FieldType.array ty).toString)).before args s = true) (hov : oa (.array ty) s) (har : (Cond.arrayClass ty).before args s = true) {g : JFrame} (hg : g.method = m) (hdg : decode c.code g.pc = .ok (.multianewarray index 2, 4)) {n k : Int32} {rest : List Value} (hst : g.stack = .int k :: .int n :: rest) {N K : Nat} (eN : n.toNatClampNeg = N) (eK : k.toNatClampNeg = K) (hn : ¬ n < 0) (hk : ¬ k < 0) (b1 : N * 4 ≤ 536870912) (b2 : K * componentBytes ty ≤ 536870912) (b3 : K ≤ 536870912) (hz : fits ty (defaultValue ty) = true) (hcells : cells + (1 + N) ≤ R.cells) (hslots : slots + (N + N * K) ≤ R.slots) : ∃ (w : Vm) (o q : ClassId), s.vm.findClass ("[" ++ (FieldType.array ty).toString) = some o ∧ s.vm.findClass (FieldType.array ty).toString = some q ∧ Stand p l e R s m args below meth c (mrZ (T.setVm w) (mrL T.heap.size o q N K (defaultValue ty) N) (N + N * K)) locs (cells + (1 + N)) (slots + (N + N * K)) ∧ ∀ t9, Steps p.tables e below ((mrZ (T.setVm w) (mrL T.heap.size o q N K (defaultValue ty) N) (N + N * K)).setTop { g with pc := g.pc + 4, stack := .ref T.heap.size :: rest }) t9 → Steps p.tables e below (T.setTop g) t9 := by
  subst hg
  obtain ⟨w, o, q, r, ko, kq, f1, f2, hw, hgv, ⟨j1, j2⟩, j3, j4⟩ := mr_link X hown hlk hov har
  have hX := mr_stand (X.noted hw) (mrL_u T.heap.size o q N K (defaultValue ty) N)
  rw [mrL_n] at hX
  obtain ⟨r1, r2⟩ := X.roomAbove hcells hslots
  have p1 := Launch.admits_arrayLengthLimit X.admits
  have p2 := Launch.admits_maxHeapBytes X.admits
  have hN : mrK e (.array ty) N := ⟨by rw [p1]; omega, by rw [p2]; exact b1⟩
  have hK : mrK e ty K := ⟨by rw [p1]; omega, by rw [p2]; exact b2⟩
  refine ⟨w, o, q, f1, f2, hX, fun t9 hgo => ?_⟩
  jvm_step X.here [hexec, hdg]
  refine mr_sem eN eK X.here.top hgv (Nat.le_of_eq (hw.alike.2.1.trans X.warmed.alike.2.1.symm)) hst j1 j2 j3 j4 hn hk hN hK hz r1 r2 (fun d1 a1 => ?_)
  intro acts
  simp [jvm, hX.here.top]
  exact hgo
end MRS
