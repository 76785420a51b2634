/-! ===== rows of the lifted judgement: new objects, new arrays ===== -/
def hp_okty : FieldType → Bool := fun ty => match ty with
  | .int => true
  | .boolean => true
  | .long => true
  | .object _ => true
  | .array _ => true
  | _ => false
theorem hp_okall : ∀ c, c < 13 → ∀ k, k < hp_N c → hp_okty (hp_ty c k) = true := by decide +kernel
theorem hp_new_i (h : hp_T) (t len sl k : Nat) : hp_i (hp_new h t len sl) (hp_n h) k = 0 := by
  show va_up (hp_i h) (hp_n h) (fun _ => 0) (hp_n h) k = 0
  simp [va_up]
theorem hp_new_l (h : hp_T) (t len sl k : Nat) : hp_l (hp_new h t len sl) (hp_n h) k = 0 := by
  show va_up (hp_l h) (hp_n h) (fun _ => 0) (hp_n h) k = 0
  simp [va_up]
theorem hp_new_r (h : hp_T) (t len sl k : Nat) : hp_r (hp_new h t len sl) (hp_n h) k = none := by
  show va_up (hp_r h) (hp_n h) (fun _ => none) (hp_n h) k = none
  simp [va_up]
theorem hp_new_t (h : hp_T) (t len sl : Nat) : hp_tag (hp_new h t len sl) (hp_n h) = t := by
  show va_up (hp_tag h) (hp_n h) t (hp_n h) = t
  simp [va_up]
theorem hp_new_n (h : hp_T) (t len sl : Nat) : hp_len (hp_new h t len sl) (hp_n h) = len := by
  show va_up (hp_len h) (hp_n h) len (hp_n h) = len
  simp [va_up]
theorem hp_dv (B : Nat) (h : hp_T) (t len sl k : Nat) {ty : FieldType} (hok : hp_okty ty = true) : defaultValue ty = hp_fv B (hp_new h t len sl) (hp_n h) k (hp_fk ty) := by
  unfold hp_fv
  rw [hp_new_i, hp_new_l, hp_new_r]
  cases ty <;> first | rfl | (exfalso; revert hok; decide)
/-- where a new cell lies -/
theorem hp_place {E : gE} {h : hp_T} {H1 : Heap} {q c0 : Nat} {e : va_E} {n0 : Nat} (hP : va_P E.2.1 vwCl (hp_ws E h ++ [(q, e)]) H1) (hD : va_D (gE_A E) (hp_ws E h ++ [(q, e)])) (hz : n0 = E.1 + c0) {cells : Nat} (hc : cells + c0 = hp_n h) (hup : H1.size ≤ n0 + (cells + 1)) : q = E.1 + hp_n h := by
  have hlen : (hp_ws E h).length = hp_n h := by simp [hp_ws]
  have hidx : (hp_ws E h ++ [(q, e)])[hp_n h]? = some (q, e) := by
    rw [List.getElem?_append_right (by omega), hlen, Nat.sub_self]
    rfl
  have h1 : q < H1.size := (hP _ _ hidx).lt
  have h2 : E.1 ≤ q := hD.2 _ _ hidx
  rcases Nat.lt_or_ge (q - E.1) (hp_n h) with hl | hl
  · have hold : (hp_ws E h ++ [(q, e)])[q - E.1]? = some (E.1 + (q - E.1), hp_E E h (q - E.1)) := by
      rw [List.getElem?_append_left (by omega)]
      exact hp_get hl
    have := hD.1 _ _ _ _ hidx hold (by show q = E.1 + (q - E.1); omega)
    omega
  · omega
section GA
variable {E : gE} {M : gM} {d pc : Nat} {lv : List (Nat × Value)} {rest : List Value} {h h' : hp_T} {v : Option Value}
theorem gf_new {idx : Nat} (c : Nat) (hc : c < 13) (hlk : Cond.classLink M.1.cls idx (hp_C c) ∈ tt) (hins : Cond.instantiable (hp_C c) (hp_N c) ∈ tt) (hini : Cond.initialized (hp_C c) ∈ tt) (hdg : decode M.2.1 pc = .ok (.new idx, 3)) (kk : gf E M d (pc + 3) lv (.ref (E.1 + hp_n h) :: rest) (hp_new h c 0 (hp_N c)) v h') : gf E M d pc lv rest h v h' := by
  have k1 : hp_n h + 1 ≤ hp_n h' := kk.1
  have k2 : hp_s h + hp_N c ≤ hp_s h' := kk.2.1
  refine ⟨by omega, by omega, fun p l e R s m args below meth cc H locs cells slots c0 s0 ls hA hP hS hl hd hD hcs hss hR hRs hz => ?_⟩
  refine va_new (D := E.2.1) (cl := vwCl) (ci := c) (C := hp_C c) (T := hp_TT c) (N := hp_N c) (fs := hp_fs E.1 (hp_new h c 0 (hp_N c)) c (hp_n h)) hA.1 hA.2.1 hA.2.2.2.2.2.1 (hp_in c hc) (hp_ty c) (hp_tyok c hc) hA.2.2.2.2.1 (hA.2.2.2.2.2.1 _ hlk) (hA.2.2.2.2.2.1 _ hins) (hA.2.2.2.2.2.1 _ hini) hA.2.2.2.2.2.2.1 hP.2 (hp_D E h) hS (fun q hq => ?_) (hp_cl c hc) (fun i hi => ?_) (by omega) (by omega) hdg (fun q H1 hP1 hD1 hS1 => ?_)
  · show E.1 ≤ q
    omega
  · show _ = (hp_fs E.1 (hp_new h c 0 (hp_N c)) c (hp_n h)).getD i .null
    rw [List.getD_eq_getElem?_getD, hp_fs_get hi]
    exact hp_dv E.1 h c 0 (hp_N c) i (hp_okall c hc i hi)
  · intro T hT X
    have hup : T.heap.size ≤ s.heap.size + (cells + 1) := X.heapSize
    rw [hT] at hup
    have hq := hp_place hP1 hD1 hz hcs hup
    subst hq
    exact kk.2.2 p l e R s m args below meth cc H1 locs (cells + 1) (slots + hp_N c) c0 s0 ls hA (hp_P_new hP (hp_obj (h := hp_new h c 0 (hp_N c)) (hp_new_t h c 0 (hp_N c)) hc) hP1) hS1 hl hd hD (by show cells + 1 + c0 = hp_n h + 1; omega) (by show slots + hp_N c + s0 = hp_s h + hp_N c; omega) hR hRs hz T hT X
/-- a new array of numbers -/
theorem gf_newa {atype : ArrayType} (t N : Nat) {n : Int32} (ht : 12 < t ∧ t < 17) (hty : newarray.typeOf atype = hp_at t) (harr : Cond.arrayClass (newarray.typeOf atype) ∈ tt) (hn : n = nI N) (hN : N < 60000000) (hdg : decode M.2.1 pc = .ok (.newarray atype, 2)) (kk : gf E M d (pc + 2) lv (.ref (E.1 + hp_n h) :: rest) (hp_new h t N N) v h') : gf E M d pc lv (.int n :: rest) h v h' := by
  have k1 : hp_n h + 1 ≤ hp_n h' := kk.1
  have k2 : hp_s h + N ≤ hp_s h' := kk.2.1
  refine ⟨by omega, by omega, fun p l e R s m args below meth cc H locs cells slots c0 s0 ls hA hP hS hl hd hD hcs hss hR hRs hz => ?_⟩
  obtain ⟨hb8, hvp⟩ : N * componentBytes (hp_at t) ≤ 536870912 ∧ ∀ cA : ClassId, vp_cell cA (N, hp_ar E.1 (hp_new h t N N) t (hp_n h)) = arrV cA N (fun _ => defaultValue (hp_at t)) := by
    have e1 : hp_i (hp_new h t N N) (hp_n h) = fun _ => 0 := funext (hp_new_i h t N N)
    have e2 : hp_l (hp_new h t N N) (hp_n h) = fun _ => 0 := funext (hp_new_l h t N N)
    rcases (show t = 13 ∨ t = 14 ∨ t = 15 ∨ t = 16 by omega) with rfl | rfl | rfl | rfl
    · exact ⟨by show N * 2 ≤ _; omega, fun cA => by rw [hp_ar_I (by omega) (by omega), e1]; rfl⟩
    · exact ⟨by show N * 4 ≤ _; omega, fun cA => by rw [hp_ar_I (by omega) (by omega), e1]; rfl⟩
    · exact ⟨by show N * 8 ≤ _; omega, fun cA => by unfold hp_ar; rw [if_pos rfl, e2]; rfl⟩
    · exact ⟨by show N * 1 ≤ _; omega, fun cA => by rw [hp_ar_I (by omega) (by omega), e1]; rfl⟩
  refine va_newa (D := E.2.1) (cl := vwCl) (tys := hp_tys E) (a0 := (N, hp_ar E.1 (hp_new h t N N) t (hp_n h))) hA.1 hA.2.1 (hA.2.2.2.2.2.1 _ harr) hty hA.2.2.2.2.2.2.1 hP.2 (hp_D E h) hS (fun q hq => ?_) hvp (by rw [hn]; exact nI_pos (by omega)) (by rw [hn]; exact nI_clamp (by omega)) hb8 (by omega) (by omega) hdg (fun q cA H1 hK1 hP1 hD1 hS1 => ?_)
  · show E.1 ≤ q
    omega
  · intro T hT X
    have hup : T.heap.size ≤ s.heap.size + (cells + 1) := X.heapSize
    rw [hT] at hup
    have hq := hp_place hP1 hD1 hz hcs hup
    subst hq
    have hcA : cA = E.2.2.1 t := by
      have h1 := (hK1.2 7 (cA, hp_at t) rfl).2
      rcases (show t = 13 ∨ t = 14 ∨ t = 15 ∨ t = 16 by omega) with rfl | rfl | rfl | rfl
      · exact Option.some.inj (h1.symm.trans (hA.2.2.2.2.2.2.1.2 0 _ rfl).2)
      · exact Option.some.inj (h1.symm.trans (hA.2.2.2.2.2.2.1.2 1 _ rfl).2)
      · exact Option.some.inj (h1.symm.trans (hA.2.2.2.2.2.2.1.2 2 _ rfl).2)
      · exact Option.some.inj (h1.symm.trans (hA.2.2.2.2.2.2.1.2 3 _ rfl).2)
    subst hcA
    exact kk.2.2 p l e R s m args below meth cc H1 locs (cells + 1) (slots + N) c0 s0 ls hA (hp_P_new hP (by rw [hp_arr (h := hp_new h t N N) (hp_new_t h t N N) ht.1, hp_new_n]) hP1) hS1 hl hd hD (by show cells + 1 + c0 = hp_n h + 1; omega) (by show slots + N + s0 = hp_s h + N; omega) hR hRs hz T hT X
/-- a new array of Terms -/
theorem gf_newT {idx : Nat} (N : Nat) {n : Int32} (hlk : Cond.classLink M.1.cls idx RX10 ∈ tt) (hn : n = nI N) (hN : N < 60000000) (hdg : decode M.2.1 pc = .ok (.anewarray idx, 3)) (kk : gf E M d (pc + 3) lv (.ref (E.1 + hp_n h) :: rest) (hp_new h 17 N N) v h') : gf E M d pc lv (.int n :: rest) h v h' := by
  have k1 : hp_n h + 1 ≤ hp_n h' := kk.1
  have k2 : hp_s h + N ≤ hp_s h' := kk.2.1
  refine ⟨by omega, by omega, fun p l e R s m args below meth cc H locs cells slots c0 s0 ls hA hP hS hl hd hD hcs hss hR hRs hz => ?_⟩
  have hov : va_AO RX10 s := hA.2.2.2.2.2.2.2.1.2.2.2.2.2.2.1
  refine va_newq (D := E.2.1) (cl := vwCl) (tys := hp_tys E) (N' := N) hA.1 hA.2.1 hA.2.2.2.2.1 (hA.2.2.2.2.2.1 _ hlk) hov hA.2.2.2.2.2.2.1 hP.2 (hp_D E h) hS (fun q hq => ?_) (by rw [hn]; exact nI_pos (by omega)) (by rw [hn]; exact nI_clamp (by omega)) (by omega) (by omega) (by omega) hdg (fun q cA H1 hK1 hP1 hD1 hS1 => ?_)
  · show E.1 ≤ q
    omega
  · intro T hT X
    have hup : T.heap.size ≤ s.heap.size + (cells + 1) := X.heapSize
    rw [hT] at hup
    have hq := hp_place hP1 hD1 hz hcs hup
    subst hq
    have hcA : cA = E.2.2.1 17 := by
      obtain ⟨k1, x1, a1, a2, a3, a4⟩ := (hK1.2 7 (cA, .object RX10) rfl).2
      obtain ⟨k2, x2, b1, b2, b3, b4⟩ := (hA.2.2.2.2.2.2.1.2 4 _ rfl).2
      exact Option.some.inj (a4.symm.trans b4)
    subst hcA
    exact kk.2.2 p l e R s m args below meth cc H1 locs (cells + 1) (slots + N) c0 s0 ls hA (hp_P_new hP (by rw [hp_arr (h := hp_new h 17 N N) (hp_new_t h 17 N N) (by omega), hp_new_n, hp_ar_R (by omega), funext (hp_new_r h 17 N N)]; rfl) hP1) hS1 hl hd hD (by show cells + 1 + c0 = hp_n h + 1; omega) (by show slots + N + s0 = hp_s h + N; omega) hR hRs hz T hT X
end GA
