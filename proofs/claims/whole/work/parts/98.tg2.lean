/-! ===== arrays of arrays: the row of the lifted judgement ===== -/
def hp_mn (h : hp_T) (t t2 N K : Nat) : hp_T := (hp_n h + 1 + N, hp_s h + N + N * K, (fun x => if x = hp_n h then t else if hp_n h < x ∧ x ≤ hp_n h + N then t2 else hp_tag h x), (fun x => if x = hp_n h then N else if hp_n h < x ∧ x ≤ hp_n h + N then K else hp_len h x), (fun x => if hp_n h ≤ x ∧ x ≤ hp_n h + N then (fun _ => 0) else hp_i h x), (fun x => if hp_n h ≤ x ∧ x ≤ hp_n h + N then (fun _ => 0) else hp_l h x), (fun x => if x = hp_n h then (fun j => if j < N then some (hp_n h + 1 + j) else none) else if hp_n h < x ∧ x ≤ hp_n h + N then (fun _ => none) else hp_r h x))
theorem mn_lo (h : hp_T) (t t2 N K : Nat) {x : Nat} (hx : x < hp_n h) : hp_tag (hp_mn h t t2 N K) x = hp_tag h x ∧ hp_len (hp_mn h t t2 N K) x = hp_len h x ∧ hp_i (hp_mn h t t2 N K) x = hp_i h x ∧ hp_l (hp_mn h t t2 N K) x = hp_l h x ∧ hp_r (hp_mn h t t2 N K) x = hp_r h x := ⟨(if_neg (by omega)).trans (if_neg (by omega)), (if_neg (by omega)).trans (if_neg (by omega)), if_neg (by omega), if_neg (by omega), (if_neg (by omega)).trans (if_neg (by omega))⟩
theorem mn_at (h : hp_T) (t t2 N K : Nat) : hp_tag (hp_mn h t t2 N K) (hp_n h) = t ∧ hp_len (hp_mn h t t2 N K) (hp_n h) = N ∧ hp_r (hp_mn h t t2 N K) (hp_n h) = fun j => if j < N then some (hp_n h + 1 + j) else none := ⟨if_pos rfl, if_pos rfl, if_pos rfl⟩
theorem mn_in (h : hp_T) (t t2 N K : Nat) {i : Nat} (hi : i < N) : hp_tag (hp_mn h t t2 N K) (hp_n h + 1 + i) = t2 ∧ hp_len (hp_mn h t t2 N K) (hp_n h + 1 + i) = K ∧ hp_i (hp_mn h t t2 N K) (hp_n h + 1 + i) = (fun _ => 0) ∧ hp_l (hp_mn h t t2 N K) (hp_n h + 1 + i) = (fun _ => 0) := ⟨(if_neg (by omega)).trans (if_pos (by omega)), (if_neg (by omega)).trans (if_pos (by omega)), if_pos (by omega), if_pos (by omega)⟩
section GMN
variable {E : gE} {M : gM} {d pc : Nat} {lv : List (Nat × Value)} {rest : List Value} {h h' : hp_T} {v : Option Value}
theorem gf_mna {idx : Nat} (t t2 N K : Nat) {n k : Int32} (ht : (t = 18 ∧ t2 = 14) ∨ (t = 19 ∧ t2 = 15)) (hlk : Cond.classLink M.1.cls idx ("[" ++ (FieldType.array (hp_at t2)).toString) ∈ tt) (harr : Cond.arrayClass (hp_at t2) ∈ tt) (hn : n = nI N) (hk : k = nI K) (hN : N < 1000) (hK : K < 1000) (hdg : decode M.2.1 pc = .ok (.multianewarray idx 2, 4)) (kk : gf E M d (pc + 4) lv (.ref (E.1 + hp_n h) :: rest) (hp_mn h t t2 N K) v h') : gf E M d pc lv (.int k :: .int n :: rest) h v h' := by
  have k1 : hp_n h + 1 + N ≤ hp_n h' := kk.1
  have k2 : hp_s h + N + N * K ≤ hp_s h' := kk.2.1
  refine ⟨by omega, Nat.le_trans (by rw [Nat.add_assoc]; exact Nat.le_add_right _ _) k2, fun p l e R s m args below meth cc H locs cells slots c0 s0 ls hA hP hS hl hd hD hcs hss hR hRs hz => ?_⟩
  intro T hT X
  have hup := X.heapSize
  rw [hT] at hup
  have hlo : E.1 + hp_n h ≤ H.size := hp_size hP (by have := hS.1; omega)
  have hsz : H.size = E.1 + hp_n h := by omega
  have hTz : T.heap.size = E.1 + hp_n h := by rw [hT]; exact hsz
  subst hn hk
  have eN : (nI N).toNatClampNeg = N := nI_clamp (by omega)
  have eK : (nI K).toNatClampNeg = K := nI_clamp (by omega)
  have hov : oa (.array (hp_at t2)) s := by
    rcases ht with ⟨rfl, rfl⟩ | ⟨rfl, rfl⟩
    · exact hA.2.2.2.2.2.2.2.1.2.2.2.2.2.2.2.1
    · exact hA.2.2.2.2.2.2.2.1.2.2.2.2.2.2.2.2.1
  have hcb : componentBytes (hp_at t2) ≤ 8 := by
    rcases ht with ⟨rfl, rfl⟩ | ⟨rfl, rfl⟩ <;> decide
  have hft : fits (hp_at t2) (defaultValue (hp_at t2)) = true := by
    rcases ht with ⟨rfl, rfl⟩ | ⟨rfl, rfl⟩ <;> rfl
  have hKb : K * componentBytes (hp_at t2) ≤ 536870912 := Nat.le_trans (Nat.mul_le_mul (Nat.le_of_lt hK) hcb) (by decide)
  obtain ⟨vm₁, cA, cC, fA, fC, X1, step⟩ := mr_steps X hA.1 (own := M.1.cls) (index := idx) (ty := hp_at t2) hA.2.2.2.2.1 (hA.2.2.2.2.2.1 _ hlk) hov (hA.2.2.2.2.2.1 _ harr) (g := F0 m pc ls (.int (nI K) :: .int (nI N) :: rest)) rfl (by rw [hA.2.1]; exact hdg) rfl eN eK (nI_pos (by omega)) (nI_pos (by omega)) (by omega) hKb (by omega) hft (by omega) (by omega)
  rw [hTz] at step X1
  have hS0 : (T.setVm vm₁).heap = H := hT
  have hold : ∀ x : Nat, x < H.size → (mrZ (T.setVm vm₁) (mrL (E.1 + hp_n h) cA cC N K (defaultValue (hp_at t2)) N) (N + N * K)).heap[x]? = H[x]? := fun x hx => by
    rw [mrZ_lo (by rw [hS0]; exact hx), hS0]
  have hnew : ∀ y : Nat, (mrZ (T.setVm vm₁) (mrL (E.1 + hp_n h) cA cC N K (defaultValue (hp_at t2)) N) (N + N * K)).heap[E.1 + hp_n h + y]? = (mrL (E.1 + hp_n h) cA cC N K (defaultValue (hp_at t2)) N)[y]? := fun y => by
    have := mrZ_hi (T.setVm vm₁) (mrL (E.1 + hp_n h) cA cC N K (defaultValue (hp_at t2)) N) (N + N * K) y
    rw [hS0, hsz] at this
    exact this
  have f1 : (mrZ (T.setVm vm₁) (mrL (E.1 + hp_n h) cA cC N K (defaultValue (hp_at t2)) N) (N + N * K)).heap.size = H.size + (1 + N) := by rw [mrZ_n, mrL_n, hS0]
  generalize mrZ (T.setVm vm₁) (mrL (E.1 + hp_n h) cA cC N K (defaultValue (hp_at t2)) N) (N + N * K) = F at X1 step f1 hold hnew
  have hcls : cA = E.2.2.1 t ∧ cC = E.2.2.1 t2 := by
    rcases ht with ⟨rfl, rfl⟩ | ⟨rfl, rfl⟩
    · exact ⟨Option.some.inj (fA.symm.trans (hA.2.2.2.2.2.2.1.2 5 _ rfl).2), Option.some.inj (fC.symm.trans (hA.2.2.2.2.2.2.1.2 1 _ rfl).2)⟩
    · exact ⟨Option.some.inj (fA.symm.trans (hA.2.2.2.2.2.2.1.2 6 _ rfl).2), Option.some.inj (fC.symm.trans (hA.2.2.2.2.2.2.1.2 2 _ rfl).2)⟩
  obtain ⟨rfl, rfl⟩ := hcls
  have hP1 : hp_P E (hp_mn h t t2 N K) F.heap := by
    refine ⟨fun a ha => ?_, fun k q hq => ?_⟩
    · have ha2 : hp_n h + 1 + N ≤ a := ha
      show (if a = hp_n h then t else if hp_n h < a ∧ a ≤ hp_n h + N then t2 else hp_tag h a) = 99
      rw [if_neg (by omega), if_neg (by omega)]
      exact hP.1 a (by omega)
    · have hk : k < hp_n h + 1 + N := by
        have := (List.getElem?_eq_some_iff.mp hq).1
        unfold hp_ws at this
        rw [List.length_map, List.length_range] at this
        exact this
      rw [hp_get (h := hp_mn h t t2 N K) hk] at hq
      cases hq
      rcases Nat.lt_trichotomy k (hp_n h) with hl | he | hg
      · obtain ⟨q1, q2, q3, q4, q5⟩ := mn_lo h t t2 N K hl
        rw [hp_E_ne (h := h) (h' := hp_mn h t t2 N K) q1 q2 q3 q4 q5]
        exact (hP.2 k _ (hp_get hl)).kept (hold (E.1 + k) (by omega))
      · obtain ⟨q1, q2, q3⟩ := mn_at h t t2 N K
        rw [he, hp_arr (h := hp_mn h t t2 N K) q1 (by omega), q2, hp_ar_R (by omega), q3]
        show F.heap[E.1 + hp_n h]? = some (vp_cell (E.2.2.1 t) _)
        have hv : F.heap[E.1 + hp_n h]? = some (arrV (E.2.2.1 t) N (fun j => if j < N then .ref (E.1 + hp_n h + (1 + j)) else .null)) := hnew 0
        rw [vp_cell_q, hv]
        refine congrArg (fun f => some (arrV (E.2.2.1 t) N f)) (funext fun j => ?_)
        dsimp only
        by_cases q : j < N
        · rw [if_pos q, if_pos q]
          show Value.ref (E.1 + hp_n h + (1 + j)) = .ref (E.1 + (hp_n h + 1 + j))
          rw [Nat.add_assoc, ← Nat.add_assoc (hp_n h)]
        · rw [if_neg q, if_neg q]
          rfl
      · obtain ⟨i, hi, rfl⟩ : ∃ i, i < N ∧ k = hp_n h + 1 + i := ⟨k - hp_n h - 1, by omega, by omega⟩
        obtain ⟨q1, q2, q3, q4⟩ := mn_in h t t2 N K hi
        rw [hp_arr (h := hp_mn h t t2 N K) q1 (by omega), q2]
        have hv := (hnew (1 + i)).trans (mrL_in (E.1 + hp_n h) (E.2.2.1 t) (E.2.2.1 t2) N K (defaultValue (hp_at t2)) hi)
        rw [Nat.add_assoc, ← Nat.add_assoc (hp_n h)] at hv
        show F.heap[E.1 + (hp_n h + 1 + i)]? = some (vp_cell (E.2.2.1 t2) _)
        rw [hv]
        rcases ht with ⟨rfl, rfl⟩ | ⟨rfl, rfl⟩
        · rw [hp_ar_I (by omega) (by omega), q3]
          rfl
        · unfold hp_ar
          rw [if_pos rfl, q4]
          rfl
  have hS1 : va_S (gE_A E) s.heap F.heap locs := ⟨Nat.le_trans hS.1 (by rw [f1]; omega), fun x h1 h2 => (hold x (Nat.lt_of_lt_of_le h1 hS.1)).trans (hS.2.1 x h1 h2), hS.2.2⟩
  obtain ⟨t9, a1, b1⟩ := kk.2.2 p l e R s m args below meth cc F.heap locs (cells + (1 + N)) (slots + (N + N * K)) c0 s0 ls hA hP1 hS1 hl hd hD (by show cells + (1 + N) + c0 = hp_n h + 1 + N; omega) (by show slots + (N + N * K) + s0 = hp_s h + N + N * K; omega) hR hRs hz F rfl X1
  exact ⟨t9, step _ a1, b1⟩
end GMN
