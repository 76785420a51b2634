/-! ===== the calls: plan, all sets in their order ===== -/
def nx3 (p k : Nat) (t : tr3) : Option tr3 := if k = 1 then (if t.1 < p - 1 then some (t.1 + 1, t.1 + 1, t.1 + 1) else none) else if k = 2 then (if t.2.1 < p - 1 then some (t.1, t.2.1 + 1, t.2.1 + 1) else if t.1 < p - 2 then some (t.1 + 1, t.1 + 2, t.1 + 2) else none) else (if t.2.2 < p - 1 then some (t.1, t.2.1, t.2.2 + 1) else if t.2.1 < p - 2 then some (t.1, t.2.1 + 1, t.2.1 + 2) else if t.1 < p - 3 then some (t.1 + 1, t.1 + 2, t.1 + 3) else none)
def onx {α : Type} (x : Option tr3) (f : tr3 → List α) : List α := match x with
  | none => []
  | some u => f u
def run3 (p k : Nat) : Nat → tr3 → List tr3
  | 0, _ => []
  | f + 1, t => t :: onx (nx3 p k t) (run3 p k f)
def fo9 {β : Type} (st : β → tr3 → β) : List tr3 → β → β
  | [], z => z
  | t :: l, z => fo9 st l (st z t)
theorem fo9_app {β : Type} {st : β → tr3 → β} : ∀ (a b : List tr3) (z : β), fo9 st (a ++ b) z = fo9 st b (fo9 st a z)
  | [], _, _ => rfl
  | t :: a, b, z => fo9_app a b (st z t)
def lsN (gl : Nat → List tr3) : Nat → List tr3
  | 0 => []
  | n + 1 => lsN gl n ++ gl n
theorem lsN_it {β : Type} {st : β → tr3 → β} {F : β → Nat → β} {gl : Nat → List tr3} (h : ∀ j z, F z j = fo9 st (gl j) z) (z : β) : ∀ n, itN F z n = fo9 st (lsN gl n) z
  | 0 => rfl
  | n + 1 => by
    rw [itN_s, lsN_it h z n, h]
    exact (fo9_app _ _ _).symm
def lst1 (p : Nat) : List tr3 := lsN (fun x => lsN (fun j => lsN (fun j2 => [(x, x + j, (x + j) + j2)]) 1) 1) p
def lst2 (p : Nat) : List tr3 := lsN (fun x => lsN (fun j => lsN (fun j2 => [(x, (x + 1) + j, ((x + 1) + j) + j2)]) 1) (p - (x + 1))) p
def lst3 (p : Nat) : List tr3 := lsN (fun x => lsN (fun j => lsN (fun j2 => [(x, (x + 1) + j, (((x + 1) + j) + 1) + j2)]) (p - (((x + 1) + j) + 1))) (p - (x + 1))) p
theorem run_1 : ∀ p, p ≤ 8 → 1 ≤ p → run3 p 1 56 (0, 0, 0) = lst1 p := by decide +kernel
theorem run_2 : ∀ p, p ≤ 8 → 2 ≤ p → run3 p 2 56 (0, 1, 1) = lst2 p := by decide +kernel
theorem run_3 : ∀ p, p ≤ 8 → 3 ≤ p → run3 p 3 56 (0, 1, 2) = lst3 p := by decide +kernel
theorem plz1_e {n s w g m c T x y jz : Nat} {o go po : Int32} {z : (mM × mN × tW) × Int32} : plz1B n s w g m c T o go po x y z jz = pnS n s w g m 1 c T o go po z (x, y, y + jz) := by
  by_cases q : z.2 = -1
  · exact (if_pos q).trans (if_pos (Or.inl q)).symm
  · by_cases q2 : pll1 n s w g m c T o go po x y (y + jz) z.1.1 z.1.2.2 < z.2
    · exact (if_neg q).trans ((if_pos q2).trans (if_pos (Or.inr q2)).symm)
    · exact (if_neg q).trans ((if_neg q2).trans (if_neg (fun h => Or.elim h q q2)).symm)
theorem plz2_e {n s w g m c T x y jz : Nat} {o go po : Int32} {z : (mM × mN × tW) × Int32} : plz2B n s w g m c T o go po x y z jz = pnS n s w g m 2 c T o go po z (x, y, y + jz) := by
  by_cases q : z.2 = -1
  · exact (if_pos q).trans (if_pos (Or.inl q)).symm
  · by_cases q2 : pll2 n s w g m c T o go po x y (y + jz) z.1.1 z.1.2.2 < z.2
    · exact (if_neg q).trans ((if_pos q2).trans (if_pos (Or.inr q2)).symm)
    · exact (if_neg q).trans ((if_neg q2).trans (if_neg (fun h => Or.elim h q q2)).symm)
theorem plz3_e {n s w g m c T x y jz : Nat} {o go po : Int32} {z : (mM × mN × tW) × Int32} : plz3B n s w g m c T o go po x y z jz = pnS n s w g m 3 c T o go po z (x, y, (y + 1) + jz) := by
  by_cases q : z.2 = -1
  · exact (if_pos q).trans (if_pos (Or.inl q)).symm
  · by_cases q2 : pll3 n s w g m c T o go po x y ((y + 1) + jz) z.1.1 z.1.2.2 < z.2
    · exact (if_neg q).trans ((if_pos q2).trans (if_pos (Or.inr q2)).symm)
    · exact (if_neg q).trans ((if_neg q2).trans (if_neg (fun h => Or.elim h q q2)).symm)
theorem plx1_e {n s w g m c T p : Nat} {o go po : Int32} {z : (mM × mN × tW) × Int32} : itN (plx1B n s w g m c T o go po p) z p = fo9 (pnS n s w g m 1 c T o go po) (lst1 p) z := lsN_it (fun x z => lsN_it (F := ply1B n s w g m c T o go po p x) (fun j z => lsN_it (F := plz1B n s w g m c T o go po x (x + j)) (fun j2 z => plz1_e) z 1) z 1) z p
theorem plx2_e {n s w g m c T p : Nat} {o go po : Int32} {z : (mM × mN × tW) × Int32} : itN (plx2B n s w g m c T o go po p) z p = fo9 (pnS n s w g m 2 c T o go po) (lst2 p) z := lsN_it (fun x z => lsN_it (F := ply2B n s w g m c T o go po p x) (fun j z => lsN_it (F := plz2B n s w g m c T o go po x ((x + 1) + j)) (fun j2 z => plz2_e) z 1) z (p - (x + 1))) z p
theorem plx3_e {n s w g m c T p : Nat} {o go po : Int32} {z : (mM × mN × tW) × Int32} : itN (plx3B n s w g m c T o go po p) z p = fo9 (pnS n s w g m 3 c T o go po) (lst3 p) z := lsN_it (fun x z => lsN_it (F := ply3B n s w g m c T o go po p x) (fun j z => lsN_it (F := plz3B n s w g m c T o go po x ((x + 1) + j)) (fun j2 z => plz3_e) z (p - (((x + 1) + j) + 1))) z (p - (x + 1))) z p
/-- a set that the class holds -/
def chT (p k : Nat) (ch : Nat → Int32) (t : tr3) : Prop := ∀ i, i < k → ch i = nI (tri t i) ∧ tri t i ≤ p - k + i
theorem cnB_0 {i : Nat} {f : Nat → Int32} : itN (cnB i) f 0 = f := rfl
theorem va_s {f : Nat → Int32} {k : Nat} {v : Int32} : va_up f k v k = v := if_pos rfl
theorem va_n {f : Nat → Int32} {k j : Nat} {v : Int32} (h : j ≠ k) : va_up f k v j = f j := if_neg h
theorem cn_nx {p k : Nat} {ch : Nat → Int32} {t : tr3} (h1 : 1 ≤ k) (h3 : k ≤ 3) (hkp : k ≤ p) (hp8 : p ≤ 8) (I : chT p k ch t) : (nx3 p k t = none → ¬ (cnS p k ch k).1 = true) ∧ ∀ u, nx3 p k t = some u → (cnS p k ch k).1 = true ∧ chT p k (cnS p k ch k).2 u := by
  obtain ⟨x, y, q⟩ := t
  have lt : ∀ a b, a ≤ 8 → b ≤ 16 → (nI a < nI b ↔ a < b) := fun a b ha hb => nI_ltI (by omega) (by omega)
  rcases (show k = 1 ∨ k = 2 ∨ k = 3 by omega) with e | e | e
  · subst e
    obtain ⟨a1, a2⟩ := I 0 (by decide)
    change ch 0 = nI x at a1
    change x ≤ p - 1 + 0 at a2
    have en : nx3 p 1 (x, y, q) = if x < p - 1 then some (x + 1, x + 1, x + 1) else none := rfl
    have ec : cnS p 1 ch 1 = if ch 0 < nI (p - 1 + 0) then (true, va_up ch 0 (ch 0 + 1)) else (false, ch) := rfl
    rw [en, ec, a1]
    by_cases c : x < p - 1
    · rw [if_pos c, if_pos (show nI x < nI (p - 1 + 0) from (lt _ _ (by omega) (by omega)).mpr (by omega))]
      refine ⟨fun z => (by cases z), fun u hu => ⟨rfl, fun i hi => ?_⟩⟩
      cases hu
      have ei : i = 0 := by omega
      subst ei
      show va_up ch 0 (nI x + 1) 0 = nI (x + 1) ∧ x + 1 ≤ p - 1 + 0
      rw [va_s, nI_1]
      exact ⟨rfl, by omega⟩
    · rw [if_neg c, if_neg (show ¬ nI x < nI (p - 1 + 0) from fun z => c (by have := (lt _ _ (by omega) (by omega)).mp z; omega))]
      exact ⟨fun _ => (fun z => Bool.noConfusion z), fun u hu => (by cases hu)⟩
  · subst e
    obtain ⟨a1, a2⟩ := I 0 (by decide)
    obtain ⟨b1, b2⟩ := I 1 (by decide)
    change ch 0 = nI x at a1
    change x ≤ p - 2 + 0 at a2
    change ch 1 = nI y at b1
    change y ≤ p - 2 + 1 at b2
    have en : nx3 p 2 (x, y, q) = if y < p - 1 then some (x, y + 1, y + 1) else if x < p - 2 then some (x + 1, x + 2, x + 2) else none := rfl
    have ec : cnS p 2 ch 2 = if ch 1 < nI (p - 2 + 1) then (true, va_up ch 1 (ch 1 + 1)) else if ch 0 < nI (p - 2 + 0) then (true, va_up (va_up ch 0 (ch 0 + 1)) (0 + 1 + 0) (va_up ch 0 (ch 0 + 1) (0 + 0) + 1)) else (false, ch) := rfl
    rw [en, ec, a1, b1]
    by_cases c : y < p - 1
    · rw [if_pos c, if_pos (show nI y < nI (p - 2 + 1) from (lt _ _ (by omega) (by omega)).mpr (by omega))]
      refine ⟨fun z => (by cases z), fun u hu => ⟨rfl, fun i hi => ?_⟩⟩
      cases hu
      rcases (show i = 0 ∨ i = 1 by omega) with ei | ei
      · subst ei
        exact ⟨(va_n (f := ch) (k := 1) (v := nI y + 1) (show 0 ≠ 1 by decide)).trans a1, a2⟩
      · subst ei
        show va_up ch 1 (nI y + 1) 1 = nI (y + 1) ∧ y + 1 ≤ p - 2 + 1
        rw [va_s, nI_1]
        exact ⟨rfl, by omega⟩
    · rw [if_neg c, if_neg (show ¬ nI y < nI (p - 2 + 1) from fun z => c (by have := (lt _ _ (by omega) (by omega)).mp z; omega))]
      by_cases c2 : x < p - 2
      · rw [if_pos c2, if_pos (show nI x < nI (p - 2 + 0) from (lt _ _ (by omega) (by omega)).mpr (by omega))]
        refine ⟨fun z => (by cases z), fun u hu => ⟨rfl, fun i hi => ?_⟩⟩
        cases hu
        rcases (show i = 0 ∨ i = 1 by omega) with ei | ei
        · subst ei
          show va_up (va_up ch 0 (nI x + 1)) (0 + 1 + 0) (va_up ch 0 (nI x + 1) (0 + 0) + 1) 0 = nI (x + 1) ∧ x + 1 ≤ p - 2 + 0
          rw [va_n (by decide), va_s, nI_1]
          exact ⟨rfl, by omega⟩
        · subst ei
          show va_up (va_up ch 0 (nI x + 1)) 1 (va_up ch 0 (nI x + 1) 0 + 1) 1 = nI (x + 2) ∧ x + 2 ≤ p - 2 + 1
          rw [va_s, va_s, nI_1, nI_1]
          exact ⟨rfl, by omega⟩
      · rw [if_neg c2, if_neg (show ¬ nI x < nI (p - 2 + 0) from fun z => c2 (by have := (lt _ _ (by omega) (by omega)).mp z; omega))]
        exact ⟨fun _ => (fun z => Bool.noConfusion z), fun u hu => (by cases hu)⟩
  · subst e
    obtain ⟨a1, a2⟩ := I 0 (by decide)
    obtain ⟨b1, b2⟩ := I 1 (by decide)
    obtain ⟨d1, d2⟩ := I 2 (by decide)
    change ch 0 = nI x at a1
    change x ≤ p - 3 + 0 at a2
    change ch 1 = nI y at b1
    change y ≤ p - 3 + 1 at b2
    change ch 2 = nI q at d1
    change q ≤ p - 3 + 2 at d2
    have en : nx3 p 3 (x, y, q) = if q < p - 1 then some (x, y, q + 1) else if y < p - 2 then some (x, y + 1, y + 2) else if x < p - 3 then some (x + 1, x + 2, x + 3) else none := rfl
    have ec : cnS p 3 ch 3 = if ch 2 < nI (p - 3 + 2) then (true, va_up ch 2 (ch 2 + 1)) else if ch 1 < nI (p - 3 + 1) then (true, va_up (va_up ch 1 (ch 1 + 1)) 2 (va_up ch 1 (ch 1 + 1) 1 + 1)) else if ch 0 < nI (p - 3 + 0) then (true, va_up (va_up (va_up ch 0 (ch 0 + 1)) 1 (va_up ch 0 (ch 0 + 1) 0 + 1)) 2 (va_up (va_up ch 0 (ch 0 + 1)) 1 (va_up ch 0 (ch 0 + 1) 0 + 1) 1 + 1)) else (false, ch) := rfl
    rw [en, ec, a1, b1, d1]
    by_cases c : q < p - 1
    · rw [if_pos c, if_pos (show nI q < nI (p - 3 + 2) from (lt _ _ (by omega) (by omega)).mpr (by omega))]
      refine ⟨fun z => (by cases z), fun u hu => ⟨rfl, fun i hi => ?_⟩⟩
      cases hu
      rcases (show i = 0 ∨ i = 1 ∨ i = 2 by omega) with ei | ei | ei
      · subst ei
        exact ⟨(va_n (f := ch) (k := 2) (v := nI q + 1) (show 0 ≠ 2 by decide)).trans a1, a2⟩
      · subst ei
        exact ⟨(va_n (f := ch) (k := 2) (v := nI q + 1) (show 1 ≠ 2 by decide)).trans b1, b2⟩
      · subst ei
        show va_up ch 2 (nI q + 1) 2 = nI (q + 1) ∧ q + 1 ≤ p - 3 + 2
        rw [va_s, nI_1]
        exact ⟨rfl, by omega⟩
    · rw [if_neg c, if_neg (show ¬ nI q < nI (p - 3 + 2) from fun z => c (by have := (lt _ _ (by omega) (by omega)).mp z; omega))]
      by_cases c2 : y < p - 2
      · rw [if_pos c2, if_pos (show nI y < nI (p - 3 + 1) from (lt _ _ (by omega) (by omega)).mpr (by omega))]
        refine ⟨fun z => (by cases z), fun u hu => ⟨rfl, fun i hi => ?_⟩⟩
        cases hu
        rcases (show i = 0 ∨ i = 1 ∨ i = 2 by omega) with ei | ei | ei
        · subst ei
          show va_up (va_up ch 1 (nI y + 1)) 2 (va_up ch 1 (nI y + 1) 1 + 1) 0 = nI x ∧ x ≤ p - 3 + 0
          rw [va_n (by decide), va_n (by decide)]
          exact ⟨a1, a2⟩
        · subst ei
          show va_up (va_up ch 1 (nI y + 1)) 2 (va_up ch 1 (nI y + 1) 1 + 1) 1 = nI (y + 1) ∧ y + 1 ≤ p - 3 + 1
          rw [va_n (by decide), va_s, nI_1]
          exact ⟨rfl, by omega⟩
        · subst ei
          show va_up (va_up ch 1 (nI y + 1)) 2 (va_up ch 1 (nI y + 1) 1 + 1) 2 = nI (y + 2) ∧ y + 2 ≤ p - 3 + 2
          rw [va_s, va_s, nI_1, nI_1]
          exact ⟨rfl, by omega⟩
      · rw [if_neg c2, if_neg (show ¬ nI y < nI (p - 3 + 1) from fun z => c2 (by have := (lt _ _ (by omega) (by omega)).mp z; omega))]
        by_cases c3 : x < p - 3
        · rw [if_pos c3, if_pos (show nI x < nI (p - 3 + 0) from (lt _ _ (by omega) (by omega)).mpr (by omega))]
          refine ⟨fun z => (by cases z), fun u hu => ⟨rfl, fun i hi => ?_⟩⟩
          cases hu
          rcases (show i = 0 ∨ i = 1 ∨ i = 2 by omega) with ei | ei | ei
          · subst ei
            show va_up (va_up (va_up ch 0 (nI x + 1)) 1 (va_up ch 0 (nI x + 1) 0 + 1)) 2 (va_up (va_up ch 0 (nI x + 1)) 1 (va_up ch 0 (nI x + 1) 0 + 1) 1 + 1) 0 = nI (x + 1) ∧ x + 1 ≤ p - 3 + 0
            rw [va_n (by decide), va_n (by decide), va_s, nI_1]
            exact ⟨rfl, by omega⟩
          · subst ei
            show va_up (va_up (va_up ch 0 (nI x + 1)) 1 (va_up ch 0 (nI x + 1) 0 + 1)) 2 (va_up (va_up ch 0 (nI x + 1)) 1 (va_up ch 0 (nI x + 1) 0 + 1) 1 + 1) 1 = nI (x + 2) ∧ x + 2 ≤ p - 3 + 1
            rw [va_n (by decide), va_s, va_s, nI_1, nI_1]
            exact ⟨rfl, by omega⟩
          · subst ei
            show va_up (va_up (va_up ch 0 (nI x + 1)) 1 (va_up ch 0 (nI x + 1) 0 + 1)) 2 (va_up (va_up ch 0 (nI x + 1)) 1 (va_up ch 0 (nI x + 1) 0 + 1) 1 + 1) 2 = nI (x + 3) ∧ x + 3 ≤ p - 3 + 2
            rw [va_s, va_s, va_s, nI_1, nI_1, nI_1]
            exact ⟨rfl, by omega⟩
        · rw [if_neg c3, if_neg (show ¬ nI x < nI (p - 3 + 0) from fun z => c3 (by have := (lt _ _ (by omega) (by omega)).mp z; omega))]
          exact ⟨fun _ => (fun z => Bool.noConfusion z), fun u hu => (by cases hu)⟩
