/-! ===== the relation holds when both are made ===== -/
theorem wF_ne {l : List (Nat × Nat × Int32)} {f0 : Nat → Nat → Int32} {a : Nat} : ∀ j, (∀ i, i < j → (l.getD i (0, 0, 0)).1 ≠ a) → wF l f0 j a = f0 a
  | 0, _ => rfl
  | j + 1, h => by
    rw [wF_s, hp_upne (Ne.symm (h j (Nat.lt_succ_self j)))]
    exact wF_ne j (fun i hi => h i (Nat.lt_succ_of_lt hi))
theorem wF_cg {l : List (Nat × Nat × Int32)} {f0 f1 : Nat → Nat → Int32} {a : Nat} (e : f0 a = f1 a) : ∀ j, wF l f0 j a = wF l f1 j a
  | 0 => e
  | j + 1 => by
    have ih := wF_cg (l := l) e j
    rw [wF_s, wF_s]
    by_cases q : a = (l.getD j (0, 0, 0)).1
    · rw [← q, up2_r, up2_r, ih]
    · rw [hp_upne q, hp_upne q]
      exact ih
theorem w_lay {s k : Nat} {f : Nat → Nat → Int32} {h : hp_T} (W : wS 247 s k f h) : wS 247 s k (hp_i (layH 1 1 h)) (layH 1 1 h) := by
  obtain ⟨⟨w1, w1s⟩, w2, ⟨w3, w4, w5⟩, w6⟩ := W
  obtain ⟨e1, e2, e3, e4, e5, e6⟩ := (lay_s9 : sam9 h (layH 1 1 h))
  have er : ∀ x, 247 ≤ x → hp_i (layH 1 1 h) x = hp_i h x := fun x hx => layH_row (w := 1) (g := 1) (h := h) (x := x) (by decide) (by omega)
  generalize layH 1 1 h = h1 at e1 e2 e3 e4 e5 e6 er ⊢
  refine ⟨⟨e5.trans w1, e6.trans w1s⟩, fun a q ha hq => ?_, ⟨e1.trans w3, rfl, e2.trans w5⟩, fun x hx => ⟨?_, (er x hx).trans (w6 x hx).2⟩⟩
  · rw [e3, e4]
    exact w2 a q ha hq
  · rw [e1]
    exact (w6 x hx).1
/-- rows of the heap made -/
theorem ini_lo {hA h : hp_T} {s k s2 k2 : Nat} (WA : wS 247 s k (wF wLa zF9 2) hA) (W : wS 333 s2 k2 (wF wLb (hp_i (layH 1 1 hA)) 102) h) : (∀ x, x < 247 → hp_i h x = hp_i (layH 1 1 hA) x) ∧ (∀ x, 247 ≤ x → hp_i h x = wF wLb zF9 102 x) ∧ (∀ x, x ≠ 150 → x ≠ 158 → hp_i hA x = fun _ => 0) := by
  refine ⟨fun x hx => ?_, fun x hx => ?_, fun x h1 h2 => ?_⟩
  · rw [W.2.2.1.2.1]
    exact wF_ne 102 (fun i hi => by
      have := (by decide +kernel : ∀ i, i < 102 → 247 ≤ (wLb.getD i (0, 0, 0)).1) i hi
      omega)
  · rw [W.2.2.1.2.1]
    refine wF_cg ?_ 102
    refine (layH_row (w := 1) (g := 1) (h := hA) (x := x) (by decide) (by omega)).trans ?_
    exact (WA.2.2.2 x hx).2
  · rw [WA.2.2.1.2.1]
    refine wF_ne 2 (fun i hi => ?_)
    have := (by decide +kernel : ∀ i, i < 2 → (wLa.getD i (0, 0, 0)).1 = 150 ∨ (wLa.getD i (0, 0, 0)).1 = 158) i hi
    omega
theorem fill_z (n : Nat) : fa_fill (fun _ => (0 : Int32)) (fun _ => 0) n = fun _ => 0 := by
  funext x
  unfold fa_fill
  split <;> rfl
theorem ini_gr {f : Nat → Nat → Int32} {s : Nat} {h : hp_T} (W : wS 333 s 194 f h) : gr h := by
  refine ⟨Nat.le_of_eq W.1.1.symm, fun a q hq => W.2.1 a q ?_ hq, fun i q hq => ?_⟩
  · have h1 := (List.getElem?_eq_some_iff.mp hq).1
    have h2 : gr_tl.length = 333 := by decide +kernel
    omega
  · rw [W.2.2.1.1]
    exact of_decide_eq_true (List.all_eq_true.mp (by decide +kernel : gr_rl.all (fun q => decide (rF 194 q.1 q.2.1 = some q.2.2)) = true) q (List.mem_of_getElem? hq))
