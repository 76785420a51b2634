/-! ===== the parsers agree: tests ===== -/
theorem fct_a {M : mM} {tx : Nat → Nat} {L o : Nat} {r2 fa r0 : rZ → Bool × rZ} (T : txM M tx L) (R : rV M) (H : sumH M tx L o r2) (HF : o < 6 → facH M tx L (o + 1) fa) (HO : o < 6 → orH M tx L (o + 1) r0) : facH M tx L o (fun Z => facS fa r0 (cmpS r2) o Z) := by
  intro Z q I D h0
  show resT9 _ _ _ _ _ _ _ _ _ (facS fa r0 (cmpS r2) o Z)
  by_cases h11 : rtok Z = nI 11
  · have e : facS fa r0 (cmpS r2) o Z = rbd (rent Z 11 (nI o)) (fun Y => rbd (fa Y) (fun Y2 => (true, remi Y2 11 0))) := by
      unfold facS
      rw [if_neg (show ¬ rtok Z = 9 by rw [h11]; decide), if_neg (show ¬ rtok Z = 10 by rw [h11]; decide), if_pos (show rtok Z = 11 from h11)]
    rw [e]
    exact fct_n T R I D HF h11
  by_cases h91 : rtok Z = nI 91
  · have e : facS fa r0 (cmpS r2) o Z = rbd (rent Z 91 (nI o)) (fun Y => rbd (r0 Y) (fun Y2 => rpas Y2 93)) := by
      unfold facS
      rw [if_neg (show ¬ rtok Z = 9 by rw [h91]; decide), if_neg (show ¬ rtok Z = 10 by rw [h91]; decide), if_neg (show ¬ rtok Z = 11 by rw [h91]; decide), if_pos (show rtok Z = 91 from h91)]
    rw [e]
    exact fct_b T R I D HO h91
  exact fct_p T R H I D h0 h11 h91
theorem tes_H {M : mM} {tx : Nat → Nat} {L : Nat} (T : txM M tx L) (R : rV M) : ∀ (d o : Nat), o + d = 6 → (∀ f, 7 + 11 * d ≤ f → facH M tx L o (rdr f 8 o)) ∧ ∀ f, 11 + 11 * d ≤ f → orH M tx L o (rdr f 0 o)
  | d, o, ho => by
    have IH : o < 6 → (∀ f, 7 + 11 * (d - 1) ≤ f → facH M tx L (o + 1) (rdr f 8 (o + 1))) ∧ ∀ f, 11 + 11 * (d - 1) ≤ f → orH M tx L (o + 1) (rdr f 0 (o + 1)) := fun h => by
      obtain ⟨d1, ed⟩ : ∃ d1, d = d1 + 1 := ⟨d - 1, by omega⟩
      subst ed
      exact tes_H T R d1 (o + 1) (by omega)
    have F : ∀ f, 7 + 11 * d ≤ f → facH M tx L o (rdr f 8 o) := fun f hf => by
      obtain ⟨f2, ef⟩ : ∃ f2, f = f2 + 1 + 1 := ⟨f - 2, by omega⟩
      subst ef
      exact fct_a (r2 := rdr f2 2 o) (fa := rdr (f2 + 1) 8 (o + 1)) (r0 := rdr (f2 + 1) 0 (o + 1)) T R (sum_H T R d o f2 ho (by omega)) (fun h => (IH h).1 (f2 + 1) (by omega)) (fun h => (IH h).2 (f2 + 1) (by omega))
    refine ⟨F, fun f hf => ?_⟩
    obtain ⟨f4, ef⟩ : ∃ f4, f = f4 + 1 + 1 + 1 + 1 := ⟨f - 4, by omega⟩
    subst ef
    have HF := F f4 (by omega)
    have H5 : ∀ (Z : rZ) (q : pS), prI M tx L Z q o → cdI tx L Z q [] → tpT q → (q.2.2.2.2.2.1 = 0 ∨ (fun _ : Int32 => false) (q.2.2.2.2.2.2.2.2.2 (q.2.2.2.2.2.1 - 1)) = false) → resT9 M tx L Z q o (fun _ => false) (fun _ => True) (tsF M L 700 q) (rdr (f4 + 1) 5 o Z) := fun Z q I D tp _ => HF Z q I D (tp_P1 tp)
    have H4 : ∀ (Z : rZ) (q : pS), prI M tx L Z q o → cdI tx L Z q [] → tpT q → (q.2.2.2.2.2.1 = 0 ∨ PA (q.2.2.2.2.2.2.2.2.2 (q.2.2.2.2.2.1 - 1)) = false) → resT9 M tx L Z q o PA (fun t => rjn 1 t = false ∧ True) (tsF M L 700 q) (rdr (f4 + 1 + 1 + 1) 4 o Z) := fun Z q I D tp top => rowT_a (it := rdr (f4 + 1) 5 o) T R (Or.inl ⟨rfl, rfl, rfl⟩) H5 I D tp top
    intro Z q I D tp top
    exact rowT_a (it := rdr (f4 + 1 + 1 + 1) 4 o) T R (Or.inr ⟨rfl, rfl, rfl⟩) H4 I D tp top
