/-! ===== class against reference: lists of acts ===== -/
theorem it_inv {α : Type} {f f1 : α → Nat → α} {P : α → Prop} {x : α} (h0 : P x) : ∀ n, (∀ j, j < n → ∀ z, P z → f z j = f1 z j ∧ P (f1 z j)) → itN f x n = itN f1 x n ∧ P (itN f1 x n)
  | 0, _ => ⟨rfl, h0⟩
  | n + 1, h => by
    obtain ⟨e, p⟩ := it_inv h0 n (fun j hj => h j (by omega))
    rw [itN_s, itN_s, e]
    exact h n (by omega) _ p
theorem it_flt {α : Type} {q : Nat → Bool} {L : Nat → Nat} (f : α → Nat → α) (x : α) : ∀ n, (∀ k, k < n → q k = true → L (fa_cnt q k) = k) → itN (fun z i => f z (L i)) x (fa_cnt q n) = itN (fun z k => if q k = true then f z k else z) x n
  | 0, _ => rfl
  | n + 1, h => by
    have ih := it_flt f x n (fun k hk => h k (by omega))
    rw [itN_s (fun z k => if q k = true then f z k else z)]
    by_cases e : q n = true
    · rw [fa_cnt_yes e, itN_s, ih, h n (by omega) e, if_pos e]
    · rw [fa_cnt_no (Bool.eq_false_iff.mpr e), ih, if_neg e]
theorem flt_at {q : Nat → Bool} {L : Nat → Nat} : ∀ n, (∀ k, k < n → q k = true → L (fa_cnt q k) = k) → ∀ i, i < fa_cnt q n → L i < n ∧ q (L i) = true ∧ fa_cnt q (L i) = i
  | 0, _, i, hi => absurd hi (Nat.not_lt_zero i)
  | n + 1, h, i, hi => by
    have ih := flt_at n (fun k hk => h k (by omega)) i
    by_cases e : q n = true
    · rw [fa_cnt_yes e] at hi
      by_cases e2 : i = fa_cnt q n
      · subst e2
        rw [h n (by omega) e]
        exact ⟨by omega, e, rfl⟩
      · obtain ⟨a1, a2, a3⟩ := ih (by omega)
        exact ⟨by omega, a2, a3⟩
    · rw [fa_cnt_no (Bool.eq_false_iff.mpr e)] at hi
      obtain ⟨a1, a2, a3⟩ := ih hi
      exact ⟨by omega, a2, a3⟩
/-- the acts a 0, a 1 .. are those of the claims on the cell, in order -/
def lstI (M : mM) (c : Int32) (n m : Nat) (a : Nat → Nat) : Prop := ∃ (q : Nat → Bool) (L : Nat → Nat), m = fa_cnt q n ∧ (∀ k, k < n → q k = true → L (fa_cnt q k) = k) ∧ (∀ i, i < m → a i = L i + 1) ∧ ∀ k, k < n → (q k = true ↔ ¬ M 66 (k + 1) = 0 ∧ M 49 (k + 1) = c)
theorem lst_it {α : Type} {M : mM} {c : Int32} {n m : Nat} {a : Nat → Nat} (I : lstI M c n m a) (g : α → Nat → α) (x : α) : itN (fun z k => if ¬ M 66 (k + 1) = 0 ∧ M 49 (k + 1) = c then g z (k + 1) else z) x n = itN (fun z i => g z (a i)) x m := by
  obtain ⟨q, L, hm, hL, ha, hq⟩ := I
  have h1 : itN (fun z k => if ¬ M 66 (k + 1) = 0 ∧ M 49 (k + 1) = c then g z (k + 1) else z) x n = itN (fun z k => if q k = true then g z (k + 1) else z) x n := itN_ext n (fun k hk z => by
    by_cases e : q k = true
    · rw [if_pos e, if_pos ((hq k hk).mp e)]
    · rw [if_neg e, if_neg (fun y => e ((hq k hk).mpr y))])
  rw [h1, ← it_flt (L := L) (fun z k => g z (k + 1)) x n hL, hm]
  exact itN_ext _ (fun i hi z => by rw [ha i (by omega)])
theorem lst_in {M : mM} {c : Int32} {n m : Nat} {a : Nat → Nat} (I : lstI M c n m a) : m ≤ n ∧ ∀ i, i < m → (1 ≤ a i ∧ a i ≤ n) ∧ ¬ M 66 (a i) = 0 ∧ M 49 (a i) = c := by
  obtain ⟨q, L, hm, hL, ha, hq⟩ := I
  refine ⟨by rw [hm]; exact fa_cnt_le q n, fun i hi => ?_⟩
  obtain ⟨b1, b2, b3⟩ := flt_at n hL i (by omega)
  rw [ha i hi]
  exact ⟨⟨by omega, by omega⟩, (hq _ b1).mp b2⟩
theorem lst_lt {M : mM} {c : Int32} {n m : Nat} {a : Nat → Nat} (I : lstI M c n m a) {i j : Nat} (hi : i < m) (hj : j < m) : i < j ↔ a i < a j := by
  obtain ⟨q, L, hm, hL, ha, hq⟩ := I
  obtain ⟨b1, b2, b3⟩ := flt_at n hL i (by omega)
  obtain ⟨c1, c2, c3⟩ := flt_at n hL j (by omega)
  rw [ha i hi, ha j hj]
  refine ⟨fun h => ?_, fun h => ?_⟩
  · rcases Nat.lt_or_ge (L i) (L j) with y | y
    · omega
    · have := fa_cnt_mono q y
      omega
  · have e := fa_cnt_mono q (show L i + 1 ≤ L j by omega)
    rw [fa_cnt_yes b2] at e
    omega
theorem lstI_fr {M M1 : mM} {c : Int32} {n m : Nat} {a : Nat → Nat} (e : M1 66 = M 66) (e2 : M1 49 = M 49) (I : lstI M c n m a) : lstI M1 c n m a := by
  unfold lstI
  rw [e, e2]
  exact I
/-! the reference's loops over a house's claims, by the list -/
def inrL (how : Int32) (a : Nat → Nat) (z : mM × Int32) (i : Nat) : mM × Int32 := if z.1 65 (a i) = how then (up2 z.1 64 (a i) (mn2 (z.1 63 (a i)) z.2), z.2 - mn2 (z.1 63 (a i)) z.2) else z
theorem mn2_le (x y : Int32) : (if y ≤ x then y else x) = mn2 x y := by
  unfold mn2
  by_cases q : y < x
  · rw [if_pos q, if_pos (by rw [fa_lt] at q; rw [fa_le]; omega)]
  · rw [if_neg q]
    split
    · rename_i z
      rw [fa_lt] at q
      rw [fa_le] at z
      rw [fa_eq]
      omega
    · rfl
theorem inrS_L {M : mM} {c how left : Int32} {n m : Nat} {a : Nat → Nat} (I : lstI M c n m a) : inrS n c how left M = itN (inrL how a) (M, left) m := by
  unfold inrS
  have h1 := it_inv (f := inrB c how) (f1 := fun z k => if ¬ M 66 (k + 1) = 0 ∧ M 49 (k + 1) = c then (if z.1 65 (k + 1) = how then (up2 z.1 64 (k + 1) (mn2 (z.1 63 (k + 1)) z.2), z.2 - mn2 (z.1 63 (k + 1)) z.2) else z) else z) (P := fun z : mM × Int32 => z.1 66 = M 66 ∧ z.1 49 = M 49) (x := (M, left)) ⟨rfl, rfl⟩ n (fun k hk z p => by
    obtain ⟨p1, p2⟩ := p
    refine ⟨?_, ?_⟩
    · unfold inrB
      rw [p1, p2]
      by_cases e1 : M 66 (k + 1) = 0
      · have e12 : ¬ (¬ M 66 (k + 1) = 0 ∧ M 49 (k + 1) = c) := fun y => y.1 e1
        rw [if_pos e1, if_neg e12]
      · rw [if_neg e1]
        by_cases e2 : M 49 (k + 1) = c
        · have e12 : ¬ M 66 (k + 1) = 0 ∧ M 49 (k + 1) = c := ⟨e1, e2⟩
          rw [if_pos e2, if_pos e12]
          by_cases e3 : z.1 65 (k + 1) = how
          · rw [if_pos e3, if_pos e3, ← mn2_le]
            by_cases e4 : z.2 ≤ z.1 63 (k + 1)
            · rw [if_pos e4, if_pos e4, up2_s]
            · rw [if_neg e4, if_neg e4, up2_s]
          · rw [if_neg e3, if_neg e3]
        · have e12 : ¬ (¬ M 66 (k + 1) = 0 ∧ M 49 (k + 1) = c) := fun y => e2 y.2
          rw [if_neg e2, if_neg e12]
    · split
      · split
        · refine ⟨Eq.trans ?_ p1, Eq.trans ?_ p2⟩
          · dsimp only
            exact up2_row (by decide)
          · dsimp only
            exact up2_row (by decide)
        · exact ⟨p1, p2⟩
      · exact ⟨p1, p2⟩)
  rw [h1.1]
  exact lst_it I (fun z k => if z.1 65 k = how then (up2 z.1 64 k (mn2 (z.1 63 k) z.2), z.2 - mn2 (z.1 63 k) z.2) else z) (M, left)
theorem bpaS_L {M : mM} {c : Int32} {n m : Nat} {a : Nat → Nat} (I : lstI M c n m a) : bpaS n c M = itN (fun z i => if M 65 (a i) = 1 then z + Int32.toInt64 (M 63 (a i)) else z) 0 m := by
  unfold bpaS
  rw [← lst_it I (fun z k => if M 65 k = 1 then z + Int32.toInt64 (M 63 k) else z) 0]
  refine itN_ext n (fun k hk z => ?_)
  unfold bpaB
  by_cases e1 : M 66 (k + 1) = 0
  · have e12 : ¬ (¬ M 66 (k + 1) = 0 ∧ M 49 (k + 1) = c) := fun y => y.1 e1
    rw [if_pos e1, if_neg e12]
  · rw [if_neg e1]
    by_cases e2 : M 49 (k + 1) = c
    · have e12 : ¬ M 66 (k + 1) = 0 ∧ M 49 (k + 1) = c := ⟨e1, e2⟩
      rw [if_pos e2, if_pos e12]
    · have e12 : ¬ (¬ M 66 (k + 1) = 0 ∧ M 49 (k + 1) = c) := fun y => e2 y.2
      rw [if_neg e2, if_neg e12]
def bpfL (left : Int32) (al : Int64) (a : Nat → Nat) (z : (mM × mN) × Int32) (i : Nat) : (mM × mN) × Int32 := if z.1.1 65 (a i) = 1 then ((up2 z.1.1 64 (a i) (Int64.toInt32 (Int32.toInt64 left * Int32.toInt64 (z.1.1 63 (a i)) / al)), up2 z.1.2 67 (a i) (Int32.toInt64 left * Int32.toInt64 (z.1.1 63 (a i)) - Int32.toInt64 left * Int32.toInt64 (z.1.1 63 (a i)) / al * al)), z.2 - Int64.toInt32 (Int32.toInt64 left * Int32.toInt64 (z.1.1 63 (a i)) / al)) else z
theorem bpfS_L {M : mM} {N : mN} {c left : Int32} {al : Int64} {n m : Nat} {a : Nat → Nat} (I : lstI M c n m a) : itN (bpfB c left al) ((M, N), left) n = itN (bpfL left al a) ((M, N), left) m := by
  have h1 := it_inv (f := bpfB c left al) (f1 := fun z k => if ¬ M 66 (k + 1) = 0 ∧ M 49 (k + 1) = c then (if z.1.1 65 (k + 1) = 1 then ((up2 z.1.1 64 (k + 1) (Int64.toInt32 (Int32.toInt64 left * Int32.toInt64 (z.1.1 63 (k + 1)) / al)), up2 z.1.2 67 (k + 1) (Int32.toInt64 left * Int32.toInt64 (z.1.1 63 (k + 1)) - Int32.toInt64 left * Int32.toInt64 (z.1.1 63 (k + 1)) / al * al)), z.2 - Int64.toInt32 (Int32.toInt64 left * Int32.toInt64 (z.1.1 63 (k + 1)) / al)) else z) else z) (P := fun z : (mM × mN) × Int32 => z.1.1 66 = M 66 ∧ z.1.1 49 = M 49) (x := ((M, N), left)) ⟨rfl, rfl⟩ n (fun k hk z p => by
    obtain ⟨p1, p2⟩ := p
    refine ⟨?_, ?_⟩
    · unfold bpfB
      rw [p1, p2]
      by_cases e1 : M 66 (k + 1) = 0
      · have e12 : ¬ (¬ M 66 (k + 1) = 0 ∧ M 49 (k + 1) = c) := fun y => y.1 e1
        rw [if_pos e1, if_neg e12]
      · rw [if_neg e1]
        by_cases e2 : M 49 (k + 1) = c
        · have e12 : ¬ M 66 (k + 1) = 0 ∧ M 49 (k + 1) = c := ⟨e1, e2⟩
          rw [if_pos e2, if_pos e12]
          by_cases e3 : z.1.1 65 (k + 1) = 1
          · rw [if_pos e3, if_pos e3, up2_s]
          · rw [if_neg e3, if_neg e3]
        · have e12 : ¬ (¬ M 66 (k + 1) = 0 ∧ M 49 (k + 1) = c) := fun y => e2 y.2
          rw [if_neg e2, if_neg e12]
    · split
      · split
        · refine ⟨Eq.trans ?_ p1, Eq.trans ?_ p2⟩
          · dsimp only
            exact up2_row (by decide)
          · dsimp only
            exact up2_row (by decide)
        · exact ⟨p1, p2⟩
      · exact ⟨p1, p2⟩)
  rw [h1.1]
  exact lst_it I (fun z k => if z.1.1 65 k = 1 then ((up2 z.1.1 64 k (Int64.toInt32 (Int32.toInt64 left * Int32.toInt64 (z.1.1 63 k) / al)), up2 z.1.2 67 k (Int32.toInt64 left * Int32.toInt64 (z.1.1 63 k) - Int32.toInt64 left * Int32.toInt64 (z.1.1 63 k) / al * al)), z.2 - Int64.toInt32 (Int32.toInt64 left * Int32.toInt64 (z.1.1 63 k) / al)) else z) ((M, N), left)
def bpgL (M : mM) (N : mN) (a : Nat → Nat) (z : Int32) (i : Nat) : Int32 := if M 65 (a i) = 1 then (if z = 0 then nI (a i) else if lg_cmp (N 67 (a i)) (N 67 z.toNatClampNeg) ≤ 0 then z else nI (a i)) else z
theorem bpgS_L {M : mM} {N : mN} {c : Int32} {n m : Nat} {a : Nat → Nat} (I : lstI M c n m a) : bpgS n c M N = (itN (bpgL M N a) 0 m).toNatClampNeg := by
  unfold bpgS
  refine congrArg Int32.toNatClampNeg ?_
  refine Eq.trans ?_ (lst_it I (fun z k => if M 65 k = 1 then (if z = 0 then nI k else if lg_cmp (N 67 k) (N 67 z.toNatClampNeg) ≤ 0 then z else nI k) else z) 0)
  refine itN_ext n (fun k hk z => ?_)
  unfold bpgB
  by_cases e1 : M 66 (k + 1) = 0
  · have e12 : ¬ (¬ M 66 (k + 1) = 0 ∧ M 49 (k + 1) = c) := fun y => y.1 e1
    rw [if_pos e1, if_neg e12]
  · rw [if_neg e1]
    by_cases e2 : M 49 (k + 1) = c
    · have e12 : ¬ M 66 (k + 1) = 0 ∧ M 49 (k + 1) = c := ⟨e1, e2⟩
      rw [if_pos e2, if_pos e12]
    · have e12 : ¬ (¬ M 66 (k + 1) = 0 ∧ M 49 (k + 1) = c) := fun y => e2 y.2
      rw [if_neg e2, if_neg e12]
