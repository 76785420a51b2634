/-! ===== the parsers agree: words ===== -/
/-- the word w stands at a -/
def isW (tx : Nat → Nat) (L : Nat) : Nat → List Nat → Bool
  | a, [] => !decide (a < L ∧ srt (tx a) = 1)
  | a, c :: w => decide (a < L ∧ srt (tx a) = 1) && decide (tx a = c) && isW tx L (a + 1) w
/-- the words of the class in their order -/
def wdC : List (List Nat) := [[119, 97, 108, 108], [116, 114, 97, 100, 101], [119, 111, 114, 116, 104], [115, 117, 109], [108, 111, 115, 115], [111, 116, 104, 101, 114, 115], [110, 101, 97, 114], [109, 105, 110], [109, 97, 120], [97, 108, 108], [111, 102, 102, 105, 99, 101], [110, 111, 116], [97, 110, 100], [111, 114], [99, 111, 118, 101, 114], [118, 111, 105, 100], [104, 101, 108, 112], [112, 97, 121], [112, 114, 101, 109, 105, 117, 109], [98, 101, 115, 105, 100, 101], [102, 105, 114, 115, 116], [112, 97, 114, 116, 115], [97, 102, 116, 101, 114]]
def flW : List (List Nat) → List Nat
  | [] => []
  | w :: ws => w ++ (32 :: flW ws)
theorem wb_fl : ∀ j, j < 121 → wb j = (flW wdC).getD j 0 := by decide +kernel
def wdL (tx : Nat → Nat) (L a : Nat) : List (List Nat) → Nat → Nat
  | [], _ => 25
  | w :: ws, k => if isW tx L a w = true then k else wdL tx L a ws (k + 1)
/-- one word of the table: the bytes that are left, then a blank -/
theorem wd_1 {tx : Nat → Nat} {L a wd : Nat} : ∀ (w : List Nat) (kz i : Nat) (sm : Bool), (∀ j, j < w.length → wb (121 - (kz + w.length + 1) + j) = w.getD j 0 ∧ ¬ w.getD j 0 = 32) → wb (121 - (kz + 1)) = 32 → kz + w.length + 1 ≤ 121 → wdS tx L a (kz + w.length + 1) wd i sm = if (sm && isW tx L i w) = true then wd else wdS tx L a kz (wd + 1) a true
  | [], kz, i, sm, _, h2, hk => by
    have e : wdS tx L a (kz + 1) wd i sm = if ¬ wb (120 - kz) = 32 then wdS tx L a kz wd (i + 1) (sm && decide (i < L ∧ srt (tx i) = 1) && decide (tx i = wb (120 - kz))) else if sm = true ∧ ¬ decide (i < L ∧ srt (tx i) = 1) = true then wd else wdS tx L a kz (wd + 1) a true := rfl
    have h3 : wb (120 - kz) = 32 := by
      have : 121 - (kz + 1) = 120 - kz := by omega
      rw [this] at h2
      exact h2
    show wdS tx L a (kz + 1) wd i sm = _
    rw [e, if_neg (fun z => z h3)]
    have ei : isW tx L i [] = !decide (i < L ∧ srt (tx i) = 1) := rfl
    rw [ei]
    cases sm with
    | false => exact (if_neg (fun z => Bool.noConfusion z.1)).trans (if_neg (fun z => Bool.noConfusion z)).symm
    | true =>
      cases decide (i < L ∧ srt (tx i) = 1) with
      | false => exact (if_pos ⟨rfl, fun z => Bool.noConfusion z⟩).trans (if_pos rfl).symm
      | true => exact (if_neg (fun z => z.2 rfl)).trans (if_neg (fun z => Bool.noConfusion z)).symm
  | c :: w, kz, i, sm, h1, h2, hk => by
    have hl : (c :: w).length = w.length + 1 := rfl
    rw [hl] at h1 hk ⊢
    have ih := wd_1 (tx := tx) (L := L) (a := a) (wd := wd) w kz (i + 1) (sm && decide (i < L ∧ srt (tx i) = 1) && decide (tx i = c)) (fun j hj => by
      have := h1 (j + 1) (by omega)
      rw [show 121 - (kz + (w.length + 1) + 1) + (j + 1) = 121 - (kz + w.length + 1) + j by omega] at this
      exact this) h2 (by omega)
    obtain ⟨c1, c2⟩ := h1 0 (by omega)
    rw [Nat.add_zero] at c1
    change wb _ = c at c1
    change ¬ c = 32 at c2
    have e : wdS tx L a (kz + w.length + 1 + 1) wd i sm = if ¬ wb (120 - (kz + w.length + 1)) = 32 then wdS tx L a (kz + w.length + 1) wd (i + 1) (sm && decide (i < L ∧ srt (tx i) = 1) && decide (tx i = wb (120 - (kz + w.length + 1)))) else if sm = true ∧ ¬ decide (i < L ∧ srt (tx i) = 1) = true then wd else wdS tx L a (kz + w.length + 1) (wd + 1) a true := rfl
    have ec : wb (120 - (kz + w.length + 1)) = c := by
      rw [← c1]
      congr 1
      omega
    show wdS tx L a (kz + w.length + 1 + 1) wd i sm = _
    rw [e, ec, if_pos c2, ih]
    have ei : isW tx L i (c :: w) = (decide (i < L ∧ srt (tx i) = 1) && decide (tx i = c) && isW tx L (i + 1) w) := rfl
    rw [ei]
    have eb : (sm && decide (i < L ∧ srt (tx i) = 1) && decide (tx i = c) && isW tx L (i + 1) w) = (sm && (decide (i < L ∧ srt (tx i) = 1) && decide (tx i = c) && isW tx L (i + 1) w)) := by
      cases sm <;> cases decide (i < L ∧ srt (tx i) = 1) <;> cases decide (tx i = c) <;> cases isW tx L (i + 1) w <;> rfl
    rw [eb]
theorem flW_len (w : List Nat) (ws : List (List Nat)) : (flW (w :: ws)).length = (flW ws).length + w.length + 1 := by
  show (w ++ (32 :: flW ws)).length = _
  rw [List.length_append]
  show w.length + ((flW ws).length + 1) = _
  omega
theorem getD_lo : ∀ (w v : List Nat) (j : Nat), j < w.length → (w ++ v).getD j 0 = w.getD j 0
  | [], _, _, h => absurd h (Nat.not_lt_zero _)
  | _ :: _, _, 0, _ => rfl
  | _ :: w, v, j + 1, h => getD_lo w v j (Nat.lt_of_succ_lt_succ h)
theorem getD_hi : ∀ (w v : List Nat) (j : Nat), (w ++ v).getD (w.length + j) 0 = v.getD j 0
  | [], v, j => by rw [show ([] : List Nat).length + j = j from Nat.zero_add j]; rfl
  | c :: w, v, j => by
    rw [show (c :: w).length + j = (w.length + j) + 1 by show w.length + 1 + j = _; omega]
    exact getD_hi w v j
theorem wd_all {tx : Nat → Nat} {L a : Nat} : ∀ (ws : List (List Nat)) (k : Nat), (∀ w, w ∈ ws → ∀ j, j < w.length → ¬ w.getD j 0 = 32) → (flW ws).length ≤ 121 → (∀ j, j < (flW ws).length → wb (121 - (flW ws).length + j) = (flW ws).getD j 0) → wdS tx L a (flW ws).length k a true = wdL tx L a ws k
  | [], _, _, _, _ => rfl
  | w :: ws, k, h1, h2, h3 => by
    rw [flW_len] at h2 h3 ⊢
    have ef : flW (w :: ws) = w ++ (32 :: flW ws) := rfl
    rw [ef] at h3
    rw [wd_1 w (flW ws).length a true (fun j hj => ⟨(h3 j (by omega)).trans (getD_lo w _ j hj), h1 w (List.mem_cons_self ..) j hj⟩) (by
      have := h3 w.length (by omega)
      rw [show 121 - ((flW ws).length + w.length + 1) + w.length = 121 - ((flW ws).length + 1) by omega] at this
      rw [this]
      exact getD_hi w (32 :: flW ws) 0) h2, wd_all ws (k + 1) (fun v hv => h1 v (List.mem_cons_of_mem _ hv)) (by omega) (fun j hj => by
      have := h3 (w.length + (j + 1)) (by omega)
      rw [show 121 - ((flW ws).length + w.length + 1) + (w.length + (j + 1)) = 121 - (flW ws).length + j by omega] at this
      rw [this]
      exact getD_hi w (32 :: flW ws) (j + 1))]
    rfl
theorem wrd_e {tx : Nat → Nat} {L a : Nat} : wrd tx L a = wdL tx L a wdC 0 := by
  have e : (flW wdC).length = 121 := by decide +kernel
  unfold wrd
  have h := wd_all (tx := tx) (L := L) (a := a) wdC 0 (by decide +kernel) (by rw [e]; exact Nat.le_refl _) (fun j hj => by
    rw [e] at hj ⊢
    rw [show 121 - 121 + j = j by omega]
    exact wb_fl j hj)
  rw [e] at h
  exact h
theorem isW_uni {tx : Nat → Nat} {L : Nat} : ∀ (a : Nat) (w v : List Nat), isW tx L a w = true → isW tx L a v = true → w = v
  | _, [], [], _, _ => rfl
  | a, [], c :: v, h1, h2 => by
    have e1 : isW tx L a [] = !decide (a < L ∧ srt (tx a) = 1) := rfl
    have e2 : isW tx L a (c :: v) = (decide (a < L ∧ srt (tx a) = 1) && decide (tx a = c) && isW tx L (a + 1) v) := rfl
    rw [e1] at h1
    rw [e2] at h2
    cases h : decide (a < L ∧ srt (tx a) = 1) with
    | false => rw [h] at h2; exact absurd h2 (fun z => Bool.noConfusion z)
    | true => rw [h] at h1; exact absurd h1 (fun z => Bool.noConfusion z)
  | a, c :: w, [], h2, h1 => by
    have e1 : isW tx L a [] = !decide (a < L ∧ srt (tx a) = 1) := rfl
    have e2 : isW tx L a (c :: w) = (decide (a < L ∧ srt (tx a) = 1) && decide (tx a = c) && isW tx L (a + 1) w) := rfl
    rw [e1] at h1
    rw [e2] at h2
    cases h : decide (a < L ∧ srt (tx a) = 1) with
    | false => rw [h] at h2; exact absurd h2 (fun z => Bool.noConfusion z)
    | true => rw [h] at h1; exact absurd h1 (fun z => Bool.noConfusion z)
  | a, c :: w, d :: v, h1, h2 => by
    have e1 : isW tx L a (c :: w) = (decide (a < L ∧ srt (tx a) = 1) && decide (tx a = c) && isW tx L (a + 1) w) := rfl
    have e2 : isW tx L a (d :: v) = (decide (a < L ∧ srt (tx a) = 1) && decide (tx a = d) && isW tx L (a + 1) v) := rfl
    rw [e1] at h1
    rw [e2] at h2
    simp only [Bool.and_eq_true, decide_eq_true_eq] at h1 h2
    rw [isW_uni (a + 1) w v h1.2 h2.2, ← h1.1.2, ← h2.1.2]
theorem wdL_sp {tx : Nat → Nat} {L a : Nat} : ∀ (ws : List (List Nat)) (k : Nat), (wdL tx L a ws k = 25 ∧ ∀ j, j < ws.length → ¬ isW tx L a (ws.getD j []) = true) ∨ ∃ j, j < ws.length ∧ wdL tx L a ws k = k + j ∧ isW tx L a (ws.getD j []) = true
  | [], _ => Or.inl ⟨rfl, fun j hj => absurd hj (Nat.not_lt_zero _)⟩
  | w :: ws, k => by
    have e : wdL tx L a (w :: ws) k = if isW tx L a w = true then k else wdL tx L a ws (k + 1) := rfl
    rw [e]
    by_cases q : isW tx L a w = true
    · rw [if_pos q]
      exact Or.inr ⟨0, Nat.zero_lt_succ _, rfl, q⟩
    · rw [if_neg q]
      rcases wdL_sp (tx := tx) (L := L) (a := a) ws (k + 1) with ⟨h1, h2⟩ | ⟨j, h1, h2, h3⟩
      · refine Or.inl ⟨h1, fun j hj => ?_⟩
        cases j with
        | zero => exact q
        | succ j => exact h2 j (Nat.lt_of_succ_lt_succ hj)
      · exact Or.inr ⟨j + 1, Nat.succ_lt_succ h1, h2.trans (by omega), h3⟩
/-- the class's word is k just where the k-th word stands -/
theorem wrd_iff {tx : Nat → Nat} {L a k : Nat} (hk : k < 23) : wrd tx L a = k ↔ isW tx L a (wdC.getD k []) = true := by
  have hl : wdC.length = 23 := rfl
  have hne : ∀ i, i < 23 → ∀ j, j < 23 → wdC.getD i [] = wdC.getD j [] → i = j := by decide +kernel
  rw [wrd_e]
  rcases wdL_sp (tx := tx) (L := L) (a := a) wdC 0 with ⟨h1, h2⟩ | ⟨j, h1, h2, h3⟩
  · rw [h1]
    exact ⟨fun e => absurd e (by omega), fun e => absurd e (h2 k (by omega))⟩
  · rw [h2, Nat.zero_add]
    refine ⟨fun e => by subst e; exact h3, fun e => hne j (by omega) k hk (isW_uni a _ _ h3 e)⟩
theorem wrd_le {tx : Nat → Nat} {L a : Nat} : wrd tx L a < 23 ∨ wrd tx L a = 25 := by
  have hl : wdC.length = 23 := rfl
  rw [wrd_e]
  rcases wdL_sp (tx := tx) (L := L) (a := a) wdC 0 with ⟨h1, -⟩ | ⟨j, h1, h2, -⟩
  · exact Or.inr h1
  · exact Or.inl (by omega)
