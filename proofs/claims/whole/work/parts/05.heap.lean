/-! ===== the abstract heap: how many cells, how many slots were made; of each cell its kind, its length, its ints, longs, references (addresses from the base on) ===== -/
abbrev hp_T : Type := Nat × Nat × (Nat → Nat) × (Nat → Nat) × (Nat → Nat → Int32) × (Nat → Nat → Int64) × (Nat → Nat → Option Nat)
def hp_n (h : hp_T) : Nat := h.1
def hp_s (h : hp_T) : Nat := h.2.1
def hp_tag (h : hp_T) : Nat → Nat := h.2.2.1
def hp_len (h : hp_T) : Nat → Nat := h.2.2.2.1
def hp_i (h : hp_T) : Nat → Nat → Int32 := h.2.2.2.2.1
def hp_l (h : hp_T) : Nat → Nat → Int64 := h.2.2.2.2.2.1
def hp_r (h : hp_T) : Nat → Nat → Option Nat := h.2.2.2.2.2.2
def up2 {α : Type} (f : Nat → Nat → α) (a k : Nat) (v : α) : Nat → Nat → α := fun x j => if x = a ∧ j = k then v else f x j
theorem up2_s {α : Type} (f : Nat → Nat → α) (a k : Nat) (v : α) : up2 f a k v a k = v := by simp [up2]
theorem up2_a {α : Type} (f : Nat → Nat → α) {a k x j : Nat} (v : α) (h : x ≠ a) : up2 f a k v x j = f x j := by simp [up2, h]
theorem up2_k {α : Type} (f : Nat → Nat → α) {a k x j : Nat} (v : α) (h : j ≠ k) : up2 f a k v x j = f x j := by simp [up2, h]
theorem up2_r {α : Type} (f : Nat → Nat → α) (a k : Nat) (v : α) : up2 f a k v a = va_up (f a) k v := by funext j; simp [up2, va_up]
def hp_setI (h : hp_T) (a k : Nat) (v : Int32) : hp_T := (h.1, h.2.1, h.2.2.1, h.2.2.2.1, up2 h.2.2.2.2.1 a k v, h.2.2.2.2.2.1, h.2.2.2.2.2.2)
def hp_setL (h : hp_T) (a k : Nat) (v : Int64) : hp_T := (h.1, h.2.1, h.2.2.1, h.2.2.2.1, h.2.2.2.2.1, up2 h.2.2.2.2.2.1 a k v, h.2.2.2.2.2.2)
def hp_setR (h : hp_T) (a k : Nat) (v : Option Nat) : hp_T := (h.1, h.2.1, h.2.2.1, h.2.2.2.1, h.2.2.2.2.1, h.2.2.2.2.2.1, up2 h.2.2.2.2.2.2 a k v)
/-- a new cell of kind t, of len places (an object: 0), of sl slots, all zero -/
def hp_new (h : hp_T) (t len sl : Nat) : hp_T := (h.1 + 1, h.2.1 + sl, va_up h.2.2.1 h.1 t, va_up h.2.2.2.1 h.1 len, va_up h.2.2.2.2.1 h.1 (fun _ => 0), va_up h.2.2.2.2.2.1 h.1 (fun _ => 0), va_up h.2.2.2.2.2.2 h.1 (fun _ => none))
/-- the surroundings: the base, the tables' classes, the array classes by kind, the addresses of what lies below the base -/
abbrev gE : Type := Nat × va_G × (Nat → ClassId) × (Nat → Nat)
def hp_ty (c : Nat) : Nat → FieldType := match c with
  | 0 => tyX0
  | 1 => tyX1
  | 2 => tyX2
  | 3 => tyX3
  | 4 => tyX4
  | 5 => tyX5
  | 6 => tyX6
  | 7 => tyX7
  | 8 => tyX8
  | 9 => tyX9
  | 10 => tyX10
  | 11 => tyX11
  | _ => tyX12
def hp_N (c : Nat) : Nat := match c with
  | 0 => 8
  | 1 => 17
  | 2 => 10
  | 3 => 5
  | 4 => 4
  | 5 => 16
  | 6 => 5
  | 7 => 6
  | 8 => 10
  | 9 => 14
  | 10 => 7
  | 11 => 12
  | _ => 114
/-- the kind of a field's value: 0 an int, 1 a long, 2 a reference -/
def hp_fk (ty : FieldType) : Nat := match ty with
  | .long => 1
  | .object _ => 2
  | .array _ => 2
  | _ => 0
def hp_fv (B : Nat) (h : hp_T) (a k fk : Nat) : Value := if fk = 1 then .long (hp_l h a k) else if fk = 2 then va_rf ((hp_r h a k).map (fun x => B + x)) else .int (hp_i h a k)
def hp_fs (B : Nat) (h : hp_T) (c a : Nat) : List Value := (List.range (hp_N c)).map (fun k => hp_fv B h a k (hp_fk (hp_ty c k)))
def hp_ar (B : Nat) (h : hp_T) (t a : Nat) : (Nat → Int32) ⊕ (Nat → Int64) ⊕ (Nat → UInt32) ⊕ (Nat → UInt64) ⊕ (Nat → Option Nat) := if t = 15 then .inr (.inl (hp_l h a)) else if 16 < t then .inr (.inr (.inr (.inr (fun j => (hp_r h a j).map (fun x => B + x))))) else .inl (hp_i h a)
def hp_E (E : gE) (h : hp_T) (a : Nat) : va_E := if hp_tag h a < 13 then .inr (hp_tag h a, hp_fs E.1 h (hp_tag h a) a) else .inl (E.2.2.1 (hp_tag h a), hp_len h a, hp_ar E.1 h (hp_tag h a) a)
def hp_ws (E : gE) (h : hp_T) : va_W := (List.range (hp_n h)).map (fun a => (E.1 + a, hp_E E h a))
def hp_at (t : Nat) : FieldType := match t with
  | 13 => .char
  | 14 => .int
  | 15 => .long
  | 16 => .boolean
  | 17 => .object RX10
  | 18 => .array .int
  | _ => .array .long
def hp_tys (E : gE) : List (ClassId × FieldType) := [(E.2.2.1 13, .char), (E.2.2.1 14, .int), (E.2.2.1 15, .long), (E.2.2.1 16, .boolean), (E.2.2.1 17, .object RX10), (E.2.2.1 18, .array .int), (E.2.2.1 19, .array .long)]
def gE_A (E : gE) : Nat → Prop := fun q => E.1 ≤ q
/-- the heap holds h: the cells from the base on -/
def hp_P (E : gE) (h : hp_T) (H : Heap) : Prop := (∀ a, hp_n h ≤ a → hp_tag h a = 99) ∧ va_P E.2.1 vwCl (hp_ws E h) H
theorem hp_lt {E : gE} {h : hp_T} {H : Heap} (hP : hp_P E h H) {a t : Nat} (ht : hp_tag h a = t) (h9 : t < 99) : a < hp_n h := by
  rcases Nat.lt_or_ge a (hp_n h) with q | q
  · exact q
  · exact absurd (ht.symm.trans (hP.1 a q)) (by omega)
theorem hp_get {E : gE} {h : hp_T} {a : Nat} (ha : a < hp_n h) : (hp_ws E h)[a]? = some (E.1 + a, hp_E E h a) := by
  unfold hp_ws
  rw [List.getElem?_map, List.getElem?_range ha]
  rfl
theorem hp_D (E : gE) (h : hp_T) : va_D (gE_A E) (hp_ws E h) := by
  have key : ∀ (k : Nat) (q : Nat × va_E), (hp_ws E h)[k]? = some q → q.1 = E.1 + k := by
    intro k q hq
    by_cases hk : k < hp_n h
    · rw [hp_get hk] at hq
      cases hq
      rfl
    · have : (hp_ws E h)[k]? = none := List.getElem?_eq_none (by simp [hp_ws]; omega)
      rw [this] at hq
      cases hq
  refine ⟨fun i j p q hi hj e => ?_, fun k q hq => ?_⟩
  · have := key i p hi
    have := key j q hj
    omega
  · show E.1 ≤ q.1
    have := key k q hq
    omega
theorem hp_wset {E : gE} {h h' : hp_T} {a : Nat} {e : va_E} (ha : a < hp_n h) (hn : hp_n h' = hp_n h) (he : hp_E E h' a = e) (ho : ∀ x, x ≠ a → hp_E E h' x = hp_E E h x) : (hp_ws E h).set a (E.1 + a, e) = hp_ws E h' := by
  apply List.ext_getElem?
  intro k
  rw [List.getElem?_set]
  by_cases hk : a = k
  · subst hk
    have hl : a < (hp_ws E h).length := by simp [hp_ws]; exact ha
    rw [if_pos rfl, if_pos hl, hp_get (by rw [hn]; exact ha), he]
  · rw [if_neg hk]
    by_cases hkn : k < hp_n h
    · rw [hp_get hkn, hp_get (by rw [hn]; exact hkn), ho k (Ne.symm hk)]
    · have e1 : (hp_ws E h)[k]? = none := List.getElem?_eq_none (by simp [hp_ws]; omega)
      have e2 : (hp_ws E h')[k]? = none := List.getElem?_eq_none (by simp [hp_ws, hn]; omega)
      rw [e1, e2]
theorem hp_obj {E : gE} {h : hp_T} {a c : Nat} (ht : hp_tag h a = c) (hc : c < 13) : hp_E E h a = .inr (c, hp_fs E.1 h c a) := by
  unfold hp_E
  rw [ht, if_pos hc]
theorem hp_arr {E : gE} {h : hp_T} {a t : Nat} (ht : hp_tag h a = t) (hc : 12 < t) : hp_E E h a = .inl (E.2.2.1 t, hp_len h a, hp_ar E.1 h t a) := by
  unfold hp_E
  rw [ht, if_neg (by omega)]
theorem hp_fs_get {B : Nat} {h : hp_T} {c a k : Nat} (hk : k < hp_N c) : (hp_fs B h c a)[k]? = some (hp_fv B h a k (hp_fk (hp_ty c k))) := by
  unfold hp_fs
  rw [List.getElem?_map, List.getElem?_range hk]
  rfl
theorem hp_fs_len {B : Nat} {h : hp_T} {c a : Nat} : (hp_fs B h c a).length = hp_N c := by simp [hp_fs]
theorem hp_fs_set {B : Nat} {h h' : hp_T} {c a k : Nat} {v : Value} (hk : k < hp_N c) (hv : hp_fv B h' a k (hp_fk (hp_ty c k)) = v) (ho : ∀ j, j ≠ k → hp_fv B h' a j (hp_fk (hp_ty c j)) = hp_fv B h a j (hp_fk (hp_ty c j))) : (hp_fs B h c a).set k v = hp_fs B h' c a := by
  apply List.ext_getElem?
  intro j
  rw [List.getElem?_set]
  by_cases hj : k = j
  · subst hj
    rw [if_pos rfl, if_pos (by rw [hp_fs_len]; exact hk), hp_fs_get hk, hv]
  · rw [if_neg hj]
    by_cases hjn : j < hp_N c
    · rw [hp_fs_get hjn, hp_fs_get hjn, ho j (Ne.symm hj)]
    · have e1 : (hp_fs B h c a)[j]? = none := List.getElem?_eq_none (by rw [hp_fs_len]; omega)
      have e2 : (hp_fs B h' c a)[j]? = none := List.getElem?_eq_none (by rw [hp_fs_len]; omega)
      rw [e1, e2]
/-- the cells of two heaps that differ at the address a alone -/
theorem hp_E_ne {E : gE} {h h' : hp_T} {x : Nat} (ht : hp_tag h' x = hp_tag h x) (hl : hp_len h' x = hp_len h x) (hi : hp_i h' x = hp_i h x) (hL : hp_l h' x = hp_l h x) (hr : hp_r h' x = hp_r h x) : hp_E E h' x = hp_E E h x := by
  unfold hp_E
  rw [ht, hl]
  have e1 : ∀ c, hp_fs E.1 h' c x = hp_fs E.1 h c x := fun c => by
    unfold hp_fs hp_fv
    rw [hi, hL, hr]
  have e2 : ∀ t, hp_ar E.1 h' t x = hp_ar E.1 h t x := fun t => by
    unfold hp_ar
    rw [hi, hL, hr]
  rw [e1, e2]
theorem hp_upne {α : Type} {f : Nat → Nat → α} {a k x : Nat} {v : α} (h : x ≠ a) : up2 f a k v x = f x := by funext j; simp [up2, h]
theorem hp_P_setI {E : gE} {h : hp_T} {H : Heap} {a k : Nat} {v : Int32} {e : va_E} (hP : hp_P E h H) (ha : a < hp_n h) (he : hp_E E (hp_setI h a k v) a = e) {H1 : Heap} (hP1 : va_P E.2.1 vwCl ((hp_ws E h).set a (E.1 + a, e)) H1) : hp_P E (hp_setI h a k v) H1 := by
  refine ⟨hP.1, ?_⟩
  have := hp_wset (E := E) (h' := hp_setI h a k v) ha rfl he (fun x hx => hp_E_ne rfl rfl (hp_upne hx) rfl rfl)
  rw [← this]
  exact hP1
theorem hp_P_setL {E : gE} {h : hp_T} {H : Heap} {a k : Nat} {v : Int64} {e : va_E} (hP : hp_P E h H) (ha : a < hp_n h) (he : hp_E E (hp_setL h a k v) a = e) {H1 : Heap} (hP1 : va_P E.2.1 vwCl ((hp_ws E h).set a (E.1 + a, e)) H1) : hp_P E (hp_setL h a k v) H1 := by
  refine ⟨hP.1, ?_⟩
  have := hp_wset (E := E) (h' := hp_setL h a k v) ha rfl he (fun x hx => hp_E_ne rfl rfl rfl (hp_upne hx) rfl)
  rw [← this]
  exact hP1
theorem hp_P_setR {E : gE} {h : hp_T} {H : Heap} {a k : Nat} {v : Option Nat} {e : va_E} (hP : hp_P E h H) (ha : a < hp_n h) (he : hp_E E (hp_setR h a k v) a = e) {H1 : Heap} (hP1 : va_P E.2.1 vwCl ((hp_ws E h).set a (E.1 + a, e)) H1) : hp_P E (hp_setR h a k v) H1 := by
  refine ⟨hP.1, ?_⟩
  have := hp_wset (E := E) (h' := hp_setR h a k v) ha rfl he (fun x hx => hp_E_ne rfl rfl rfl rfl (hp_upne hx))
  rw [← this]
  exact hP1
theorem hp_P_new {E : gE} {h : hp_T} {H H1 : Heap} {t len sl : Nat} {e : va_E} (hP : hp_P E h H) (he : hp_E E (hp_new h t len sl) (hp_n h) = e) (hP1 : va_P E.2.1 vwCl (hp_ws E h ++ [(E.1 + hp_n h, e)]) H1) : hp_P E (hp_new h t len sl) H1 := by
  refine ⟨fun a ha => ?_, ?_⟩
  · have h1 : hp_n h + 1 ≤ a := ha
    show va_up (hp_tag h) (hp_n h) t a = 99
    rw [va_up, if_neg (by omega)]
    exact hP.1 a (by omega)
  · have e0 : hp_ws E (hp_new h t len sl) = hp_ws E h ++ [(E.1 + hp_n h, e)] := by
      show (List.range (hp_n h + 1)).map _ = _
      rw [List.range_succ, List.map_append]
      congr 1
      · apply List.map_congr_left
        intro x hx
        have hx : x ≠ hp_n h := Nat.ne_of_lt (List.mem_range.mp hx)
        rw [hp_E_ne (h := h) (h' := hp_new h t len sl)]
        · exact if_neg hx
        · exact if_neg hx
        · exact if_neg hx
        · exact if_neg hx
        · exact if_neg hx
      · show [(E.1 + hp_n h, hp_E E (hp_new h t len sl) (hp_n h))] = _
        rw [he]
    rw [e0]
    exact hP1
theorem hp_size {E : gE} {h : hp_T} {H : Heap} (hP : hp_P E h H) (h0 : E.1 ≤ H.size) : E.1 + hp_n h ≤ H.size := by
  by_cases hn : hp_n h = 0
  · omega
  · have := (hP.2 _ _ (hp_get (E := E) (h := h) (a := hp_n h - 1) (by omega))).lt
    have h2 : E.1 + (hp_n h - 1) < H.size := this
    omega
