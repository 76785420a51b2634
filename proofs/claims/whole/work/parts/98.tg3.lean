/-! ===== the heap that the constructors make: references and numbers in the order in which they are written ===== -/
def rL9 : List (Nat × Nat × Nat × Nat) := [(0, 1, 3, 2), (0, 1, 4, 3), (0, 1, 5, 4), (0, 1, 6, 5), (0, 1, 7, 6), (0, 1, 8, 7), (0, 1, 9, 8), (1, 9, 120, 0), (0, 1, 10, 9), (0, 1, 11, 130), (0, 1, 12, 131), (0, 1, 13, 132), (0, 1, 14, 133), (0, 1, 15, 134), (1, 135, 9, 0), (0, 1, 16, 135), (0, 0, 0, 1), (0, 145, 1, 146), (0, 145, 2, 147), (0, 145, 3, 148), (0, 145, 4, 149), (0, 0, 1, 145), (0, 150, 5, 151), (0, 150, 6, 152), (0, 150, 7, 153), (0, 150, 8, 154), (0, 150, 9, 155), (0, 150, 10, 156), (0, 150, 11, 157), (0, 0, 2, 150), (0, 158, 2, 159), (0, 158, 3, 160), (0, 158, 4, 161), (0, 158, 5, 162), (0, 158, 6, 163), (0, 158, 7, 164), (0, 0, 3, 158), (0, 165, 1, 166), (0, 165, 2, 167), (0, 165, 3, 168), (0, 165, 4, 169), (0, 165, 5, 170), (0, 0, 4, 165), (0, 171, 2, 172), (0, 171, 3, 173), (0, 171, 0, 1), (0, 171, 1, 165), (0, 0, 5, 171), (0, 174, 3, 175), (0, 174, 4, 176), (0, 174, 7, 177), (0, 174, 8, 178), (0, 174, 9, 179), (0, 174, 10, 180), (0, 174, 11, 181), (0, 174, 12, 182), (0, 174, 13, 183), (0, 174, 14, 184), (0, 174, 15, 185), (0, 174, 5, 1), (0, 174, 6, 145), (0, 0, 6, 174), (0, 186, 0, 187), (0, 186, 1, 188), (0, 186, 2, 189), (0, 186, 3, 190), (0, 186, 7, 191), (0, 186, 8, 192), (0, 186, 4, 158), (0, 186, 5, 165), (0, 186, 6, 171), (0, 0, 7, 186), (0, 193, 3, 194), (0, 193, 4, 195), (0, 193, 7, 196), (0, 193, 8, 197), (0, 193, 9, 198), (0, 193, 10, 199), (0, 193, 11, 200), (0, 193, 12, 201), (0, 193, 13, 202), (0, 193, 14, 203), (0, 193, 15, 204), (0, 193, 5, 1), (0, 193, 6, 145), (0, 0, 8, 193), (0, 205, 0, 206), (0, 205, 1, 207), (0, 205, 2, 208), (0, 205, 3, 209), (0, 205, 7, 210), (0, 205, 8, 211), (0, 205, 4, 158), (0, 205, 5, 165), (0, 205, 6, 171), (0, 0, 9, 205), (1, 213, 9, 0), (0, 212, 1, 213), (1, 223, 9, 0), (0, 212, 2, 223), (1, 233, 9, 0), (0, 212, 3, 233), (0, 0, 10, 212), (0, 243, 2, 244), (0, 243, 3, 245), (0, 243, 6, 246), (0, 243, 4, 145), (0, 243, 5, 193), (0, 0, 11, 243), (0, 247, 0, 248), (0, 247, 9, 249), (0, 247, 10, 250), (0, 247, 11, 251), (0, 247, 12, 252), (0, 247, 13, 253), (0, 247, 14, 254), (0, 247, 15, 255), (0, 247, 16, 256), (0, 247, 17, 257), (0, 247, 18, 258), (0, 247, 19, 259), (0, 247, 20, 260), (0, 247, 21, 261), (0, 247, 22, 262), (0, 247, 23, 263), (0, 247, 24, 264), (0, 247, 25, 265), (0, 247, 26, 266), (0, 247, 27, 267), (0, 247, 28, 268), (0, 247, 29, 269), (0, 247, 30, 270), (0, 247, 31, 271), (0, 247, 32, 272), (0, 247, 33, 273), (0, 247, 34, 274), (0, 247, 35, 275), (0, 247, 36, 276), (0, 247, 38, 277), (0, 247, 44, 278), (0, 247, 45, 279), (0, 247, 46, 280), (0, 247, 47, 281), (0, 247, 48, 282), (0, 247, 49, 283), (0, 247, 50, 284), (0, 247, 51, 285), (0, 247, 52, 286), (0, 247, 53, 287), (0, 247, 55, 288), (0, 247, 56, 289), (0, 247, 57, 290), (0, 247, 58, 291), (0, 247, 59, 292), (0, 247, 61, 293), (0, 247, 63, 294), (0, 247, 64, 295), (0, 247, 65, 296), (0, 247, 66, 297), (0, 247, 67, 298), (0, 247, 69, 299), (0, 247, 75, 300), (0, 247, 76, 301), (0, 247, 77, 302), (0, 247, 78, 303), (0, 247, 79, 304), (0, 247, 80, 305), (0, 247, 81, 306), (0, 247, 82, 307), (0, 247, 83, 308), (0, 247, 84, 309), (0, 247, 85, 310), (0, 247, 86, 311), (0, 247, 87, 312), (0, 247, 88, 313), (0, 247, 89, 314), (0, 247, 93, 315), (0, 247, 94, 316), (0, 247, 95, 317), (0, 247, 96, 318), (0, 247, 97, 319), (0, 247, 98, 320), (0, 247, 99, 321), (0, 247, 100, 322), (0, 247, 101, 323), (0, 247, 102, 324), (0, 247, 104, 325), (0, 247, 105, 326), (0, 247, 106, 327), (0, 247, 107, 328), (0, 247, 108, 329), (0, 247, 109, 330), (0, 247, 110, 331), (0, 247, 113, 332)]
def wLa : List (Nat × Nat × Int32) := [(150, 2, -1), (158, 1, -1)]
def wLb : List (Nat × Nat × Int32) := [(247, 8, -1), (249, 0, 99), (249, 1, 111), (249, 2, 118), (249, 3, 101), (249, 4, 114), (250, 0, 118), (250, 1, 111), (250, 2, 105), (250, 3, 100), (251, 0, 104), (251, 1, 101), (251, 2, 108), (251, 3, 112), (252, 0, 112), (252, 1, 97), (252, 2, 121), (253, 0, 112), (253, 1, 114), (253, 2, 101), (253, 3, 109), (253, 4, 105), (253, 5, 117), (253, 6, 109), (254, 0, 98), (254, 1, 101), (254, 2, 115), (254, 3, 105), (254, 4, 100), (254, 5, 101), (255, 0, 102), (255, 1, 105), (255, 2, 114), (255, 3, 115), (255, 4, 116), (256, 0, 112), (256, 1, 97), (256, 2, 114), (256, 3, 116), (256, 4, 115), (257, 0, 97), (257, 1, 102), (257, 2, 116), (257, 3, 101), (257, 4, 114), (258, 0, 111), (258, 1, 114), (259, 0, 97), (259, 1, 110), (259, 2, 100), (260, 0, 110), (260, 1, 111), (260, 2, 116), (261, 0, 97), (261, 1, 108), (261, 2, 108), (262, 0, 111), (262, 1, 102), (262, 2, 102), (262, 3, 105), (262, 4, 99), (262, 5, 101), (263, 0, 119), (263, 1, 97), (263, 2, 108), (263, 3, 108), (264, 0, 116), (264, 1, 114), (264, 2, 97), (264, 3, 100), (264, 4, 101), (265, 0, 119), (265, 1, 111), (265, 2, 114), (265, 3, 116), (265, 4, 104), (266, 0, 115), (266, 1, 117), (266, 2, 109), (267, 0, 108), (267, 1, 111), (267, 2, 115), (267, 3, 115), (268, 0, 111), (268, 1, 116), (268, 2, 104), (268, 3, 101), (268, 4, 114), (268, 5, 115), (269, 0, 110), (269, 1, 101), (269, 2, 97), (269, 3, 114), (270, 0, 109), (270, 1, 105), (270, 2, 110), (271, 0, 109), (271, 1, 97), (271, 2, 120), (247, 42, 1), (247, 43, 1), (247, 68, -1)]
def rS9 (f : Nat → Nat → Option Nat) (q : Nat × Nat × Nat × Nat) : Nat → Nat → Option Nat := if q.1 = 0 then up2 f q.2.1 q.2.2.1 (some q.2.2.2) else (fun x => if x = q.2.1 then (fun j => if j < q.2.2.1 then some (q.2.1 + 1 + j) else none) else f x)
def rF (k : Nat) : Nat → Nat → Option Nat := itN (fun f i => rS9 f (rL9.getD i (0, 0, 0, 0))) (fun _ _ => none) k
def zF9 : Nat → Nat → Int32 := fun _ _ => 0
def wF (l : List (Nat × Nat × Int32)) (f0 : Nat → Nat → Int32) (j : Nat) : Nat → Nat → Int32 := itN (fun f i => up2 f (l.getD i (0, 0, 0)).1 (l.getD i (0, 0, 0)).2.1 (l.getD i (0, 0, 0)).2.2) f0 j
theorem rF_s (k : Nat) : rF (k + 1) = rS9 (rF k) (rL9.getD k (0, 0, 0, 0)) := rfl
theorem wF_s (l : List (Nat × Nat × Int32)) (f0 : Nat → Nat → Int32) (j : Nat) : wF l f0 (j + 1) = up2 (wF l f0 j) (l.getD j (0, 0, 0)).1 (l.getD j (0, 0, 0)).2.1 (l.getD j (0, 0, 0)).2.2 := rfl
/-- n cells made (s slots), k references, j numbers written -/
def wS (n s k : Nat) (j : Nat → Nat → Int32) (h : hp_T) : Prop := (hp_n h = n ∧ hp_s h = s) ∧ (∀ (a : Nat) (q : Nat × Nat), a < n → gr_tl[a]? = some q → hp_tag h a = q.1 ∧ hp_len h a = q.2) ∧ (hp_r h = rF k ∧ hp_i h = j ∧ hp_l h = fun _ _ => 0) ∧ ∀ x, n ≤ x → (hp_r h x = fun _ => none) ∧ hp_i h x = fun _ => 0
theorem w_tag {n s k a t l : Nat} {j : Nat → Nat → Int32} {h : hp_T} (W : wS n s k j h) (ha : a < n) (hq : gr_tl[a]? = some (t, l)) : hp_tag h a = t := (W.2.1 a (t, l) ha hq).1
theorem w_len {n s k a t l : Nat} {j : Nat → Nat → Int32} {h : hp_T} (W : wS n s k j h) (ha : a < n) (hq : gr_tl[a]? = some (t, l)) : hp_len h a = l := (W.2.1 a (t, l) ha hq).2
theorem w_ptr {n s k a f b : Nat} {j : Nat → Nat → Int32} {h : hp_T} (W : wS n s k j h) (hq : rF k a f = some b) : hp_r h a f = some b := by
  rw [W.2.2.1.1]
  exact hq
theorem w_new {n s k n' s' t len sl : Nat} {j : Nat → Nat → Int32} {h : hp_T} (W : wS n s k j h) (hq : gr_tl[n]? = some (t, len)) (hn : n' = n + 1) (hs : s' = s + sl) : wS n' s' k j (hp_new h t len sl) := by
  obtain ⟨⟨w1, w2⟩, w3, ⟨w4, w5, w6⟩, w7⟩ := W
  subst hn hs
  have en : hp_n h = n := w1
  refine ⟨⟨congrArg (· + 1) w1, congrArg (· + sl) w2⟩, fun a q ha hq2 => ?_, ⟨?_, ?_, ?_⟩, fun x hx => ?_⟩
  · by_cases e : a = n
    · subst e
      rw [hq] at hq2
      cases hq2
      rw [← en]
      exact ⟨hp_new_t h t len sl, hp_new_n h t len sl⟩
    · obtain ⟨q1, q2, -⟩ := hp_new_ne h t len sl (x := a) (by omega)
      rw [q1, q2]
      exact w3 a q (by omega) hq2
  · funext x
    by_cases e : x = hp_n h
    · rw [e, funext (hp_new_r h t len sl), ← w4]
      exact (w7 (hp_n h) (by omega)).1.symm
    · exact ((hp_new_ne h t len sl e).2.2.2.2).trans (congrFun w4 x)
  · funext x
    by_cases e : x = hp_n h
    · rw [e, funext (hp_new_i h t len sl), ← w5]
      exact (w7 (hp_n h) (by omega)).2.symm
    · exact ((hp_new_ne h t len sl e).2.2.1).trans (congrFun w5 x)
  · funext x
    by_cases e : x = hp_n h
    · rw [e, funext (hp_new_l h t len sl)]
    · exact ((hp_new_ne h t len sl e).2.2.2.1).trans (congrFun w6 x)
  · obtain ⟨-, -, q3, -, q5⟩ := hp_new_ne h t len sl (x := x) (by omega)
    rw [q3, q5]
    exact w7 x (by omega)
theorem w_ref {n s k k' a f b : Nat} {j : Nat → Nat → Int32} {h : hp_T} (W : wS n s k j h) (ha : a < n) (hk : k' = k + 1) (hq : rL9.getD k (0, 0, 0, 0) = (0, a, f, b)) : wS n s k' j (hp_setR h a f (some b)) := by
  obtain ⟨w1, w3, ⟨w4, w5, w6⟩, w7⟩ := W
  subst hk
  refine ⟨w1, w3, ⟨?_, w5, w6⟩, fun x hx => ⟨?_, (w7 x hx).2⟩⟩
  · rw [rF_s, hq, ← w4]
    rfl
  · exact (hp_upne (show x ≠ a by omega)).trans (w7 x hx).1
theorem w_int {n s k j j' a f : Nat} {l : List (Nat × Nat × Int32)} {f0 : Nat → Nat → Int32} {v : Int32} {h : hp_T} (W : wS n s k (wF l f0 j) h) (ha : a < n) (hj : j' = j + 1) (hq : l.getD j (0, 0, 0) = (a, f, v)) : wS n s k (wF l f0 j') (hp_setI h a f v) := by
  obtain ⟨w1, w3, ⟨w4, w5, w6⟩, w7⟩ := W
  subst hj
  refine ⟨w1, w3, ⟨w4, ?_, w6⟩, fun x hx => ⟨(w7 x hx).1, ?_⟩⟩
  · rw [wF_s, hq, ← w5]
    rfl
  · exact (hp_upne (show x ≠ a by omega)).trans (w7 x hx).2
theorem w_mn {n s k n' s' k' t t2 N K : Nat} {j : Nat → Nat → Int32} {h : hp_T} (W : wS n s k j h) (hn : n' = n + 1 + N) (hs : s' = s + N + N * K) (hq : gr_tl[n]? = some (t, N)) (hq2 : ∀ i, i < N → gr_tl[n + 1 + i]? = some (t2, K)) (hk : k' = k + 1) (hr : rL9.getD k (0, 0, 0, 0) = (1, n, N, 0)) : wS n' s' k' j (hp_mn h t t2 N K) := by
  obtain ⟨⟨w1, w2⟩, w3, ⟨w4, w5, w6⟩, w7⟩ := W
  subst hn hs hk
  have en : hp_n h = n := w1
  subst en
  refine ⟨⟨rfl, by rw [← w2]; rfl⟩, fun a q ha hq3 => ?_, ⟨?_, ?_, ?_⟩, fun x hx => ?_⟩
  · rcases Nat.lt_trichotomy a (hp_n h) with hl | he | hg
    · obtain ⟨q1, q2, -⟩ := mn_lo h t t2 N K hl
      rw [q1, q2]
      exact w3 a q hl hq3
    · subst he
      rw [hq] at hq3
      cases hq3
      exact ⟨(mn_at h t t2 N K).1, (mn_at h t t2 N K).2.1⟩
    · obtain ⟨i, hi, e⟩ : ∃ i, i < N ∧ a = hp_n h + 1 + i := ⟨a - hp_n h - 1, by omega, by omega⟩
      subst e
      rw [hq2 i hi] at hq3
      cases hq3
      exact ⟨(mn_in h t t2 N K hi).1, (mn_in h t t2 N K hi).2.1⟩
  · rw [rF_s, hr, ← w4]
    funext x
    show (if x = hp_n h then _ else if hp_n h < x ∧ x ≤ hp_n h + N then _ else hp_r h x) = (if x = hp_n h then _ else hp_r h x)
    by_cases e : x = hp_n h
    · rw [if_pos e, if_pos e]
    · rw [if_neg e, if_neg e]
      by_cases q : hp_n h < x ∧ x ≤ hp_n h + N
      · rw [if_pos q]
        exact (w7 x (by omega)).1.symm
      · rw [if_neg q]
  · rw [← w5]
    funext x
    show (if hp_n h ≤ x ∧ x ≤ hp_n h + N then _ else hp_i h x) = hp_i h x
    by_cases q : hp_n h ≤ x ∧ x ≤ hp_n h + N
    · rw [if_pos q]
      exact (w7 x q.1).2.symm
    · rw [if_neg q]
  · funext x
    show (if hp_n h ≤ x ∧ x ≤ hp_n h + N then _ else hp_l h x) = _
    by_cases q : hp_n h ≤ x ∧ x ≤ hp_n h + N
    · rw [if_pos q]
    · rw [if_neg q, w6]
  · refine ⟨?_, ?_⟩
    · show (if x = hp_n h then _ else if hp_n h < x ∧ x ≤ hp_n h + N then _ else hp_r h x) = _
      rw [if_neg (by omega), if_neg (by omega)]
      exact (w7 x (by omega)).1
    · show (if hp_n h ≤ x ∧ x ≤ hp_n h + N then _ else hp_i h x) = _
      rw [if_neg (by omega)]
      exact (w7 x (by omega)).2
/-- some heap behind, with a property -/
def gq (E : gE) (M : gM) (d pc : Nat) (lv : List (Nat × Value)) (st : List Value) (h : hp_T) (v : Option Value) (Q : hp_T → Prop) : Prop := ∃ h', gf E M d pc lv st h v h' ∧ Q h'
theorem gq_st {E : gE} {M : gM} {d pc pc2 : Nat} {lv lv2 : List (Nat × Value)} {st st2 : List Value} {h h2 : hp_T} {v : Option Value} {Q : hp_T → Prop} (f : ∀ h', gf E M d pc2 lv2 st2 h2 v h' → gf E M d pc lv st h v h') (k : gq E M d pc2 lv2 st2 h2 v Q) : gq E M d pc lv st h v Q := by
  obtain ⟨h', k1, k2⟩ := k
  exact ⟨h', f h' k1, k2⟩
theorem ms_18 {M : String} {i : Nat} (h : Cond.classLink M i "[[I" ∈ tt) : Cond.classLink M i ("[" ++ (FieldType.array (hp_at 14)).toString) ∈ tt := by
  have e : ("[" ++ (FieldType.array (hp_at 14)).toString) = "[[I" := by decide
  rw [e]
  exact h
theorem ms_19 {M : String} {i : Nat} (h : Cond.classLink M i "[[J" ∈ tt) : Cond.classLink M i ("[" ++ (FieldType.array (hp_at 15)).toString) ∈ tt := by
  have e : ("[" ++ (FieldType.array (hp_at 15)).toString) = "[[J" := by decide
  rw [e]
  exact h

theorem nw_X11_7 : (Jvm.Cond.classLink "PlateCity" (7 : Nat) "PlateCity$City") ∈ tt := mt_1 (List.mem_of_getElem? (i := 30) rfl) rfl
theorem ni_X1 : (Jvm.Cond.instantiable "PlateCity$City" (17 : Nat)) ∈ tt := mt_1 (List.mem_of_getElem? (i := 31) rfl) rfl
theorem na_boolean : (Jvm.Cond.arrayClass Jvm.ClassFile.FieldType.boolean) ∈ tt := mt_1 (List.mem_of_getElem? (i := 114) rfl) rfl
theorem na_int : (Jvm.Cond.arrayClass Jvm.ClassFile.FieldType.int) ∈ tt := mt_1 (List.mem_of_getElem? (i := 115) rfl) rfl
theorem nw_X1_34 : (Jvm.Cond.classLink "PlateCity$City" (34 : Nat) "[[I") ∈ tt := mt_1 (List.mem_of_getElem? (i := 36) rfl) rfl
theorem nw_X11_16 : (Jvm.Cond.classLink "PlateCity" (16 : Nat) "PlateCity$Engines") ∈ tt := mt_1 (List.mem_of_getElem? (i := 116) rfl) rfl
theorem ni_X3 : (Jvm.Cond.instantiable "PlateCity$Engines" (5 : Nat)) ∈ tt := mt_1 (List.mem_of_getElem? (i := 117) rfl) rfl
theorem nw_X11_23 : (Jvm.Cond.classLink "PlateCity" (23 : Nat) "PlateCity$Reader") ∈ tt := mt_1 (List.mem_of_getElem? (i := 145) rfl) rfl
theorem ni_X9 : (Jvm.Cond.instantiable "PlateCity$Reader" (14 : Nat)) ∈ tt := mt_1 (List.mem_of_getElem? (i := 146) rfl) rfl
theorem nw_X11_30 : (Jvm.Cond.classLink "PlateCity" (30 : Nat) "PlateCity$Acts") ∈ tt := mt_1 (List.mem_of_getElem? (i := 202) rfl) rfl
theorem ni_X0 : (Jvm.Cond.instantiable "PlateCity$Acts" (8 : Nat)) ∈ tt := mt_1 (List.mem_of_getElem? (i := 203) rfl) rfl
theorem nw_X0_25 : (Jvm.Cond.classLink "PlateCity$Acts" (25 : Nat) "PlateCity$Terms") ∈ tt := mt_1 (List.mem_of_getElem? (i := 208) rfl) rfl
theorem nw_X11_37 : (Jvm.Cond.classLink "PlateCity" (37 : Nat) "PlateCity$Known") ∈ tt := mt_2 (List.mem_of_getElem? (i := 6) rfl) rfl
theorem ni_X7 : (Jvm.Cond.instantiable "PlateCity$Known" (6 : Nat)) ∈ tt := mt_2 (List.mem_of_getElem? (i := 7) rfl) rfl
theorem nw_X7_9 : (Jvm.Cond.classLink "PlateCity$Known" (9 : Nat) "PlateCity$Terms") ∈ tt := mt_2 (List.mem_of_getElem? (i := 12) rfl) rfl
theorem nw_X11_44 : (Jvm.Cond.classLink "PlateCity" (44 : Nat) "PlateCity$Judge") ∈ tt := mt_2 (List.mem_of_getElem? (i := 43) rfl) rfl
theorem ni_X6 : (Jvm.Cond.instantiable "PlateCity$Judge" (5 : Nat)) ∈ tt := mt_2 (List.mem_of_getElem? (i := 44) rfl) rfl
theorem nw_X11_53 : (Jvm.Cond.classLink "PlateCity" (53 : Nat) "PlateCity$Fire") ∈ tt := mt_2 (List.mem_of_getElem? (i := 65) rfl) rfl
theorem ni_X5 : (Jvm.Cond.instantiable "PlateCity$Fire" (16 : Nat)) ∈ tt := mt_2 (List.mem_of_getElem? (i := 66) rfl) rfl
theorem nw_X11_62 : (Jvm.Cond.classLink "PlateCity" (62 : Nat) "PlateCity$Claims") ∈ tt := mt_2 (List.mem_of_getElem? (i := 126) rfl) rfl
theorem ni_X2 : (Jvm.Cond.instantiable "PlateCity$Claims" (10 : Nat)) ∈ tt := mt_2 (List.mem_of_getElem? (i := 127) rfl) rfl
theorem na_long : (Jvm.Cond.arrayClass Jvm.ClassFile.FieldType.long) ∈ tt := mt_2 (List.mem_of_getElem? (i := 167) rfl) rfl
theorem nw_X11_77 : (Jvm.Cond.classLink "PlateCity" (77 : Nat) "PlateCity$Fall") ∈ tt := mt_2 (List.mem_of_getElem? (i := 168) rfl) rfl
theorem ni_X4 : (Jvm.Cond.instantiable "PlateCity$Fall" (4 : Nat)) ∈ tt := mt_2 (List.mem_of_getElem? (i := 169) rfl) rfl
theorem nw_X4_9 : (Jvm.Cond.classLink "PlateCity$Fall" (9 : Nat) "[[J") ∈ tt := mt_2 (List.mem_of_getElem? (i := 174) rfl) rfl
theorem nw_X11_84 : (Jvm.Cond.classLink "PlateCity" (84 : Nat) "PlateCity$Planner") ∈ tt := mt_2 (List.mem_of_getElem? (i := 190) rfl) rfl
theorem ni_X8 : (Jvm.Cond.instantiable "PlateCity$Planner" (10 : Nat)) ∈ tt := mt_2 (List.mem_of_getElem? (i := 191) rfl) rfl
theorem na_char : (Jvm.Cond.arrayClass Jvm.ClassFile.FieldType.char) ∈ tt := mt_7 (List.mem_of_getElem? (i := 140) rfl) rfl
