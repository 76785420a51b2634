/-! ===== the class: what is known at an act ===== -/
/-- the references of one cell as a function -/
def hrr (h : hp_T) (m : Nat) (f : Nat → Option Nat) : hp_T := (h.1, h.2.1, h.2.2.1, h.2.2.2.1, h.2.2.2.2.1, h.2.2.2.2.2.1, (fun x => if x = m then f else h.2.2.2.2.2.2 x))
theorem hrr_set (h : hp_T) (m : Nat) (f : Nat → Option Nat) (k : Nat) (v : Option Nat) : hp_setR (hrr h m f) m k v = hrr h m (va_up f k v) := by
  unfold hp_setR hrr
  refine congrArg (fun z => (h.1, h.2.1, h.2.2.1, h.2.2.2.1, h.2.2.2.2.1, h.2.2.2.2.2.1, z)) ?_
  funext x i
  by_cases hx : x = m
  · subst hx
    simp [up2, va_up]
  · simp [up2, hx]
theorem hrr_id (h : hp_T) (m : Nat) : hrr h m (hp_r h m) = h := by
  obtain ⟨a, bb, cc, dd, ee, ff, gg⟩ := h
  refine congrArg (fun z => (a, bb, cc, dd, ee, ff, z)) ?_
  funext x
  by_cases hx : x = m
  · subst hx; exact if_pos rfl
  · exact if_neg hx
theorem hrr_at (h : hp_T) (m : Nat) (f : Nat → Option Nat) : hp_r (hrr h m f) m = f := if_pos rfl
theorem gr_hrr {h : hp_T} {a : Nat} {f : Nat → Option Nat} (ha : gr_rl.all (fun q => !(q.1 == a)) = true) (g : gr h) : gr (hrr h a f) := by
  refine ⟨g.1, g.2.1, fun i q hq => ?_⟩
  have h1 := List.all_eq_true.mp ha q (List.mem_of_getElem? hq)
  have h2 : ¬ q.1 = a := fun e => by rw [e] at h1; simp at h1
  show (if q.1 = a then f else hp_r h q.1) q.2.1 = _
  rw [if_neg h2]
  exact g.2.2 i q hq
abbrev kS : Type := (Nat → Nat → Int32) × (Nat → Option Nat)
/-- the heap with Known's cells: ints, and the terms by office -/
def hk (h : hp_T) (S : kS) : hp_T := hrr (hb h 165 9 S.1) 166 S.2
theorem gr_k {h : hp_T} (S : kS) (g : gr h) : gr (hk h S) := gr_hrr (h := hb h 165 9 S.1) (by decide +kernel) g
theorem hk_id (h : hp_T) : hk h (fun o => hp_i h (165 + o), hp_r h 166) = h := by
  show hrr (hb h 165 9 (fun o => hp_i h (165 + o))) 166 (hp_r h 166) = h
  rw [hb_id]
  exact hrr_id h 166
theorem hk_r (h : hp_T) (S : kS) (k : Nat) (v : Option Nat) : hp_setR (hk h S) 166 k v = hk h (S.1, va_up S.2 k v) := hrr_set _ _ _ _ _
theorem hk_0 (h : hp_T) (S : kS) (k : Nat) (v : Int32) : hp_setI (hk h S) 165 k v = hk h (up2 S.1 0 k v, S.2) := by
  show hrr (hp_setI (hb h 165 9 S.1) 165 k v) 166 S.2 = _
  rw [show hp_setI (hb h 165 9 S.1) 165 k v = hb h 165 9 (up2 S.1 0 k v) from hb_set h (b := 165) (n := 9) (o := 0) S.1 (by decide) k v]
  rfl
theorem hk_1 (h : hp_T) (S : kS) (k : Nat) (v : Int32) : hp_setI (hk h S) 166 k v = hk h (up2 S.1 1 k v, S.2) := by
  show hrr (hp_setI (hb h 165 9 S.1) 166 k v) 166 S.2 = _
  rw [show hp_setI (hb h 165 9 S.1) 166 k v = hb h 165 9 (up2 S.1 1 k v) from hb_set h (b := 165) (n := 9) (o := 1) S.1 (by decide) k v]
  rfl
theorem hk_2 (h : hp_T) (S : kS) (k : Nat) (v : Int32) : hp_setI (hk h S) 167 k v = hk h (up2 S.1 2 k v, S.2) := by
  show hrr (hp_setI (hb h 165 9 S.1) 167 k v) 166 S.2 = _
  rw [show hp_setI (hb h 165 9 S.1) 167 k v = hb h 165 9 (up2 S.1 2 k v) from hb_set h (b := 165) (n := 9) (o := 2) S.1 (by decide) k v]
  rfl
theorem hk_3 (h : hp_T) (S : kS) (k : Nat) (v : Int32) : hp_setI (hk h S) 168 k v = hk h (up2 S.1 3 k v, S.2) := by
  show hrr (hp_setI (hb h 165 9 S.1) 168 k v) 166 S.2 = _
  rw [show hp_setI (hb h 165 9 S.1) 168 k v = hb h 165 9 (up2 S.1 3 k v) from hb_set h (b := 165) (n := 9) (o := 3) S.1 (by decide) k v]
  rfl
theorem hk_4 (h : hp_T) (S : kS) (k : Nat) (v : Int32) : hp_setI (hk h S) 169 k v = hk h (up2 S.1 4 k v, S.2) := by
  show hrr (hp_setI (hb h 165 9 S.1) 169 k v) 166 S.2 = _
  rw [show hp_setI (hb h 165 9 S.1) 169 k v = hb h 165 9 (up2 S.1 4 k v) from hb_set h (b := 165) (n := 9) (o := 4) S.1 (by decide) k v]
  rfl
theorem hk_5 (h : hp_T) (S : kS) (k : Nat) (v : Int32) : hp_setI (hk h S) 170 k v = hk h (up2 S.1 5 k v, S.2) := by
  show hrr (hp_setI (hb h 165 9 S.1) 170 k v) 166 S.2 = _
  rw [show hp_setI (hb h 165 9 S.1) 170 k v = hb h 165 9 (up2 S.1 5 k v) from hb_set h (b := 165) (n := 9) (o := 5) S.1 (by decide) k v]
  rfl
theorem hk_6 (h : hp_T) (S : kS) (k : Nat) (v : Int32) : hp_setI (hk h S) 171 k v = hk h (up2 S.1 6 k v, S.2) := by
  show hrr (hp_setI (hb h 165 9 S.1) 171 k v) 166 S.2 = _
  rw [show hp_setI (hb h 165 9 S.1) 171 k v = hb h 165 9 (up2 S.1 6 k v) from hb_set h (b := 165) (n := 9) (o := 6) S.1 (by decide) k v]
  rfl
theorem hk_7 (h : hp_T) (S : kS) (k : Nat) (v : Int32) : hp_setI (hk h S) 172 k v = hk h (up2 S.1 7 k v, S.2) := by
  show hrr (hp_setI (hb h 165 9 S.1) 172 k v) 166 S.2 = _
  rw [show hp_setI (hb h 165 9 S.1) 172 k v = hb h 165 9 (up2 S.1 7 k v) from hb_set h (b := 165) (n := 9) (o := 7) S.1 (by decide) k v]
  rfl
theorem hk_8 (h : hp_T) (S : kS) (k : Nat) (v : Int32) : hp_setI (hk h S) 173 k v = hk h (up2 S.1 8 k v, S.2) := by
  show hrr (hp_setI (hb h 165 9 S.1) 173 k v) 166 S.2 = _
  rw [show hp_setI (hb h 165 9 S.1) 173 k v = hb h 165 9 (up2 S.1 8 k v) from hb_set h (b := 165) (n := 9) (o := 8) S.1 (by decide) k v]
  rfl
/-- one act is noted -/
def notS (F : Nat → Nat → Int32) (R : Nat → Option Nat) (S : kS) (a : Nat) : kS :=
  if F 163 a = 1 then (S.1, va_up S.2 (F 159 a).toNatClampNeg (R a))
  else if F 163 a = 2 then (up2 (up2 (up2 (up2 S.1 3 (F 160 a).toNatClampNeg (S.1 3 (F 160 a).toNatClampNeg ||| (1 <<< (F 159 a &&& 31)))) 4 (F 160 a).toNatClampNeg (S.1 4 (F 160 a).toNatClampNeg + 1)) 2 (S.1 0 0).toNatClampNeg (nI a)) 0 0 (S.1 0 0 + 1), S.2)
  else S
/-- the acts 1 .. n are in order: of terms, of a policy, of a void -/
def actI (h : hp_T) (n : Nat) : Prop := n ≤ 200 ∧ hp_i h 158 0 = nI n ∧ ∀ a, 1 ≤ a → a ≤ n → (hp_i h 163 a = 1 ∨ hp_i h 163 a = 2 ∨ hp_i h 163 a = 3) ∧ (¬ hp_i h 163 a = 3 → ∃ x, x < 9 ∧ hp_i h 159 a = nI x) ∧ (hp_i h 163 a = 1 → ∃ b, 333 ≤ b ∧ hp_r h 162 a = some b ∧ hp_tag h b = 10) ∧ (hp_i h 163 a = 2 → (∃ c, c < 120 ∧ hp_i h 160 a = nI c) ∧ ∃ v, v < 100000 ∧ hp_i h 161 a = nI v)
theorem e_X7_note (E : gE) {d : Nat} (hd : 2 ≤ d) {a n p : Nat} (h : hp_T) (hG : gr h) (S : kS) (A : actI h n) (ha : 1 ≤ a ∧ a ≤ n) (hp : S.1 0 0 = nI p) (hp2 : p < 200) : ev E mX7_note d [.ref (E.1 + 165), .ref (E.1 + 158), .int (nI a)] (hk h S) none (hk h (notS (hp_i h) (hp_r h 162) S a)) := by
  have hn := A.1
  have hl : (1 : Int32) ≤ nI a ∧ nI a ≤ hp_i h 158 0 := ⟨nI_le (a := 1) (by omega) (by omega), by rw [A.2.1]; exact nI_le (by omega) (by omega)⟩
  have hcl : (nI a).toNatClampNeg = a := nI_clamp (by omega)
  refine ev_of rfl (fun q => absurd q (by decide)) (Nat.le_of_ble_eq_true rfl) ?_
  rcases (A.2.2 a ha.1 ha.2).1 with k1 | k1 | k1
  · obtain ⟨x, hx9, hx⟩ := (A.2.2 a ha.1 ha.2).2.1 (by rw [k1]; decide)
    obtain ⟨b, -, hb, hbt⟩ := (A.2.2 a ha.1 ha.2).2.2.1 k1
    have ex : (hp_i h 159 a).toNatClampNeg = x := by rw [hx, nI_clamp (by omega)]
    refine gf_aload_n 1 dX7_note_0 rfl rfl ?_
    refine gf_getR flX7_54 rfl dX7_note_1 (gt_158 (gr_k _ hG)) (gp_158_2 (gr_k _ hG)) ?_
    refine gf_iload_n 2 dX7_note_4 rfl rfl ?_
    refine gf_iald 201 dX7_note_5 (gt_159 (gr_k _ hG)) (gl_159 (gr_k _ hG)) rfl (by omega) (by decide) ?_
    refine gf_istore_n 3 dX7_note_6 rfl (Nat.le_of_ble_eq_true rfl) ?_
    refine gf_aload_n 1 dX7_note_7 rfl rfl ?_
    refine gf_iload_n 2 dX7_note_8 rfl rfl ?_
    refine gf_callV cmX0_isTerms lkX7_57 imX0_isTerms seX0_isTerms ⟨rfl, by decide⟩ dX7_note_9 (d1 := d - 1) (by omega) (gt_158 (gr_k _ hG)) (e_X0_isTerms E (by omega) (nI a) (hk h S) (gr_k S hG) (n := n) A.2.1 A.1) rfl rfl (Nat.le_of_ble_eq_true rfl) ?_
    refine gf_if_eq 30 dX7_note_12 rfl (fun q => absurd q (fun q => zb_0.mp q ⟨hl, by rw [hcl]; exact k1⟩)) (fun _ => ?_)
    refine gf_aload_n 0 dX7_note_15 rfl rfl ?_
    refine gf_getR flX7_11 rfl dX7_note_16 (gt_165 (gr_k _ hG)) (gp_165_1 (gr_k _ hG)) ?_
    refine gf_iload_n 3 dX7_note_19 rfl rfl ?_
    refine gf_aload_n 1 dX7_note_20 rfl rfl ?_
    refine gf_getR flX7_61 rfl dX7_note_21 (gt_158 (gr_k _ hG)) (gp_158_5 (gr_k _ hG)) ?_
    refine gf_iload_n 2 dX7_note_24 rfl rfl ?_
    refine gf_rald 201 dX7_note_25 (gt_162 (gr_k _ hG)) (by decide) (by decide) (gl_162 (gr_k _ hG)) rfl (by omega) (by decide) hb ?_
    refine gf_rast 9 dX7_note_26 (gt_166 (gr_k _ hG)) hbt (gl_166 (gr_k _ hG)) hx (by omega) (by decide) ?_
    rw [hk_r]
    refine gf_goto 100 dX7_note_27 rfl ?_
    exact gf_vretE dX7_note_100 rfl ((by unfold notS; rw [if_pos k1, ex, hb]))
  · obtain ⟨x, hx9, hx⟩ := (A.2.2 a ha.1 ha.2).2.1 (by rw [k1]; decide)
    obtain ⟨⟨c, hc9, hc⟩, -⟩ := (A.2.2 a ha.1 ha.2).2.2.2 k1
    have ec : (hp_i h 160 a).toNatClampNeg = c := by rw [hc, nI_clamp (by omega)]
    have ep : (S.1 0 0).toNatClampNeg = p := by rw [hp, nI_clamp (by omega)]
    refine gf_aload_n 1 dX7_note_0 rfl rfl ?_
    refine gf_getR flX7_54 rfl dX7_note_1 (gt_158 (gr_k _ hG)) (gp_158_2 (gr_k _ hG)) ?_
    refine gf_iload_n 2 dX7_note_4 rfl rfl ?_
    refine gf_iald 201 dX7_note_5 (gt_159 (gr_k _ hG)) (gl_159 (gr_k _ hG)) rfl (by omega) (by decide) ?_
    refine gf_istore_n 3 dX7_note_6 rfl (Nat.le_of_ble_eq_true rfl) ?_
    refine gf_aload_n 1 dX7_note_7 rfl rfl ?_
    refine gf_iload_n 2 dX7_note_8 rfl rfl ?_
    refine gf_callV cmX0_isTerms lkX7_57 imX0_isTerms seX0_isTerms ⟨rfl, by decide⟩ dX7_note_9 (d1 := d - 1) (by omega) (gt_158 (gr_k _ hG)) (e_X0_isTerms E (by omega) (nI a) (hk h S) (gr_k S hG) (n := n) A.2.1 A.1) rfl rfl (Nat.le_of_ble_eq_true rfl) ?_
    refine gf_if_eq 30 dX7_note_12 rfl (fun _ => ?_) (fun q => absurd (zb_f (fun q => by have q2 := q.2; rw [hcl, show hp_i (hk h S) 163 a = 2 from k1] at q2; exact absurd q2 (by decide))) q)
    refine gf_aload_n 1 dX7_note_30 rfl rfl ?_
    refine gf_iload_n 2 dX7_note_31 rfl rfl ?_
    refine gf_callV cmX0_isPolicy lkX7_64 imX0_isPolicy seX0_isPolicy ⟨rfl, by decide⟩ dX7_note_32 (d1 := d - 1) (by omega) (gt_158 (gr_k _ hG)) (e_X0_isPolicy E (by omega) (nI a) (hk h S) (gr_k S hG) (n := n) A.2.1 A.1) rfl rfl (Nat.le_of_ble_eq_true rfl) ?_
    refine gf_if_eq 100 dX7_note_35 rfl (fun q => absurd q (fun q => zb_0.mp q ⟨hl, by rw [hcl]; exact k1⟩)) (fun _ => ?_)
    refine gf_aload_n 0 dX7_note_38 rfl rfl ?_
    refine gf_getI flX7_30 rfl dX7_note_39 (gt_165 (gr_k _ hG)) ?_
    refine gf_sipush (200) dX7_note_42 rfl ?_
    refine gf_icmp_ge 100 dX7_note_45 rfl (fun q => absurd q (by rw [show hp_i (hk h S) 165 0 = nI p from hp]; exact nI_ge (b := 200) (by omega) (by omega))) (fun _ => ?_)
    refine gf_aload_n 1 dX7_note_48 rfl rfl ?_
    refine gf_getR flX7_67 rfl dX7_note_49 (gt_158 (gr_k _ hG)) (gp_158_3 (gr_k _ hG)) ?_
    refine gf_iload_n 2 dX7_note_52 rfl rfl ?_
    refine gf_iald 201 dX7_note_53 (gt_160 (gr_k _ hG)) (gl_160 (gr_k _ hG)) rfl (by omega) (by decide) ?_
    refine gf_istore dX7_note_54 (Nat.le_of_ble_eq_true rfl) ?_
    refine gf_aload_n 0 dX7_note_56 rfl rfl ?_
    refine gf_getR flX7_21 rfl dX7_note_57 (gt_165 (gr_k _ hG)) (gp_165_3 (gr_k _ hG)) ?_
    refine gf_iload dX7_note_60 rfl ?_
    refine gf_dup2 dX7_note_62 rfl rfl ?_
    refine gf_iald 120 dX7_note_63 (gt_168 (gr_k _ hG)) (gl_168 (gr_k _ hG)) hc (by omega) (by decide) ?_
    refine gf_iconst (1) dX7_note_64 rfl ?_
    refine gf_iload_n 3 dX7_note_65 rfl rfl ?_
    refine gf_ishl dX7_note_66 ?_
    refine gf_ior dX7_note_67 ?_
    refine gf_iast 120 dX7_note_68 (gt_168 (gr_k _ hG)) (gl_168 (gr_k _ hG)) hc (by omega) (by decide) ?_
    rw [hk_3]
    refine gf_aload_n 0 dX7_note_69 rfl rfl ?_
    refine gf_getR flX7_24 rfl dX7_note_70 (gt_165 (gr_k _ hG)) (gp_165_4 (gr_k _ hG)) ?_
    refine gf_iload dX7_note_73 rfl ?_
    refine gf_dup2 dX7_note_75 rfl rfl ?_
    refine gf_iald 120 dX7_note_76 (gt_169 (gr_k _ hG)) (gl_169 (gr_k _ hG)) hc (by omega) (by decide) ?_
    refine gf_iconst (1) dX7_note_77 rfl ?_
    refine gf_iadd dX7_note_78 ?_
    refine gf_iast 120 dX7_note_79 (gt_169 (gr_k _ hG)) (gl_169 (gr_k _ hG)) hc (by omega) (by decide) ?_
    rw [hk_4]
    refine gf_aload_n 0 dX7_note_80 rfl rfl ?_
    refine gf_getR flX7_17 rfl dX7_note_81 (gt_165 (gr_k _ hG)) (gp_165_2 (gr_k _ hG)) ?_
    refine gf_aload_n 0 dX7_note_84 rfl rfl ?_
    refine gf_getI flX7_30 rfl dX7_note_85 (gt_165 (gr_k _ hG)) ?_
    refine gf_iload_n 2 dX7_note_88 rfl rfl ?_
    refine gf_iast 200 dX7_note_89 (gt_167 (gr_k _ hG)) (gl_167 (gr_k _ hG)) hp (by omega) (by decide) ?_
    rw [hk_2]
    refine gf_aload_n 0 dX7_note_90 rfl rfl ?_
    refine gf_dup dX7_note_91 rfl ?_
    refine gf_getI flX7_30 rfl dX7_note_92 (gt_165 (gr_k _ hG)) ?_
    refine gf_iconst (1) dX7_note_95 rfl ?_
    refine gf_iadd dX7_note_96 ?_
    refine gf_putI flX7_30 rfl rfl dX7_note_97 (gt_165 (gr_k _ hG)) ⟨rfl, rfl⟩ ?_
    rw [hk_0]
    exact gf_vretE dX7_note_100 rfl ((by unfold notS; rw [if_neg (show ¬ hp_i h 163 a = 1 from by rw [k1]; decide), if_pos k1, ec, ep]; rfl))
  · refine gf_aload_n 1 dX7_note_0 rfl rfl ?_
    refine gf_getR flX7_54 rfl dX7_note_1 (gt_158 (gr_k _ hG)) (gp_158_2 (gr_k _ hG)) ?_
    refine gf_iload_n 2 dX7_note_4 rfl rfl ?_
    refine gf_iald 201 dX7_note_5 (gt_159 (gr_k _ hG)) (gl_159 (gr_k _ hG)) rfl (by omega) (by decide) ?_
    refine gf_istore_n 3 dX7_note_6 rfl (Nat.le_of_ble_eq_true rfl) ?_
    refine gf_aload_n 1 dX7_note_7 rfl rfl ?_
    refine gf_iload_n 2 dX7_note_8 rfl rfl ?_
    refine gf_callV cmX0_isTerms lkX7_57 imX0_isTerms seX0_isTerms ⟨rfl, by decide⟩ dX7_note_9 (d1 := d - 1) (by omega) (gt_158 (gr_k _ hG)) (e_X0_isTerms E (by omega) (nI a) (hk h S) (gr_k S hG) (n := n) A.2.1 A.1) rfl rfl (Nat.le_of_ble_eq_true rfl) ?_
    refine gf_if_eq 30 dX7_note_12 rfl (fun _ => ?_) (fun q => absurd (zb_f (fun q => by have q2 := q.2; rw [hcl, show hp_i (hk h S) 163 a = 3 from k1] at q2; exact absurd q2 (by decide))) q)
    refine gf_aload_n 1 dX7_note_30 rfl rfl ?_
    refine gf_iload_n 2 dX7_note_31 rfl rfl ?_
    refine gf_callV cmX0_isPolicy lkX7_64 imX0_isPolicy seX0_isPolicy ⟨rfl, by decide⟩ dX7_note_32 (d1 := d - 1) (by omega) (gt_158 (gr_k _ hG)) (e_X0_isPolicy E (by omega) (nI a) (hk h S) (gr_k S hG) (n := n) A.2.1 A.1) rfl rfl (Nat.le_of_ble_eq_true rfl) ?_
    refine gf_if_eq 100 dX7_note_35 rfl (fun _ => ?_) (fun q => absurd (zb_f (fun q => by have q2 := q.2; rw [hcl, show hp_i (hk h S) 163 a = 3 from k1] at q2; exact absurd q2 (by decide))) q)
    exact gf_vretE dX7_note_100 rfl ((by unfold notS; rw [if_neg (show ¬ hp_i h 163 a = 1 from by rw [k1]; decide), if_neg (show ¬ hp_i h 163 a = 2 from by rw [k1]; decide)]))
def upr (X : Nat → Nat → Int32) (o : Nat) (f : Nat → Int32) : Nat → Nat → Int32 := fun x => if x = o then f else X x
theorem hb_rw (h : hp_T) {b n o : Nat} (X : Nat → Nat → Int32) (ho : o < n) (f : Nat → Int32) : rw1 (hb h b n X) (b + o) f = hb h b n (upr X o f) := by
  unfold rw1 hb
  refine congrArg (fun z => (h.1, h.2.1, h.2.2.1, h.2.2.2.1, z, h.2.2.2.2.2.1, h.2.2.2.2.2.2)) ?_
  funext x
  by_cases e : x = b + o
  · subst e
    have e1 : b + o - b = o := by omega
    have e2 : b ≤ b + o ∧ b + o < b + n := ⟨by omega, by omega⟩
    simp only [upr, e1, e2, if_true, and_self]
  · by_cases hx : b ≤ x ∧ x < b + n
    · have e1 : ¬ x - b = o := by omega
      simp only [upr, e, hx, e1, if_false, if_true, and_self]
    · simp only [e, hx, if_false]
theorem hk_rw (h : hp_T) (S : kS) {o : Nat} (ho : o < 9) (f : Nat → Int32) : rw1 (hk h S) (165 + o) f = hk h (upr S.1 o f, S.2) := by
  show hrr (rw1 (hb h 165 9 S.1) (165 + o) f) 166 S.2 = hrr (hb h 165 9 (upr S.1 o f)) 166 S.2
  rw [hb_rw h S.1 ho f]
/-- one act of gather: the act a + 1 -/
def gthB (F : Nat → Nat → Int32) (R : Nat → Option Nat) (s : Nat) (S : kS) (a : Nat) : kS := if F 164 (a + 1) = 0 ∨ nI s < F 164 (a + 1) then notS F R S (a + 1) else S
/-- nothing is known -/
def gth0 (S : kS) : kS := (upr (upr (up2 S.1 0 0 0) 3 (fa_fill (fun _ => 0) (S.1 3) 120)) 4 (fa_fill (fun _ => 0) (S.1 4) 120), itN (fun f i => va_up f i none) S.2 9)
def gthS (F : Nat → Nat → Int32) (R : Nat → Option Nat) (s : Nat) (S : kS) : kS := itN (gthB F R s) (gth0 S) s
theorem notS_p {F : Nat → Nat → Int32} {R : Nat → Option Nat} {S : kS} {a p : Nat} (h : S.1 0 0 = nI p) : (notS F R S a).1 0 0 = nI p ∨ (notS F R S a).1 0 0 = nI (p + 1) := by
  unfold notS
  split
  · exact Or.inl h
  · split
    · refine Or.inr ?_
      have e9 : S.1 0 0 + 1 = nI (p + 1) := by rw [h, nI_1]
      rw [← e9]
      simp [up2]
    · exact Or.inl h
theorem gth_p (F : Nat → Nat → Int32) (R : Nat → Option Nat) (s : Nat) (S : kS) : ∀ n, ∃ p, p ≤ n ∧ (itN (gthB F R s) (gth0 S) n).1 0 0 = nI p
  | 0 => ⟨0, Nat.le_refl _, rfl⟩
  | n + 1 => by
    obtain ⟨p, hp, e⟩ := gth_p F R s S n
    show ∃ p, p ≤ n + 1 ∧ (gthB F R s (itN (gthB F R s) (gth0 S) n) n).1 0 0 = nI p
    unfold gthB
    split
    · rcases notS_p (F := F) (R := R) (a := n + 1) e with q | q
      · exact ⟨p, by omega, q⟩
      · exact ⟨p + 1, by omega, q⟩
    · exact ⟨p, by omega, e⟩
theorem l_X7_ga1 (E : gE) {d : Nat} (h : hp_T) (hG : gr h) (S : kS) {v : Option Value} {hz : hp_T} (K : gf E mX7_gather d 26 [(0, .ref (E.1 + 165)), (1, .ref (E.1 + 158)), (2, .int (nI ((9 : Nat))))] [] (hk h (S.1, itN (fun f i => va_up f i none) S.2 ((9 : Nat)))) v hz) : ∀ (kz jz : Nat), jz + kz = (9 : Nat) → gf E mX7_gather d 7 [(0, .ref (E.1 + 165)), (1, .ref (E.1 + 158)), (2, .int (nI (jz)))] [] (hk h (S.1, itN (fun f i => va_up f i none) S.2 (jz))) v hz := by
  intro kz
  induction kz with
  | zero =>
    intro jz hj
    have hj : (9 : Nat) = jz := by omega
    subst hj
    refine gf_iload_n 2 dX7_gather_7 rfl rfl ?_
    refine gf_bipush (9) dX7_gather_8 rfl ?_
    refine gf_icmp_ge 26 dX7_gather_10 rfl (fun _ => ?_) (fun q => absurd (Int32.le_refl _) q)
    exact gf_lw K ⟨rfl, rfl, rfl, trivial⟩
  | succ kz ih =>
    intro jz hj
    refine gf_iload_n 2 dX7_gather_7 rfl rfl ?_
    refine gf_bipush (9) dX7_gather_8 rfl ?_
    refine gf_icmp_ge 26 dX7_gather_10 rfl (fun q => absurd q (nI_ge (b := 9) (by omega) (by omega))) (fun _ => ?_)
    refine gf_aload_n 0 dX7_gather_13 rfl rfl ?_
    refine gf_getR flX7_11 rfl dX7_gather_14 (gt_165 (gr_k _ hG)) (gp_165_1 (gr_k _ hG)) ?_
    refine gf_iload_n 2 dX7_gather_17 rfl rfl ?_
    refine gf_null dX7_gather_18 ?_
    refine gf_rastN 9 dX7_gather_19 (gt_166 (gr_k _ hG)) (gl_166 (gr_k _ hG)) rfl (by omega) (by decide) ?_
    refine gf_iinc (1) dX7_gather_20 rfl rfl (Nat.le_of_ble_eq_true rfl) ?_
    refine gf_goto 7 dX7_gather_23 rfl ?_
    exact gf_hE (hk_r _ _ _ _) (gf_lw (ih (jz + 1) (by omega)) ⟨rfl, rfl, lvE (nI_1 jz), trivial⟩)
theorem l_X7_ga2 (E : gE) {d : Nat} (hd : 3 ≤ d) {n s : Nat} (h : hp_T) (hG : gr h) (S : kS) (A : actI h n) (hs : s ≤ n) {v : Option Value} {hz : hp_T} (K : gf E mX7_gather d 75 [(0, .ref (E.1 + 165)), (1, .ref (E.1 + 158)), (2, .int (nI s)), (3, .int (nI (s + 1)))] [] (hk h (itN (gthB (hp_i h) (hp_r h 162) s) (gth0 S) (s))) v hz) : ∀ (kz jz : Nat), jz + kz = s → gf E mX7_gather d 49 [(0, .ref (E.1 + 165)), (1, .ref (E.1 + 158)), (2, .int (nI s)), (3, .int (nI (jz + 1)))] [] (hk h (itN (gthB (hp_i h) (hp_r h 162) s) (gth0 S) (jz))) v hz := by
  intro kz
  induction kz with
  | zero =>
    intro jz hj
    have hj : s = jz := by omega
    subst hj
    refine gf_iload_n 3 dX7_gather_49 rfl rfl ?_
    refine gf_iload_n 2 dX7_gather_50 rfl rfl ?_
    refine gf_icmp_gt 75 dX7_gather_51 rfl (fun _ => ?_) (fun q => absurd (nI_lt (by omega) (by have := A.1; omega)) q)
    exact gf_lw K ⟨rfl, rfl, rfl, rfl, trivial⟩
  | succ kz ih =>
    intro jz hj
    obtain ⟨p, hp, ep⟩ := gth_p (hp_i h) (hp_r h 162) s S jz
    have hA1 := A.1
    have hcl : (nI (jz + 1)).toNatClampNeg = jz + 1 := nI_clamp (by omega)
    have hl : (1 : Int32) ≤ nI (jz + 1) ∧ nI (jz + 1) ≤ (if hp_i h 158 0 < nI s then hp_i h 158 0 else nI s) := by
      refine ⟨nI_le (a := 1) (by omega) (by omega), ?_⟩
      split
      · rw [A.2.1]; exact nI_le (by omega) (by omega)
      · exact nI_le (by omega) (by omega)
    refine gf_iload_n 3 dX7_gather_49 rfl rfl ?_
    refine gf_iload_n 2 dX7_gather_50 rfl rfl ?_
    refine gf_icmp_gt 75 dX7_gather_51 rfl (fun q => absurd q (fun q => nI_nlt (by omega) (by omega) q)) (fun _ => ?_)
    refine gf_aload_n 1 dX7_gather_54 rfl rfl ?_
    refine gf_iload_n 3 dX7_gather_55 rfl rfl ?_
    refine gf_iload_n 2 dX7_gather_56 rfl rfl ?_
    refine gf_callV cmX0_knownAt lkX7_46 imX0_knownAt seX0_knownAt ⟨rfl, by decide⟩ dX7_gather_57 (d1 := d - 1) (by omega) (gt_158 (gr_k _ hG)) (e_X0_knownAt E (by omega) (nI (jz + 1)) (nI s) (hk h (itN (gthB (hp_i h) (hp_r h 162) s) (gth0 S) (jz))) (gr_k _ hG) (n := n) A.2.1 A.1) rfl rfl (Nat.le_of_ble_eq_true rfl) ?_
    refine gf_if_eq 69 dX7_gather_60 rfl (fun zc60 => ?_) (fun zc60 => ?_)
    · refine gf_iinc (1) dX7_gather_69 rfl rfl (Nat.le_of_ble_eq_true rfl) ?_
      refine gf_goto 49 dX7_gather_72 rfl ?_
      exact gf_hE (by have e : ¬ (hp_i h 164 (jz + 1) = 0 ∨ nI s < hp_i h 164 (jz + 1)) := fun q => zb_0.mp zc60 ⟨hl, by rw [hcl]; exact q⟩; exact congrArg (hk h) (show _ = gthB (hp_i h) (hp_r h 162) s (itN (gthB (hp_i h) (hp_r h 162) s) (gth0 S) (jz)) jz from (if_neg e).symm)) (gf_lw (ih (jz + 1) (by omega)) ⟨rfl, rfl, rfl, lvE (nI_1 (jz + 1)), trivial⟩)
    · refine gf_aload_n 0 dX7_gather_63 rfl rfl ?_
      refine gf_aload_n 1 dX7_gather_64 rfl rfl ?_
      refine gf_iload_n 3 dX7_gather_65 rfl rfl ?_
      refine gf_callV cmX7_note lkX7_50 imX7_note seX7_note ⟨rfl, by decide⟩ dX7_gather_66 (d1 := d - 1) (by omega) (gt_165 (gr_k _ hG)) (e_X7_note E (by omega) (n := n) (p := p) h hG (itN (gthB (hp_i h) (hp_r h 162) s) (gth0 S) (jz)) A ⟨by omega, by omega⟩ ep (by omega)) rfl rfl (Nat.le_of_ble_eq_true rfl) ?_
      refine gf_iinc (1) dX7_gather_69 rfl rfl (Nat.le_of_ble_eq_true rfl) ?_
      refine gf_goto 49 dX7_gather_72 rfl ?_
      exact gf_hE (by have e : (hp_i h 164 (jz + 1) = 0 ∨ nI s < hp_i h 164 (jz + 1)) := by have q := (zb_1.mp zc60).2; rw [hcl] at q; exact q
                      exact congrArg (hk h) (show _ = gthB (hp_i h) (hp_r h 162) s (itN (gthB (hp_i h) (hp_r h 162) s) (gth0 S) (jz)) jz from (if_pos e).symm)) (gf_lw (ih (jz + 1) (by omega)) ⟨rfl, rfl, rfl, lvE (nI_1 (jz + 1)), trivial⟩)
theorem e_X7_gather (E : gE) {d : Nat} (hd : 3 ≤ d) {n s : Nat} (h : hp_T) (hG : gr h) (S : kS) (A : actI h n) (hs : s ≤ n) (hz : (if hp_i h 158 1 = -1 then hp_i h 158 0 else hp_i h 158 1) = nI s) : ev E mX7_gather d [.ref (E.1 + 165), .ref (E.1 + 158)] (hk h S) (none) (hk h (gthS (hp_i h) (hp_r h 162) s S)) := by
  refine ev_of rfl (fun q => absurd q (by decide)) (Nat.le_of_ble_eq_true rfl) ?_
  refine gf_aload_n 0 dX7_gather_0 rfl rfl ?_
  refine gf_iconst (0) dX7_gather_1 rfl ?_
  refine gf_putI flX7_30 rfl rfl dX7_gather_2 (gt_165 (gr_k _ hG)) ⟨rfl, rfl⟩ ?_
  rw [hk_0]
  refine gf_iconst (0) dX7_gather_5 rfl ?_
  refine gf_istore_n 2 dX7_gather_6 rfl (Nat.le_of_ble_eq_true rfl) ?_
  refine l_X7_ga1 E h hG (up2 S.1 0 0 0, S.2) ?_ 9 0 (by omega)
  refine gf_aload_n 0 dX7_gather_26 rfl rfl ?_
  refine gf_getR flX7_21 rfl dX7_gather_27 (gt_165 (gr_k _ hG)) (gp_165_3 (gr_k _ hG)) ?_
  refine gf_iconst (0) dX7_gather_30 rfl ?_
  refine gf_callS cmJ7_fill_53178 lkX7_34 stJ7_fill_53178 dX7_gather_31 (d1 := d - 1) (by omega) ((e_fill E (by omega) (m := 168) (N := 120) 0 (hk h (up2 S.1 0 0 0, itN (fun f i => va_up f i none) S.2 9)) ⟨gt_168 (gr_k _ hG), gl_168 (gr_k _ hG)⟩ (by omega))) rfl rfl (Nat.le_of_ble_eq_true rfl) ?_
  rw [hk_rw h _ (o := 3) (by decide)]
  refine gf_aload_n 0 dX7_gather_34 rfl rfl ?_
  refine gf_getR flX7_24 rfl dX7_gather_35 (gt_165 (gr_k _ hG)) (gp_165_4 (gr_k _ hG)) ?_
  refine gf_iconst (0) dX7_gather_38 rfl ?_
  refine gf_callS cmJ7_fill_53178 lkX7_34 stJ7_fill_53178 dX7_gather_39 (d1 := d - 1) (by omega) ((e_fill E (by omega) (m := 169) (N := 120) 0 (hk h (upr (up2 S.1 0 0 0) 3 (fa_fill (fun _ => 0) (S.1 3) 120), itN (fun f i => va_up f i none) S.2 9)) ⟨gt_169 (gr_k _ hG), gl_169 (gr_k _ hG)⟩ (by omega))) rfl rfl (Nat.le_of_ble_eq_true rfl) ?_
  rw [hk_rw h _ (o := 4) (by decide)]
  refine gf_aload_n 1 dX7_gather_42 rfl rfl ?_
  refine gf_callV cmX0_horizon lkX7_40 imX0_horizon seX0_horizon ⟨rfl, by decide⟩ dX7_gather_43 (d1 := d - 1) (by omega) (gt_158 (gr_k _ hG)) (ev_ge (congrArg (fun z => some (Value.int z)) hz) (e_X0_horizon E (by omega) (hk h (gth0 S)) (gr_k _ hG))) rfl rfl (Nat.le_of_ble_eq_true rfl) ?_
  refine gf_istore_n 2 dX7_gather_46 rfl (Nat.le_of_ble_eq_true rfl) ?_
  refine gf_iconst (1) dX7_gather_47 rfl ?_
  refine gf_istore_n 3 dX7_gather_48 rfl (Nat.le_of_ble_eq_true rfl) ?_
  refine l_X7_ga2 E hd h hG S A hs ?_ s 0 (by omega)
  exact gf_vretE dX7_gather_75 rfl (rfl)
