/-! ===== rows of the lifted judgement: fields, arrays, returns ===== -/
def gf_FL (own : String) (idx c k : Nat) : Prop := c < 13 ∧ k < hp_N c ∧ Cond.fieldLink own idx (hp_TT c k).1 (hp_TT c k).2.1 (hp_TT c k).2.2.1 ∈ tt
section GC
variable {E : gE} {M : gM} {d pc : Nat} {lv : List (Nat × Value)} {rest : List Value} {h h' : hp_T} {v : Option Value}
theorem gf_get {idx c k a : Nat} {w : Value} (fl : gf_FL M.1.cls idx c k) (ht : hp_tag h a = c) (hw : hp_fv E.1 h a k (hp_fk (hp_ty c k)) = w) (hdg : decode M.2.1 pc = .ok (.getfield idx, 3)) (kk : gf E M d (pc + 3) lv (w :: rest) h v h') : gf E M d pc lv (.ref (E.1 + a) :: rest) h v h' :=
  gf_step rfl rfl (fun p l e R s m args below meth cc H locs cells slots ls Q hA hP hS hl _ _ _ _ k9 =>
    va_get (D := E.2.1) (cl := vwCl) (ci := c) (C := hp_C c) (T := hp_TT c) (N := hp_N c) (tys := hp_tys E) (ws := hp_ws E h) hA.1 hA.2.1 hA.2.2.2.2.2.1 (hp_in c fl.1) hA.2.2.2.2.1 hA.2.2.2.2.2.2.1 hP.2 a ((hp_get (hp_lt hP ht (by have := fl.1; omega))).trans (by rw [hp_obj ht fl.1])) (hp_cl c fl.1) k fl.2.1 (hA.2.2.2.2.2.1 _ fl.2.2) (fun _ h9 => h9) ((hp_fs_get fl.2.1).trans (by rw [hw])) hdg (k9 H locs ls hP hS hl)) kk
theorem gf_getI {idx c k a : Nat} (fl : gf_FL M.1.cls idx c k) (hk : hp_fk (hp_ty c k) = 0) (hdg : decode M.2.1 pc = .ok (.getfield idx, 3)) (ht : hp_tag h a = c) (kk : gf E M d (pc + 3) lv (.int (hp_i h a k) :: rest) h v h') : gf E M d pc lv (.ref (E.1 + a) :: rest) h v h' :=
  gf_get fl ht (by rw [hk]; rfl) hdg kk
theorem gf_getR {idx c k a b : Nat} (fl : gf_FL M.1.cls idx c k) (hk : hp_fk (hp_ty c k) = 2) (hdg : decode M.2.1 pc = .ok (.getfield idx, 3)) (ht : hp_tag h a = c) (hr : hp_r h a k = some b) (kk : gf E M d (pc + 3) lv (.ref (E.1 + b) :: rest) h v h') : gf E M d pc lv (.ref (E.1 + a) :: rest) h v h' :=
  gf_get fl ht (by rw [hk]; unfold hp_fv; rw [hr]; rfl) hdg kk
theorem gf_putI {idx c k a : Nat} {x : Int32} (fl : gf_FL M.1.cls idx c k) (hk : hp_fk (hp_ty c k) = 0) (hfin : (hp_TT c k).2.2.2 = false) (hdg : decode M.2.1 pc = .ok (.putfield idx, 3)) (ht : hp_tag h a = c) (hn : narrow (hp_ty c k) (.int x) = .int x ∧ fits (hp_ty c k) (.int x) = true) (kk : gf E M d (pc + 3) lv rest (hp_setI h a k x) v h') : gf E M d pc lv (.int x :: .ref (E.1 + a) :: rest) h v h' :=
  gf_step (h1 := hp_setI h a k x) rfl rfl (fun p l e R s m args below meth cc H locs cells slots ls Q hA hP hS hl _ _ _ _ k9 =>
    va_put (D := E.2.1) (cl := vwCl) (ci := c) (C := hp_C c) (T := hp_TT c) (N := hp_N c) (tys := hp_tys E) (ws := hp_ws E h) hA.1 hA.2.1 hA.2.2.2.2.2.1 (hp_in c fl.1) (hp_ty c) (hp_tyok c fl.1) (hp_nm c fl.1) hA.2.2.2.2.1 hA.2.2.2.2.2.2.1 hP.2 (hp_D E h) hS a ((hp_get (hp_lt hP ht (by have := fl.1; omega))).trans (by rw [hp_obj ht fl.1])) (hp_cl c fl.1) k fl.2.1 (hA.2.2.2.2.2.1 _ fl.2.2) (fun _ h9 => h9) hfin (hp_tyok c fl.1 k fl.2.1) hn.1 hn.2 (by rw [hp_fs_len]; exact fl.2.1) hdg
      (fun H1 locs1 hP1 _ hS1 => k9 H1 locs1 ls (hp_P_setI hP (hp_lt hP ht (by have := fl.1; omega)) (by
        rw [hp_obj (h := hp_setI h a k x) ht fl.1]
        rw [hp_fs_set fl.2.1 (h' := hp_setI h a k x)]
        · rw [hk]; show Value.int (up2 (hp_i h) a k x a k) = _; rw [up2_s]
        · intro j hj
          unfold hp_fv
          show (if _ then _ else if _ then _ else Value.int (up2 (hp_i h) a k x a j)) = _
          rw [up2_k _ _ hj]
          rfl) hP1) hS1 hl)) kk
/-- a final field, in its own constructor: a reference -/
theorem gf_putRF {idx c k a b : Nat} (fl : gf_FL M.1.cls idx c k) (hk : hp_fk (hp_ty c k) = 2) (hfin : (hp_TT c k).2.2.2 = true) (hini : M.2.2.2.2 = true) (hdc : (hp_TT c k).1 = M.1.cls) (hdg : decode M.2.1 pc = .ok (.putfield idx, 3)) (ht : hp_tag h a = c) (hn : narrow (hp_ty c k) (.ref (E.1 + b)) = .ref (E.1 + b) ∧ fits (hp_ty c k) (.ref (E.1 + b)) = true) (kk : gf E M d (pc + 3) lv rest (hp_setR h a k (some b)) v h') : gf E M d pc lv (.ref (E.1 + b) :: .ref (E.1 + a) :: rest) h v h' :=
  gf_step (h1 := hp_setR h a k (some b)) rfl rfl (fun p l e R s m args below meth cc H locs cells slots ls Q hA hP hS hl _ _ _ _ k9 =>
    va_putF (D := E.2.1) (cl := vwCl) (ci := c) (C := hp_C c) (T := hp_TT c) (N := hp_N c) (tys := hp_tys E) (ws := hp_ws E h) hA.1 hA.2.1 hA.2.2.2.2.2.1 (hp_in c fl.1) (hp_ty c) (hp_tyok c fl.1) (hp_nm c fl.1) hA.2.2.2.2.1 hA.2.2.2.2.2.2.1 hP.2 (hp_D E h) hS a ((hp_get (hp_lt hP ht (by have := fl.1; omega))).trans (by rw [hp_obj ht fl.1])) (hp_cl c fl.1) k fl.2.1 (hA.2.2.2.2.2.1 _ fl.2.2) (fun _ h9 => h9) hfin (hA.2.2.2.2.2.2.2.2.2 hini) hdc (hp_tyok c fl.1 k fl.2.1) hn.1 hn.2 (by rw [hp_fs_len]; exact fl.2.1) hdg
      (fun H1 locs1 hP1 _ hS1 => k9 H1 locs1 ls (hp_P_setR hP (hp_lt hP ht (by have := fl.1; omega)) (by
        rw [hp_obj (h := hp_setR h a k (some b)) ht fl.1]
        rw [hp_fs_set fl.2.1 (h' := hp_setR h a k (some b))]
        · rw [hk]; show va_rf ((up2 (hp_r h) a k (some b) a k).map _) = _; rw [up2_s]; rfl
        · intro j hj
          unfold hp_fv
          show (if _ then _ else if _ then va_rf ((up2 (hp_r h) a k (some b) a j).map _) else _) = _
          rw [up2_k _ _ hj]
          rfl) hP1) hS1 hl)) kk
/-- a final field, in its own constructor: a number -/
theorem gf_putIF {idx c k a : Nat} {x : Int32} (fl : gf_FL M.1.cls idx c k) (hk : hp_fk (hp_ty c k) = 0) (hfin : (hp_TT c k).2.2.2 = true) (hini : M.2.2.2.2 = true) (hdc : (hp_TT c k).1 = M.1.cls) (hdg : decode M.2.1 pc = .ok (.putfield idx, 3)) (ht : hp_tag h a = c) (hn : narrow (hp_ty c k) (.int x) = .int x ∧ fits (hp_ty c k) (.int x) = true) (kk : gf E M d (pc + 3) lv rest (hp_setI h a k x) v h') : gf E M d pc lv (.int x :: .ref (E.1 + a) :: rest) h v h' :=
  gf_step (h1 := hp_setI h a k x) rfl rfl (fun p l e R s m args below meth cc H locs cells slots ls Q hA hP hS hl _ _ _ _ k9 =>
    va_putF (D := E.2.1) (cl := vwCl) (ci := c) (C := hp_C c) (T := hp_TT c) (N := hp_N c) (tys := hp_tys E) (ws := hp_ws E h) hA.1 hA.2.1 hA.2.2.2.2.2.1 (hp_in c fl.1) (hp_ty c) (hp_tyok c fl.1) (hp_nm c fl.1) hA.2.2.2.2.1 hA.2.2.2.2.2.2.1 hP.2 (hp_D E h) hS a ((hp_get (hp_lt hP ht (by have := fl.1; omega))).trans (by rw [hp_obj ht fl.1])) (hp_cl c fl.1) k fl.2.1 (hA.2.2.2.2.2.1 _ fl.2.2) (fun _ h9 => h9) hfin (hA.2.2.2.2.2.2.2.2.2 hini) hdc (hp_tyok c fl.1 k fl.2.1) hn.1 hn.2 (by rw [hp_fs_len]; exact fl.2.1) hdg
      (fun H1 locs1 hP1 _ hS1 => k9 H1 locs1 ls (hp_P_setI hP (hp_lt hP ht (by have := fl.1; omega)) (by
        rw [hp_obj (h := hp_setI h a k x) ht fl.1]
        rw [hp_fs_set fl.2.1 (h' := hp_setI h a k x)]
        · rw [hk]; show Value.int (up2 (hp_i h) a k x a k) = _; rw [up2_s]
        · intro j hj
          unfold hp_fv
          show (if _ then _ else if _ then _ else Value.int (up2 (hp_i h) a k x a j)) = _
          rw [up2_k _ _ hj]
          rfl) hP1) hS1 hl)) kk
theorem hp_ar_I {B : Nat} {h : hp_T} {t a : Nat} (h1 : t ≠ 15) (h2 : t ≤ 16) : hp_ar B h t a = .inl (hp_i h a) := by
  unfold hp_ar
  rw [if_neg h1, if_neg (by omega)]
theorem hp_ar_R {B : Nat} {h : hp_T} {t a : Nat} (h2 : 16 < t) : hp_ar B h t a = .inr (.inr (.inr (.inr (fun j => (hp_r h a j).map (fun x => B + x))))) := by
  unfold hp_ar
  rw [if_neg (by omega), if_pos h2]
theorem hp_wI {E : gE} {h : hp_T} {H : Heap} {a t : Nat} (hP : hp_P E h H) (ht : hp_tag h a = t) (h0 : 12 < t) (h1 : t ≠ 15) (h2 : t ≤ 16) : (hp_ws E h)[a]? = some (E.1 + a, .inl (E.2.2.1 t, hp_len h a, .inl (hp_i h a))) :=
  (hp_get (hp_lt hP ht (by omega))).trans (by rw [hp_arr ht h0, hp_ar_I h1 h2])
theorem hp_wL {E : gE} {h : hp_T} {H : Heap} {a : Nat} (hP : hp_P E h H) (ht : hp_tag h a = 15) : (hp_ws E h)[a]? = some (E.1 + a, .inl (E.2.2.1 15, hp_len h a, .inr (.inl (hp_l h a)))) :=
  (hp_get (hp_lt hP ht (by omega))).trans (by rw [hp_arr ht (by omega)]; rfl)
theorem hp_wR {E : gE} {h : hp_T} {H : Heap} {a t : Nat} (hP : hp_P E h H) (ht : hp_tag h a = t) (h0 : 16 < t) (h9 : t < 99) : (hp_ws E h)[a]? = some (E.1 + a, .inl (E.2.2.1 t, hp_len h a, .inr (.inr (.inr (.inr (fun j => (hp_r h a j).map (fun x => E.1 + x))))))) :=
  (hp_get (hp_lt hP ht h9)).trans (by rw [hp_arr ht (by omega), hp_ar_R h0])
theorem hp_ix {N j : Nat} {i : Int32} (hi : i = nI j) (hj : j < N) (hN : N < 2147483648) : vp_in i N ∧ i.toNatClampNeg = j := by
  subst hi
  exact ⟨vp_in_nI hj (by omega), nI_clamp (by omega)⟩
theorem gf_iald {a j : Nat} (N : Nat) {i : Int32} (hdg : decode M.2.1 pc = .ok (.iaload, 1)) (ht : hp_tag h a = 14) (hL : hp_len h a = N) (hi : i = nI j) (hj : j < N) (hN : N < 2147483648) (kk : gf E M d (pc + 1) lv (.int (hp_i h a j) :: rest) h v h') : gf E M d pc lv (.int i :: .ref (E.1 + a) :: rest) h v h' := by
  obtain ⟨h1, h2⟩ := hp_ix hi hj hN
  subst h2
  subst hL
  exact gf_step rfl rfl (fun p l e R s m args below meth cc H locs cells slots ls Q hA hP hS hl _ _ _ _ k9 => va_iald (tys := hp_tys E) hA.1 hA.2.1 hA.2.2.2.2.2.2.1 hP.2 a 1 (hp_wI hP ht (by omega) (by omega) (by omega)) rfl h1 hdg (k9 H locs ls hP hS hl)) kk
theorem gf_zald {a j : Nat} (N : Nat) {i : Int32} (hdg : decode M.2.1 pc = .ok (.baload, 1)) (ht : hp_tag h a = 16) (hL : hp_len h a = N) (hi : i = nI j) (hj : j < N) (hN : N < 2147483648) (kk : gf E M d (pc + 1) lv (.int (hp_i h a j) :: rest) h v h') : gf E M d pc lv (.int i :: .ref (E.1 + a) :: rest) h v h' := by
  obtain ⟨h1, h2⟩ := hp_ix hi hj hN
  subst h2
  subst hL
  exact gf_step rfl rfl (fun p l e R s m args below meth cc H locs cells slots ls Q hA hP hS hl _ _ _ _ k9 => va_zald (tys := hp_tys E) hA.1 hA.2.1 hA.2.2.2.2.2.2.1 hP.2 a 3 (hp_wI hP ht (by omega) (by omega) (by omega)) rfl h1 hdg (k9 H locs ls hP hS hl)) kk
theorem gf_cald {a j : Nat} (N : Nat) {i : Int32} (hdg : decode M.2.1 pc = .ok (.caload, 1)) (ht : hp_tag h a = 13) (hL : hp_len h a = N) (hi : i = nI j) (hj : j < N) (hN : N < 2147483648) (kk : gf E M d (pc + 1) lv (.int (hp_i h a j) :: rest) h v h') : gf E M d pc lv (.int i :: .ref (E.1 + a) :: rest) h v h' := by
  obtain ⟨h1, h2⟩ := hp_ix hi hj hN
  subst h2
  subst hL
  exact gf_step rfl rfl (fun p l e R s m args below meth cc H locs cells slots ls Q hA hP hS hl _ _ _ _ k9 => va_cald (tys := hp_tys E) hA.1 hA.2.1 hA.2.2.2.2.2.2.1 hP.2 a 0 (hp_wI hP ht (by omega) (by omega) (by omega)) rfl h1 hdg (k9 H locs ls hP hS hl)) kk
theorem gf_lald {a j : Nat} (N : Nat) {i : Int32} (hdg : decode M.2.1 pc = .ok (.laload, 1)) (ht : hp_tag h a = 15) (hL : hp_len h a = N) (hi : i = nI j) (hj : j < N) (hN : N < 2147483648) (kk : gf E M d (pc + 1) lv (.long (hp_l h a j) :: rest) h v h') : gf E M d pc lv (.int i :: .ref (E.1 + a) :: rest) h v h' := by
  obtain ⟨h1, h2⟩ := hp_ix hi hj hN
  subst h2
  subst hL
  exact gf_step rfl rfl (fun p l e R s m args below meth cc H locs cells slots ls Q hA hP hS hl _ _ _ _ k9 => va_lald (tys := hp_tys E) hA.1 hA.2.1 hA.2.2.2.2.2.2.1 hP.2 a 2 (hp_wL hP ht) rfl h1 hdg (k9 H locs ls hP hS hl)) kk
/-- a reference out of an array of references: of objects (17), of rows of ints (18), of longs (19) -/
theorem gf_rald {a j t : Nat} {w : Option Nat} (N : Nat) {i : Int32} (hdg : decode M.2.1 pc = .ok (.aaload, 1)) (ht : hp_tag h a = t) (h0 : 16 < t) (h9 : t < 20) (hL : hp_len h a = N) (hi : i = nI j) (hj : j < N) (hN : N < 2147483648) (hr : hp_r h a j = w) (kk : gf E M d (pc + 1) lv (va_rf (w.map (fun x => E.1 + x)) :: rest) h v h') : gf E M d pc lv (.int i :: .ref (E.1 + a) :: rest) h v h' := by
  obtain ⟨h1, h2⟩ := hp_ix hi hj hN
  subst h2
  subst hL
  subst hr
  refine gf_step rfl rfl (fun p l e R s m args below meth cc H locs cells slots ls Q hA hP hS hl _ _ _ _ k9 => ?_) kk
  have hlt : i.toNatClampNeg < hp_len h a := Nat.not_le.mp fun q => h1 (Or.inr q)
  have hcell := hP.2 a _ (hp_wR hP ht h0 (by omega))
  obtain ⟨ty, htys, href⟩ : ∃ ty : FieldType, (hp_tys E)[t - 13]? = some (E.2.2.1 t, ty) ∧ ty.isReference = true := by
    rcases (show t = 17 ∨ t = 18 ∨ t = 19 by omega) with rfl | rfl | rfl
    · exact ⟨_, rfl, rfl⟩
    · exact ⟨_, rfl, rfl⟩
    · exact ⟨_, rfl, rfl⟩
  exact W.aald (v := va_rf ((hp_r h a i.toNatClampNeg).map (fun x => E.1 + x))) (ty := ty) hA.1 hA.2.1 hcell ((hA.2.2.2.2.2.2.1.2 _ _ htys).1 (hp_len h a) (fun j => va_rf ((hp_r h a j).map (fun x => E.1 + x)))) href (fun q => by cases q) (by show ¬ (i < 0 ∨ (arrV _ _ _).slots.size ≤ _); rw [arrV_size]; exact h1) (by show (arrV _ _ _).slots[_]? = _; rw [arrV_read _ _ hlt]) rfl rfl hdg (k9 H locs ls hP hS hl)
theorem gf_alen {a t : Nat} (N : Nat) (hdg : decode M.2.1 pc = .ok (.arraylength, 1)) (ht : hp_tag h a = t) (h0 : 12 < t) (h9 : t < 20) (hL : hp_len h a = N) (kk : gf E M d (pc + 1) lv (.int (nI N) :: rest) h v h') : gf E M d pc lv (.ref (E.1 + a) :: rest) h v h' := by
  subst hL
  refine gf_step rfl rfl (fun p l e R s m args below meth cc H locs cells slots ls Q hA hP hS hl _ _ _ _ k9 => ?_) kk
  obtain ⟨ty, htys⟩ : ∃ ty : FieldType, (hp_tys E)[t - 13]? = some (E.2.2.1 t, ty) := by
    rcases (show t = 13 ∨ t = 14 ∨ t = 15 ∨ t = 16 ∨ t = 17 ∨ t = 18 ∨ t = 19 by omega) with rfl | rfl | rfl | rfl | rfl | rfl | rfl <;> exact ⟨_, rfl⟩
  exact va_alen (tys := hp_tys E) (x := (hp_len h a, hp_ar E.1 h t a)) hA.1 hA.2.1 hA.2.2.2.2.2.2.1 hP.2 a (t - 13) ((hp_get (hp_lt hP ht (by omega))).trans (by rw [hp_arr ht h0])) htys rfl hdg (k9 H locs ls hP hS hl)
theorem upd_va (f : Nat → Int32) (k : Nat) (x : Int32) : upd f k x = va_up f k x := rfl
theorem updL_va (f : Nat → Int64) (k : Nat) (x : Int64) : vp_updL f k x = va_up f k x := rfl
theorem gf_iast {a j : Nat} (N : Nat) {i x : Int32} (hdg : decode M.2.1 pc = .ok (.iastore, 1)) (ht : hp_tag h a = 14) (hL : hp_len h a = N) (hi : i = nI j) (hj : j < N) (hN : N < 2147483648) (kk : gf E M d (pc + 1) lv rest (hp_setI h a j x) v h') : gf E M d pc lv (.int x :: .int i :: .ref (E.1 + a) :: rest) h v h' := by
  obtain ⟨h1, h2⟩ := hp_ix hi hj hN
  subst h2
  subst hL
  exact gf_step (h1 := hp_setI h a i.toNatClampNeg x) rfl rfl (fun p l e R s m args below meth cc H locs cells slots ls Q hA hP hS hl _ _ _ _ k9 => va_iast (tys := hp_tys E) hA.1 hA.2.1 hA.2.2.2.2.2.2.1 hP.2 (hp_D E h) hS a 1 (hp_wI hP ht (by omega) (by omega) (by omega)) rfl h1 hdg (fun H1 locs1 hP1 _ hS1 => k9 H1 locs1 ls (hp_P_setI hP (hp_lt hP ht (by omega)) (by rw [hp_arr (h := hp_setI h a i.toNatClampNeg x) ht (by omega), hp_ar_I (by omega) (by omega), upd_va]; show Sum.inl (_, _, Sum.inl (up2 (hp_i h) a i.toNatClampNeg x a)) = _; rw [up2_r]; rfl) hP1) hS1 hl)) kk
theorem gf_zast {a j : Nat} (N : Nat) {i x : Int32} (hdg : decode M.2.1 pc = .ok (.bastore, 1)) (ht : hp_tag h a = 16) (hL : hp_len h a = N) (hi : i = nI j) (hj : j < N) (hN : N < 2147483648) (hx : vp_nar .boolean x = x) (kk : gf E M d (pc + 1) lv rest (hp_setI h a j x) v h') : gf E M d pc lv (.int x :: .int i :: .ref (E.1 + a) :: rest) h v h' := by
  obtain ⟨h1, h2⟩ := hp_ix hi hj hN
  subst h2
  subst hL
  exact gf_step (h1 := hp_setI h a i.toNatClampNeg x) rfl rfl (fun p l e R s m args below meth cc H locs cells slots ls Q hA hP hS hl _ _ _ _ k9 => va_zast (tys := hp_tys E) hA.1 hA.2.1 hA.2.2.2.2.2.2.1 hP.2 (hp_D E h) hS a 3 (hp_wI hP ht (by omega) (by omega) (by omega)) rfl h1 hdg (fun H1 locs1 hP1 _ hS1 => k9 H1 locs1 ls (hp_P_setI hP (hp_lt hP ht (by omega)) (by rw [hp_arr (h := hp_setI h a i.toNatClampNeg x) ht (by omega), hp_ar_I (by omega) (by omega), upd_va, hx]; show Sum.inl (_, _, Sum.inl (up2 (hp_i h) a i.toNatClampNeg x a)) = _; rw [up2_r]; rfl) hP1) hS1 hl)) kk
theorem gf_cast {a j : Nat} (N : Nat) {i x : Int32} (hdg : decode M.2.1 pc = .ok (.castore, 1)) (ht : hp_tag h a = 13) (hL : hp_len h a = N) (hi : i = nI j) (hj : j < N) (hN : N < 2147483648) (hx : vp_nar .char x = x) (kk : gf E M d (pc + 1) lv rest (hp_setI h a j x) v h') : gf E M d pc lv (.int x :: .int i :: .ref (E.1 + a) :: rest) h v h' := by
  obtain ⟨h1, h2⟩ := hp_ix hi hj hN
  subst h2
  subst hL
  exact gf_step (h1 := hp_setI h a i.toNatClampNeg x) rfl rfl (fun p l e R s m args below meth cc H locs cells slots ls Q hA hP hS hl _ _ _ _ k9 => va_cast (tys := hp_tys E) hA.1 hA.2.1 hA.2.2.2.2.2.2.1 hP.2 (hp_D E h) hS a 0 (hp_wI hP ht (by omega) (by omega) (by omega)) rfl h1 hdg (fun H1 locs1 hP1 _ hS1 => k9 H1 locs1 ls (hp_P_setI hP (hp_lt hP ht (by omega)) (by rw [hp_arr (h := hp_setI h a i.toNatClampNeg x) ht (by omega), hp_ar_I (by omega) (by omega), upd_va, hx]; show Sum.inl (_, _, Sum.inl (up2 (hp_i h) a i.toNatClampNeg x a)) = _; rw [up2_r]; rfl) hP1) hS1 hl)) kk
theorem gf_last {a j : Nat} (N : Nat) {i : Int32} {x : Int64} (hdg : decode M.2.1 pc = .ok (.lastore, 1)) (ht : hp_tag h a = 15) (hL : hp_len h a = N) (hi : i = nI j) (hj : j < N) (hN : N < 2147483648) (kk : gf E M d (pc + 1) lv rest (hp_setL h a j x) v h') : gf E M d pc lv (.long x :: .int i :: .ref (E.1 + a) :: rest) h v h' := by
  obtain ⟨h1, h2⟩ := hp_ix hi hj hN
  subst h2
  subst hL
  exact gf_step (h1 := hp_setL h a i.toNatClampNeg x) rfl rfl (fun p l e R s m args below meth cc H locs cells slots ls Q hA hP hS hl _ _ _ _ k9 => va_last (tys := hp_tys E) hA.1 hA.2.1 hA.2.2.2.2.2.2.1 hP.2 (hp_D E h) hS a 2 (hp_wL hP ht) rfl h1 hdg (fun H1 locs1 hP1 _ hS1 => k9 H1 locs1 ls (hp_P_setL hP (hp_lt hP ht (by omega)) (by rw [hp_arr (h := hp_setL h a i.toNatClampNeg x) ht (by omega), updL_va]; show Sum.inl (_, _, Sum.inr (Sum.inl (up2 (hp_l h) a i.toNatClampNeg x a))) = _; rw [up2_r]; rfl) hP1) hS1 hl)) kk
theorem va_up_map {B k : Nat} {f : Nat → Option Nat} {w : Option Nat} : (fun j => (va_up f k w j).map (fun x => B + x)) = va_up (fun j => (f j).map (fun x => B + x)) k (w.map (fun x => B + x)) := by
  funext j
  by_cases e : j = k <;> simp [va_up, e]
/-- an object of Terms into an array of them -/
theorem gf_rast {a b j : Nat} (N : Nat) {i : Int32} (hdg : decode M.2.1 pc = .ok (.aastore, 1)) (ht : hp_tag h a = 17) (hb : hp_tag h b = 10) (hL : hp_len h a = N) (hi : i = nI j) (hj : j < N) (hN : N < 2147483648) (kk : gf E M d (pc + 1) lv rest (hp_setR h a j (some b)) v h') : gf E M d pc lv (.ref (E.1 + b) :: .int i :: .ref (E.1 + a) :: rest) h v h' := by
  obtain ⟨h1, h2⟩ := hp_ix hi hj hN
  subst h2
  subst hL
  exact gf_step (h1 := hp_setR h a i.toNatClampNeg (some b)) rfl rfl (fun p l e R s m args below meth cc H locs cells slots ls Q hA hP hS hl _ _ _ _ k9 => va_astq (tys := hp_tys E) (ci := 10) (r := (RX10, TX10, 7)) (q0 := a) (t0 := 4) (qk := b) hA.1 hA.2.1 hA.2.2.2.2.2.2.1 hP.2 (hp_D E h) hS (hp_wR hP ht (by omega) (by omega)) rfl ((hp_get (hp_lt hP hb (by omega))).trans (by rw [hp_obj hb (by omega)])) rfl h1 hdg (fun H1 locs1 hP1 _ hS1 => k9 H1 locs1 ls (hp_P_setR hP (hp_lt hP ht (by omega)) (by rw [hp_arr (h := hp_setR h a i.toNatClampNeg (some b)) ht (by omega), hp_ar_R (by omega)]; show Sum.inl (_, _, Sum.inr (Sum.inr (Sum.inr (Sum.inr (fun j => (up2 (hp_r h) a i.toNatClampNeg (some b) a j).map _))))) = _; rw [up2_r, va_up_map]; rfl) hP1) hS1 hl)) kk
theorem gf_rastN {a j : Nat} (N : Nat) {i : Int32} (hdg : decode M.2.1 pc = .ok (.aastore, 1)) (ht : hp_tag h a = 17) (hL : hp_len h a = N) (hi : i = nI j) (hj : j < N) (hN : N < 2147483648) (kk : gf E M d (pc + 1) lv rest (hp_setR h a j none) v h') : gf E M d pc lv (.null :: .int i :: .ref (E.1 + a) :: rest) h v h' := by
  obtain ⟨h1, h2⟩ := hp_ix hi hj hN
  subst h2
  subst hL
  exact gf_step (h1 := hp_setR h a i.toNatClampNeg none) rfl rfl (fun p l e R s m args below meth cc H locs cells slots ls Q hA hP hS hl _ _ _ _ k9 => va_astqN (tys := hp_tys E) (C := RX10) hA.1 hA.2.1 hA.2.2.2.2.2.2.1 hP.2 (hp_D E h) hS a 4 (hp_wR hP ht (by omega) (by omega)) rfl h1 hdg (fun H1 locs1 hP1 _ hS1 => k9 H1 locs1 ls (hp_P_setR hP (hp_lt hP ht (by omega)) (by rw [hp_arr (h := hp_setR h a i.toNatClampNeg none) ht (by omega), hp_ar_R (by omega)]; show Sum.inl (_, _, Sum.inr (Sum.inr (Sum.inr (Sum.inr (fun j => (up2 (hp_r h) a i.toNatClampNeg none a j).map _))))) = _; rw [up2_r, va_up_map]; rfl) hP1) hS1 hl)) kk
/-! returns -/
theorem gf_endW {p : Program} {l : Launch} {e : Env} {R : Room} {s : State} {m : MethodId} {args : Array Value} {below : List Frame} {meth : Method} {c : Code} {H : Heap} {locs : List Loc} {cells slots : Nat} {g : JFrame} {Q : State → Prop} {k n : Nat} (h1 : cells = k) (h2 : slots = n) (w : W p l e R s m args below meth c H locs k n Q g) : W p l e R s m args below meth c H locs cells slots Q g := by
  subst h1; subst h2; exact w
theorem gf_iret {x : Int32} (hdg : decode M.2.1 pc = .ok (.ireturn, 1)) (hr : M.2.2.2.1 = some .int) : gf E M d pc lv [.int x] h (some (.int x)) h := by
  refine ⟨Nat.le_refl _, Nat.le_refl _, fun p l e R s m args below meth c H locs cells slots c0 s0 ls hA hP hS hl _ _ hc hs hR hRs hz => ?_⟩
  have e1 : hp_n h - c0 = cells := by omega
  have e2 : hp_s h - s0 = slots := by omega
  rw [e1, e2]
  exact W.iret (v := x) hA.1 hA.2.1 (hA.2.2.2.1.trans hr) (fun t ht hW => ⟨⟨rfl, by rw [ht]; exact hP⟩, hS.F ht⟩) hS.2.2 hdg hA.2.2.2.2.2.2.2.2.1
theorem gf_zret {x : Int32} (hdg : decode M.2.1 pc = .ok (.ireturn, 1)) (hr : M.2.2.2.1 = some .boolean) (hn : narrow .boolean (.int x) = .int x) : gf E M d pc lv [.int x] h (some (.int x)) h := by
  refine ⟨Nat.le_refl _, Nat.le_refl _, fun p l e R s m args below meth c H locs cells slots c0 s0 ls hA hP hS hl _ _ hc hs hR hRs hz => ?_⟩
  have e1 : hp_n h - c0 = cells := by omega
  have e2 : hp_s h - s0 = slots := by omega
  rw [e1, e2]
  exact W.zret (v := x) hA.1 hA.2.1 (hA.2.2.2.1.trans hr) hn (fun t ht hW => ⟨⟨rfl, by rw [ht]; exact hP⟩, hS.F ht⟩) hS.2.2 hdg hA.2.2.2.2.2.2.2.2.1
theorem gf_lret {x : Int64} (hdg : decode M.2.1 pc = .ok (.lreturn, 1)) (hr : M.2.2.2.1 = some .long) : gf E M d pc lv [.long x] h (some (.long x)) h := by
  refine ⟨Nat.le_refl _, Nat.le_refl _, fun p l e R s m args below meth c H locs cells slots c0 s0 ls hA hP hS hl _ _ hc hs hR hRs hz => ?_⟩
  have e1 : hp_n h - c0 = cells := by omega
  have e2 : hp_s h - s0 = slots := by omega
  rw [e1, e2]
  exact W.lret (v := x) hA.1 hA.2.1 (hA.2.2.2.1.trans hr) (fun t ht hW => ⟨⟨rfl, by rw [ht]; exact hP⟩, hS.F ht⟩) hS.2.2 hdg hA.2.2.2.2.2.2.2.2.1
theorem gf_vret (hdg : decode M.2.1 pc = .ok (.return_, 1)) (hr : M.2.2.2.1 = none) : gf E M d pc lv [] h none h := by
  refine ⟨Nat.le_refl _, Nat.le_refl _, fun p l e R s m args below meth c H locs cells slots c0 s0 ls hA hP hS hl _ _ hc hs hR hRs hz => ?_⟩
  have e1 : hp_n h - c0 = cells := by omega
  have e2 : hp_s h - s0 = slots := by omega
  rw [e1, e2]
  exact W.vret hA.1 hA.2.1 (hA.2.2.2.1.trans hr) (fun t ht hW => ⟨⟨rfl, by rw [ht]; exact hP⟩, hS.F ht⟩) hS.2.2 hdg hA.2.2.2.2.2.2.2.2.1
theorem gf_aret {x : Value} {C : String} (hdg : decode M.2.1 pc = .ok (.areturn, 1)) (hr : M.2.2.2.1 = some (.object C)) (hx : x = .null ∨ ∃ a, x = .ref a) : gf E M d pc lv [x] h (some x) h := by
  refine ⟨Nat.le_refl _, Nat.le_refl _, fun p l e R s m args below meth c H locs cells slots c0 s0 ls hA hP hS hl _ _ hc hs hR hRs hz => ?_⟩
  have e1 : hp_n h - c0 = cells := by omega
  have e2 : hp_s h - s0 = slots := by omega
  rw [e1, e2]
  exact W.aret (v := x) hA.1 hA.2.1 (hA.2.2.2.1.trans hr) (Or.inl ⟨C, rfl⟩) hx (fun t ht hW => ⟨⟨rfl, by rw [ht]; exact hP⟩, hS.F ht⟩) hS.2.2 hdg hA.2.2.2.2.2.2.2.2.1
end GC
