/-! ===== class against reference: the whole relation ===== -/
/-- the rows of the model on the heap -/
def isM9 (H : hp_T) (M : mM) (N : mN) : Prop := ∀ o, o < 86 → hp_i H (247 + o) = M o ∧ hp_l H (247 + o) = N o
theorem isM_hm {H : hp_T} {M : mM} {N : mN} (I : isM9 H M N) : hm H M N = H := by
  have e1 : (fun x => if 247 ≤ x ∧ x < 247 + 86 then M (x - 247) else H.2.2.2.2.1 x) = (fun x => if 247 ≤ x ∧ x < 247 + 86 then (fun o => hp_i H (247 + o)) (x - 247) else H.2.2.2.2.1 x) := by
    funext x
    by_cases q : 247 ≤ x ∧ x < 247 + 86
    · rw [if_pos q, if_pos q]
      exact (I (x - 247) (by omega)).1.symm
    · rw [if_neg q, if_neg q]
  have e2 : (fun x => if 247 ≤ x ∧ x < 247 + 86 then N (x - 247) else H.2.2.2.2.2.1 x) = (fun x => if 247 ≤ x ∧ x < 247 + 86 then (fun o => hp_l H (247 + o)) (x - 247) else H.2.2.2.2.2.1 x) := by
    funext x
    by_cases q : 247 ≤ x ∧ x < 247 + 86
    · rw [if_pos q, if_pos q]
      exact (I (x - 247) (by omega)).2.symm
    · rw [if_neg q, if_neg q]
  refine Eq.trans ?_ (hm_id H)
  show (H.1, H.2.1, H.2.2.1, H.2.2.2.1, (fun x => if 247 ≤ x ∧ x < 247 + 86 then M (x - 247) else H.2.2.2.2.1 x), (fun x => if 247 ≤ x ∧ x < 247 + 86 then N (x - 247) else H.2.2.2.2.2.1 x), H.2.2.2.2.2.2) = _
  rw [e1, e2]
  rfl
theorem hm_in {H : hp_T} {M : mM} {N : mN} : isM9 (hm H M N) M N := fun o ho => ⟨hb_in _ M ho, hbl_in H N ho⟩
theorem hm_out {H : hp_T} {M : mM} {N : mN} {x : Nat} (hx : x < 247 ∨ 333 ≤ x) : hp_i (hm H M N) x = hp_i H x := hb_out _ M (by omega)
theorem isM_fr {H H1 : hp_T} {M : mM} {N : mN} (e : ∀ x, 247 ≤ x → x < 333 → hp_i H1 x = hp_i H x) (e2 : ∀ x, 247 ≤ x → x < 333 → hp_l H1 x = hp_l H x) (I : isM9 H M N) : isM9 H1 M N := fun o ho => ⟨(e (247 + o) (by omega) (by omega)).trans (I o ho).1, (e2 (247 + o) (by omega) (by omega)).trans (I o ho).2⟩
theorem sam_hm (H : hp_T) (M : mM) (N : mN) : samT H (hm H M N) := fun a ha => ⟨hm_out (Or.inr ha), rfl, rfl, rfl⟩
/-- the latest fire and its claims -/
def rL (F M : mM) (w g : Nat) : Prop := (F 174 0 = M 0 90 ∧ (∃ k, k ≤ 120 ∧ M 0 91 = nI k) ∧ (∃ k, k ≤ 12 ∧ F 174 1 = nI k ∧ M 0 92 = nI k) ∧ ∀ o, o < 9 → ∃ v, v ≤ 30000000 ∧ M 81 o = nI v) ∧ (¬ M 0 90 = 0 → M 0 91 = nI (w * g) ∧ F 174 2 = M 0 103 ∧ (∀ c, c < w * g → F 175 c = M 68 c ∧ F 177 c = M 69 c ∧ F 178 c = M 70 c ∧ F 179 c = M 71 c ∧ F 180 c = M 72 c ∧ F 176 c = M 73 c ∧ F 181 c = M 74 c) ∧ (∀ e, M 0 92 = nI e → e ≤ 12 → ∀ k, k < e → F 183 k = M 75 k ∧ F 184 k = M 76 k ∧ F 185 k = M 77 k) ∧ (∀ a, a < 201 → F 187 a = M 78 a ∧ F 188 a = M 79 a ∧ F 189 a = M 80 a) ∧ ∀ o, o < 9 → F 190 o = M 81 o)
theorem rL_fr {F F1 M M1 : mM} {w g : Nat} (e : ∀ x, (174 ≤ x ∧ x ≤ 185) ∨ (187 ≤ x ∧ x ≤ 190) → F1 x = F x) (e0 : ∀ k, k = 90 ∨ k = 91 ∨ k = 92 ∨ k = 103 → M1 0 k = M 0 k) (e2 : ∀ r, 68 ≤ r ∧ r ≤ 81 → M1 r = M r) (R : rL F M w g) : rL F1 M1 w g := by
  unfold rL
  rw [e 174 (by decide), e 175 (by decide), e 176 (by decide), e 177 (by decide), e 178 (by decide), e 179 (by decide), e 180 (by decide), e 181 (by decide), e 183 (by decide), e 184 (by decide), e 185 (by decide), e 187 (by decide), e 188 (by decide), e 189 (by decide), e 190 (by decide), e0 90 (by decide), e0 91 (by decide), e0 92 (by decide), e0 103 (by decide), e2 68 (by decide), e2 69 (by decide), e2 70 (by decide), e2 71 (by decide), e2 72 (by decide), e2 73 (by decide), e2 74 (by decide), e2 75 (by decide), e2 76 (by decide), e2 77 (by decide), e2 78 (by decide), e2 79 (by decide), e2 80 (by decide), e2 81 (by decide)]
  exact R
theorem rT_hfr {h h1 : hp_T} {M : mM} {n : Nat} (e : ∀ a, a ≤ n → hp_r h1 162 a = hp_r h 162 a) (hS : samT h h1) (B : rT h M n) (hn : hp_n h ≤ hp_n h1 := by exact Nat.le_refl _) : rT h1 M n := by
  intro a h2 h3 h4
  obtain ⟨b, k, b1, b2, b3, b4, b5, b6, b7, b8, b9, c1, c2⟩ := B a h2 h3 h4
  obtain ⟨p1, p2, p3, p4⟩ := sam_parts hS b4
  obtain ⟨s1, s2, s3, s4⟩ := hS b b1
  refine ⟨b, k, b1, by rw [e a h3]; exact b2, s3.trans b3, sam_tOK hS b4, by rw [s1]; exact b5, ?_, ?_, ?_, ?_, Nat.lt_of_lt_of_le c1 hn, by rw [s2]; exact c2⟩
  · rw [p2, p3, p4]; exact b6
  · rw [s1, p3]; exact b7
  · rw [s1, p3]; exact b8
  · rw [s1, p3]; exact b9
/-- the words of the reference -/
def wdT : List (List Nat) := [[99, 111, 118, 101, 114], [118, 111, 105, 100], [104, 101, 108, 112], [112, 97, 121], [112, 114, 101, 109, 105, 117, 109], [98, 101, 115, 105, 100, 101], [102, 105, 114, 115, 116], [112, 97, 114, 116, 115], [97, 102, 116, 101, 114], [111, 114], [97, 110, 100], [110, 111, 116], [97, 108, 108], [111, 102, 102, 105, 99, 101], [119, 97, 108, 108], [116, 114, 97, 100, 101], [119, 111, 114, 116, 104], [115, 117, 109], [108, 111, 115, 115], [111, 116, 104, 101, 114, 115], [110, 101, 97, 114], [109, 105, 110], [109, 97, 120]]
def rV (M : mM) : Prop := ∀ k, k < 23 → ∀ j, j < (wdT.getD k []).length → M (2 + k) j = nI ((wdT.getD k []).getD j 0)
def rRV (F M : mM) (L : Nat) : Prop := rR F M L ∧ rV M
theorem rRV_fr {F F1 M M1 : mM} {L : Nat} (e : F1 150 = F 150 ∧ F1 154 = F 154) (e0 : ∀ k, k = 1 ∨ k = 2 ∨ k = 7 ∨ k = 8 ∨ k = 37 ∨ k = 39 ∨ k = 41 → M1 0 k = M 0 k) (e2 : ∀ r, 1 ≤ r → r ≤ 24 → M1 r = M r) (R : rRV F M L) : rRV F1 M1 L := ⟨rR_fr e e0 (e2 1 (by decide) (by decide)) R.1, fun k hk j hj => by rw [e2 (2 + k) (by omega) (by omega)]; exact R.2 k hk j hj⟩
/-- all pieces -/
def Pc (H : hp_T) (M : mM) (w g m n p L : Nat) : Prop := (rC (hp_i H) M w g ∧ bC M ∧ rW (hp_i H) M) ∧ (rE (hp_i H) M w g m ∧ rP (hp_i H) M w g p) ∧ (rA (hp_i H) M w g n ∧ rT H M n) ∧ rRV (hp_i H) M L ∧ rL (hp_i H) M w g
def Rel (H : hp_T) (M : mM) (N : mN) (w g m n p L : Nat) : Prop := gr H ∧ isM9 H M N ∧ Pc H M w g m n p L
/-- rows of the class that are read -/
abbrev rowC (x : Nat) : Prop := (1 ≤ x ∧ x ≤ 8) ∨ (10 ≤ x ∧ x ≤ 134) ∨ (136 ≤ x ∧ x ≤ 150) ∨ x = 154 ∨ (158 ≤ x ∧ x ≤ 164) ∨ (174 ≤ x ∧ x ≤ 185) ∨ (187 ≤ x ∧ x ≤ 190) ∨ x = 244 ∨ x = 245
theorem Pc_H {H H1 : hp_T} {M : mM} {w g m n p L : Nat} (e : ∀ x, rowC x → hp_i H1 x = hp_i H x) (e3 : hp_i H1 243 0 = hp_i H 243 0 ∧ hp_i H1 243 1 = hp_i H 243 1) (eR : ∀ a, a ≤ n → hp_r H1 162 a = hp_r H 162 a) (eS : samT H H1) (R : Pc H M w g m n p L) (hn : hp_n H ≤ hp_n H1 := by exact Nat.le_refl _) : Pc H1 M w g m n p L := by
  obtain ⟨⟨r1, r2, r3⟩, ⟨r4, r5⟩, ⟨r6, r7⟩, r8, r9⟩ := R
  refine ⟨⟨rC_fr (fun x hx => e x (by omega)) (fun _ _ => rfl) ⟨rfl, rfl⟩ r1, r2, rW_fr ⟨e 131 (by decide), e 132 (by decide), e 133 (by decide)⟩ ⟨rfl, rfl, rfl⟩ r3⟩, ⟨rE_fr ⟨by rw [e 145 (by decide)], rfl⟩ (fun x hx => e x (by omega)) (fun _ _ => rfl) r4, rP_fr ⟨e3.1, e3.2, rfl, rfl⟩ ⟨e 244 (by decide), e 245 (by decide)⟩ ⟨rfl, rfl⟩ r5⟩, ⟨rA_fr (fun x hx => e x (by omega)) ⟨rfl, rfl⟩ (fun _ _ => rfl) r6, rT_hfr eR eS r7 hn⟩, rRV_fr ⟨e 150 (by decide), e 154 (by decide)⟩ (fun _ _ => rfl) (fun _ _ _ => rfl) r8, rL_fr (fun x hx => e x (by omega)) (fun _ _ => rfl) (fun _ _ => rfl) r9⟩
/-- rows of the reference that are read -/
abbrev rowM (r : Nat) : Prop := (1 ≤ r ∧ r ≤ 51 ∧ r ≠ 30) ∨ (68 ≤ r ∧ r ≤ 81) ∨ r = 85
abbrev rowK (k : Nat) : Prop := k = 1 ∨ k = 2 ∨ k = 7 ∨ k = 8 ∨ k = 37 ∨ k = 39 ∨ k = 41 ∨ k = 42 ∨ k = 43 ∨ k = 54 ∨ k = 60 ∨ k = 62 ∨ k = 68 ∨ k = 90 ∨ k = 91 ∨ k = 92 ∨ k = 103 ∨ k = 112
theorem Pc_M {H : hp_T} {M M1 : mM} {w g m n p L : Nat} (e : ∀ r, rowM r → M1 r = M r) (e0 : ∀ k, rowK k → M1 0 k = M 0 k) (R : Pc H M w g m n p L) : Pc H M1 w g m n p L := by
  obtain ⟨⟨r1, r2, r3⟩, ⟨r4, r5⟩, ⟨r6, r7⟩, r8, r9⟩ := R
  refine ⟨⟨rC_fr (fun _ _ => rfl) (fun x hx => e x (by omega)) ⟨e0 42 (by decide), e0 43 (by decide)⟩ r1, bC_fr (fun x hx => e x (by omega)) r2, rW_fr ⟨rfl, rfl, rfl⟩ ⟨e 37 (by decide), e 38 (by decide), e 39 (by decide)⟩ r3⟩, ⟨rE_fr ⟨rfl, e0 54 (by decide)⟩ (fun _ _ => rfl) (fun x hx => e x (by omega)) r4, rP_fr ⟨rfl, rfl, e0 60 (by decide), e0 112 (by decide)⟩ ⟨rfl, rfl⟩ ⟨e 46 (by decide), e 85 (by decide)⟩ r5⟩, ⟨rA_fr (fun _ _ => rfl) ⟨e0 62 (by decide), e0 68 (by decide)⟩ (fun x hx => e x (by omega)) r6, rT_fr (fun r hr => e r (by omega)) r7⟩, rRV_fr ⟨rfl, rfl⟩ (fun k hk => e0 k (by omega)) (fun r h1 h2 => e r (by omega)) r8, rL_fr (fun _ _ => rfl) (fun k hk => e0 k (by omega)) (fun r hr => e r (by omega)) r9⟩
theorem gr_hm {H : hp_T} {M : mM} {N : mN} (G : gr H) : gr (hm H M N) := G
/-- from the pieces to the relation -/
theorem Rel_mk {H : hp_T} {M : mM} {N : mN} {w g m n p L : Nat} (G : gr H) (R : Pc H M w g m n p L) : Rel (hm H M N) M N w g m n p L := ⟨gr_hm G, hm_in, Pc_H (fun x hx => hm_out (by omega)) ⟨by rw [hm_out (by decide)], by rw [hm_out (by decide)]⟩ (fun _ _ => rfl) (sam_hm H M N) R⟩
def rel9 (H : hp_T) : Prop := ∃ M N w g m n p L, Rel H M N w g m n p L
theorem rel_mk {H : hp_T} {M : mM} {N : mN} {w g m n p L : Nat} (G : gr H) (R : Pc H M w g m n p L) : rel9 (hm H M N) := ⟨M, N, w, g, m, n, p, L, Rel_mk G R⟩
/-- one call of the law: both answer alike, and the relation holds behind it -/
def kV (m : gM) (v : Value) : Prop := (m.2.2.2.1 = some .long → ∃ x : Int64, v = .long x) ∧ (m.2.2.2.1 ≠ some .long → ∃ x : Int32, v = .int x)
theorem kV_i {m : gM} {x : Int32} (h : m.2.2.2.1 ≠ some .long) : kV m (.int x) := ⟨fun e => absurd e h, fun _ => ⟨x, rfl⟩⟩
theorem kV_l {m : gM} {x : Int64} (h : m.2.2.2.1 = some .long) : kV m (.long x) := ⟨fun _ => ⟨x, rfl⟩, fun e => absurd h e⟩
def cal9 (E : gE) (m1 m2 : gM) (av : List Value) (H : hp_T) : Prop := ∃ v H1 H2, ev E m1 100 (.ref (E.1 + 0) :: av) H (some v) H1 ∧ ev E m2 100 (.ref (E.1 + 247) :: av) H1 (some v) H2 ∧ rel9 H2 ∧ hp_n H2 ≤ hp_n H + 4 ∧ hp_s H2 ≤ hp_s H + 700 ∧ kV m1 v ∧ gr H1
theorem ev_v {E : gE} {M : gM} {d : Nat} {av : List Value} {h h1 : hp_T} {v u : Option Value} (e : v = u) (k : ev E M d av h v h1) : ev E M d av h u h1 := e ▸ k
theorem ev_h0 {E : gE} {M : gM} {d : Nat} {av : List Value} {h h0 h1 : hp_T} {v : Option Value} (e : h = h0) (k : ev E M d av h v h1) : ev E M d av h0 v h1 := e ▸ k
/-- a call that leaves both sides -/
theorem cal_0 {E : gE} {m1 m2 : gM} {av : List Value} {H : hp_T} {v : Value} (R : rel9 H) (k1 : ev E m1 100 (.ref (E.1 + 0) :: av) H (some v) H) (k2 : ev E m2 100 (.ref (E.1 + 247) :: av) H (some v) H) (hv : kV m1 v := by first | exact kV_i (by decide) | exact kV_l rfl) : cal9 E m1 m2 av H := ⟨v, H, H, k1, k2, R, Nat.le_add_right _ _, Nat.le_add_right _ _, hv, (by obtain ⟨M, N, w, g, m, n, p, L, R1⟩ := R; exact R1.1)⟩
