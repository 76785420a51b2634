/-! ===== the calls: force, premium, helps ===== -/
theorem Pc_hk {H : hp_T} {M : mM} {w g m n p L : Nat} (S : kS) (R : Pc H M w g m n p L) : Pc (hk H S) M w g m n p L := Pc_H (fun x hx => hb_out H S.1 (b := 165) (n := 9) (by omega)) ⟨congrFun (hb_out H S.1 (b := 165) (n := 9) (x := 243) (by decide)) 0, congrFun (hb_out H S.1 (b := 165) (n := 9) (x := 243) (by decide)) 1⟩ (fun _ _ => rfl) (sam_hk H S) R
theorem isM_hk {H : hp_T} {M : mM} {N : mN} (S : kS) (I : isM9 H M N) : isM9 (hk H S) M N := isM_fr (fun x h1 _ => hb_out H S.1 (b := 165) (n := 9) (by omega)) (fun _ _ _ => rfl) I
/-- the pile in the model -/
theorem sP_any (h : hp_T) (M : mM) (N : mN) : ∃ W : tW, hm h M N = sP h M N W := by
  obtain ⟨k, hk⟩ := nI_any (M 0 70)
  refine ⟨(k, N 52), ?_⟩
  unfold sP
  have e1 : up2 M 0 70 (nI k) = M := by
    funext x j
    unfold up2
    split
    · rename_i q
      rw [q.1, q.2, hk]
    · rfl
  have e2 : uprL N 52 (N 52) = N := by
    funext x
    unfold uprL
    split
    · rename_i q
      rw [q]
    · rfl
  dsimp only
  rw [e1, e2]
theorem Pc_70 {H : hp_T} {M : mM} {w g m n p L : Nat} {v : Int32} (R : Pc H M w g m n p L) : Pc H (up2 M 0 70 v) w g m n p L := Pc_M (fun r hr => up2_row (by omega)) (fun k hk => up2_k _ _ (by omega)) R
theorem cal_force (E : gE) {H : hp_T} (R : rel9 H) (t : Int32) : cal9 E mX11_force mX12_force [.int t] H := by
  obtain ⟨M, N, w, g, m, n, p, L, G, I, P⟩ := R
  obtain ⟨r6, r7⟩ := P.2.2.1
  obtain ⟨s, hs, es, eh⟩ := rA_s (h := H) r6
  have k1 := e_X11_force E (d := 100) (by decide) t H G (actK_rA P.1.1 r6 r7 hs eh)
  by_cases q : isO t
  · rw [if_pos q, if_pos q] at k1
    obtain ⟨o, ho, eo⟩ := int_n (b := 8) (K := 8) rfl (by decide) q
    subst eo
    rw [nI_clamp (by omega)] at k1
    have P1 := Pc_hk (kn H s) P
    have I1 := isM_hk (kn H s) I
    obtain ⟨W, hW⟩ := sP_any (hk H (kn H s)) M N
    have k2 := e_X12_force E (d := 100) (by decide) (nI o) (hk H (kn H s)) (gr_k _ G) M N (refI_rA P.1.1 r6 r7 hs es) W
    rw [if_pos q, ← hW] at k2
    rw [force_eq r6 hs r7 (show o < 9 by omega)] at k1
    exact cal_1 k1 I1 k2 (gr_k _ G) P1 (Nat.le_add_right _ _) (Nat.le_add_right _ _)
  · rw [if_neg q, if_neg q] at k1
    obtain ⟨W, hW⟩ := sP_any H M N
    have k2 := e_X12_force E (d := 100) (by decide) t H G M N (refI_rA P.1.1 r6 r7 hs es) W
    rw [if_neg q, ← hW, isM_hm I] at k2
    exact cal_0 ⟨M, N, w, g, m, n, p, L, G, I, P⟩ k1 k2
theorem mpr_row {n s w g : Nat} {k : Int32} {M : mM} {W : tW} : (∀ r, r ≠ 0 → (mprS n s w g k M W).2.1 r = M r) ∧ ∀ q, q ≠ 71 → q ≠ 72 → q ≠ 73 → q ≠ 74 → (mprS n s w g k M W).2.1 0 q = M 0 q := by
  unfold mprS
  repeat' split
  all_goals first | exact ⟨fun _ _ => rfl, fun _ _ _ _ _ => rfl⟩ | exact ⟨fun r h0 => ask_row h0, fun q h1 h2 h3 h4 => ask_0 h1 h2 h3 h4⟩
theorem cal_premium (E : gE) {H : hp_T} (R : rel9 H) (t : Int32) : cal9 E mX11_premium mX12_premium [.int t] H := by
  obtain ⟨M, N, w, g, m, n, p, L, G, I, P⟩ := R
  obtain ⟨r6, r7⟩ := P.2.2.1
  have n3 := r6.1.2.2
  obtain ⟨s, hs, es, eh⟩ := rA_s (h := H) r6
  have k1 := e_X11_premium E (d := 100) (by decide) t H G (actK_rA P.1.1 r6 r7 hs eh) P.1.1.1
  have hiff : isP H (horS H) t ↔ poQ M n s t := by
    rw [eh]
    unfold isP poQ poP knP
    rw [r6.1.1]
    have hmin : (if nI n < nI s then nI n else nI s) = nI s := if_neg (by rw [fa_lt, nI_toInt (by omega), nI_toInt (by omega)]; omega)
    rw [hmin]
    refine ⟨fun z => ?_, fun z => ?_⟩
    · obtain ⟨a, ha, ea, ha1⟩ := isM_n (t := t) (k := n) (by omega) z.1.1
      obtain ⟨q1, q2, -⟩ := r6.2.2 a ha1 ha
      subst ea
      have z12 := z.1.2
      have z21 := z.2.1.2
      have z22 := z.2.2
      rw [nI_clamp (by omega)] at z12 z22 ⊢
      rw [q1] at z12
      rw [q2] at z22
      rw [fa_le, nI_toInt (by omega), nI_toInt (by omega)] at z21
      exact ⟨z.1.1, z12, by omega, z22⟩
    · obtain ⟨a, ha, ea, ha1⟩ := isM_n (t := t) (k := n) (by omega) z.1
      obtain ⟨q1, q2, -⟩ := r6.2.2 a ha1 ha
      subst ea
      have z2 := z.2
      rw [nI_clamp (by omega)] at z2 ⊢
      rw [q1, q2]
      exact ⟨⟨z.1, z2.1⟩, ⟨z.1.1, by rw [fa_le, nI_toInt (by omega), nI_toInt (by omega)]; have := z2.2.1; omega⟩, z2.2.2⟩
  by_cases q : isP H (horS H) t
  · rw [if_pos q, if_pos q] at k1
    have hq := hiff.mp q
    obtain ⟨a, ha, ea, ha1⟩ := isM_n (t := t) (k := n) (by omega) hq.1
    subst ea
    have hp : poP M s a := by
      have := hq.2
      rw [nI_clamp (by omega)] at this
      exact this
    rw [nI_clamp (by omega)] at k1
    have hk9 : ∃ S, S = kR (preK H w g s a) (preS H w g s a).2 := ⟨_, rfl⟩
    obtain ⟨S, hS⟩ := hk9
    rw [← hS] at k1
    have P1 := Pc_hk S P
    have I1 := isM_hk S I
    obtain ⟨W, hW⟩ := sP_any (hk H S) M N
    have k2 := e_X12_premium E (d := 100) (by decide) (nI a) (hk H S) (gr_k _ G) M N (refI_rA P.1.1 r6 r7 hs es) W
    rw [← hW, ← prem_eq (W := W) P.1.1 P.1.2.1 r6 hs r7 ha1 ha hp] at k2
    obtain ⟨m1, m2⟩ := mpr_row (n := n) (s := s) (w := w) (g := g) (k := nI a) (M := M) (W := W)
    exact cal_1 k1 I1 k2 (gr_k _ G) (Pc_70 (Pc_M (fun r hr => m1 r (by omega)) (fun k hk => m2 k (by omega) (by omega) (by omega) (by omega)) P1)) (Nat.le_add_right _ _) (Nat.le_add_right _ _)
  · rw [if_neg q, if_neg q] at k1
    obtain ⟨W, hW⟩ := sP_any H M N
    have k2 := e_X12_premium E (d := 100) (by decide) t H G M N (refI_rA P.1.1 r6 r7 hs es) W
    have e0 : mprS n s w g t M W = (-1, (M, W)) := by
      unfold mprS
      exact if_pos (by rw [decide_eq_false (fun z => q (hiff.mpr z))]; rfl)
    rw [e0, ← hW, isM_hm I] at k2
    exact cal_0 ⟨M, N, w, g, m, n, p, L, G, I, P⟩ k1 k2
theorem e_X12_helps0 (E : gE) {d : Nat} (hd : 7 ≤ d) (c : Int32) {w g : Nat} (h : hp_T) (hG : gr h) (C : mty (hp_i h) w g) (hh : ¬ ((0 ≤ c ∧ c < nI (w * g)) ∧ ¬ hp_i h 281 c.toNatClampNeg = 0)) : ev E mX12_helps d [.ref (E.1 + 247), .int c] h (some (.int (-1))) h := by
  refine ev_of rfl (fun q => absurd q (by decide)) (Nat.le_of_ble_eq_true rfl) ?_
  refine gf_aload_n 0 dX12_helps_0 rfl rfl ?_
  refine gf_iload_n 1 dX12_helps_1 rfl rfl ?_
  refine gf_callV cmX12_hasHouse lkX12_482 imX12_hasHouse seX12_hasHouse ⟨rfl, by decide⟩ dX12_helps_2 (d1 := d - 1) (by omega) (gt_247 hG) (e_X12_hasHouse E (by omega) c h hG (w := w) (g := g) C) rfl rfl (Nat.le_of_ble_eq_true rfl) ?_
  refine gf_if_ne 10 dX12_helps_5 rfl (fun q => absurd (zb_f hh) q) (fun _ => ?_)
  refine gf_iconst (-1) dX12_helps_8 rfl ?_
  exact gf_iretE dX12_helps_9 rfl rfl rfl
theorem mty_at {H : hp_T} {M : mM} {N : mN} {w g : Nat} (I : isM9 H M N) (C : mcty M w g) : mty (hp_i H) w g := ⟨C.1, by rw [(I 0 (by decide)).1]; exact C.2.1, by rw [(I 0 (by decide)).1]; exact C.2.2⟩
theorem cal_helps (E : gE) {H : hp_T} (R : rel9 H) (t : Int32) : cal9 E mX11_helps mX12_helps [.int t] H := by
  obtain ⟨M, N, w, g, m, n, p, L, G, I, P⟩ := R
  have hC := P.1.1
  have hcy := cty_n hC.1
  have e12 : hp_i H 1 2 = nI (w * g) := hC.1.2.2.2.1
  obtain ⟨r6, r7⟩ := P.2.2.1
  obtain ⟨s, hs, es, eh⟩ := rA_s (h := H) r6
  have k1 := e_X11_helps E (d := 100) (by decide) t H G (actK_rA hC r6 r7 hs eh) hC.1
  by_cases q : isH H t
  · rw [if_pos q, if_pos q] at k1
    obtain ⟨c, hc, ec⟩ := cell_n hcy.2 (show 0 ≤ t ∧ t < nI (w * g) by rw [← e12]; exact q.1)
    subst ec
    have h34 : ¬ M 34 c = 0 := by
      have := q.2
      rw [nI_clamp (by omega), hC.2.2.1] at this
      exact this
    rw [nI_clamp (by omega)] at k1
    have hk9 : ∃ S, S = kR (hlS0 H w g (kn H s) c) (hlS H w g (kn H s) c 9).2 := ⟨_, rfl⟩
    obtain ⟨S, hS⟩ := hk9
    rw [← hS] at k1
    have P1 := Pc_hk S P
    have I1 := isM_hk S I
    obtain ⟨W, hW⟩ := sP_any (hk H S) M N
    have k2 := e_X12_helps E (d := 100) (by decide) (hk H S) (gr_k _ G) M N (refI_rA hC r6 r7 hs es) W hc h34
    rw [← hW, ← helps_eq (W := W) hC P.1.2.1 r6 hs r7 hc] at k2
    exact cal_1 k1 I1 k2 (gr_k _ G) (Pc_70 (Pc_M (fun r hr => hep_row (by omega) 9) (fun k hk => hep_0 (by omega) (by omega) (by omega) (by omega) 9) P1)) (Nat.le_add_right _ _) (Nat.le_add_right _ _)
  · rw [if_neg q, if_neg q] at k1
    have k2 := e_X12_helps0 E (d := 100) (by decide) t H G (mty_at I hC.2.1) (by
      rw [show hp_i H 281 = M 34 from (I 34 (by decide)).1]
      intro z
      exact q ⟨by rw [e12]; exact z.1, by rw [hC.2.2.1]; exact z.2⟩)
    exact cal_0 ⟨M, N, w, g, m, n, p, L, G, I, P⟩ k1 k2
