/-! ===== the reference: worst, place, all, city, feed ===== -/
theorem byp_N {n : Nat} {c left : Int32} {M : mM} {N : mN} {r : Nat} (h : r ≠ 67) : (bypS n c left M N).2.2 r = N r := by
  unfold bypS
  split
  · have e : ∀ j, (itN (bpfB c left (bpaS n c M)) ((M, N), left) j).1.2 r = N r := fun j => by
      induction j with
      | zero => rfl
      | succ j ih =>
        refine Eq.trans ?_ ih
        show (bpfB c left (bpaS n c M) (itN (bpfB c left (bpaS n c M)) ((M, N), left) j) j).1.2 r = _
        generalize itN (bpfB c left (bpaS n c M)) ((M, N), left) j = y
        unfold bpfB
        repeat' split
        all_goals first | rfl | exact hp_upne h
    refine Eq.trans ?_ (e n)
    generalize (itN (bpfB c left (bpaS n c M)) ((M, N), left) n) = y
    show (bpwS n c y.1 y.2.toNatClampNeg).2 r = y.1.2 r
    generalize y.2.toNatClampNeg = m
    generalize y.1 = x
    unfold bpwS
    induction m with
    | zero => rfl
    | succ m ih =>
      rw [itN_s]
      exact (hp_upne h).trans ih
  · rfl
theorem cls_N {n : Nat} {z : mM × mN} {r : Nat} (h : r ≠ 67) : ∀ j, (itN (clsB n) z j).2 r = z.2 r
  | 0 => rfl
  | j + 1 => by
    refine Eq.trans ?_ (cls_N (n := n) h j)
    show (clsB n (itN (clsB n) z j) j).2 r = _
    generalize itN (clsB n) z j = y
    unfold clsB
    split
    · rfl
    · exact byp_N h
theorem uprL_s (X : mN) (o : Nat) (f : Nat → Int64) : uprL X o f o = f := if_pos rfl
theorem cl_hm (h : hp_T) (N : mN) {n s w g : Nat} {z : qS} : hm h (clF n s w g z N).1 (clF n s w g z N).2 = sP h (clF n s w g z N).1 (clF n s w g z N).2 (clZ n s w g z).2 := by
  unfold sP
  rw [show uprL (clF n s w g z N).2 52 (clZ n s w g z).2.2 = (clF n s w g z N).2 from by
    have e : (clF n s w g z N).2 52 = (clZ n s w g z).2.2 := (cls_N (by decide) (w * g)).trans (uprL_s N 52 _)
    rw [← e]
    exact uprL_id _ _]
  refine congrArg (fun x => hm h x _) ?_
  funext x i
  unfold up2
  split
  · rename_i q
    rw [q.1, q.2, clF_70]
  · rfl
theorem runI_of {M Z : mM} {n s w g m : Nat} (h0 : ∀ k, k < 70 → Z 0 k = M 0 k) (hr : ∀ r, r ≠ 0 → r < 53 → Z r = M r) (R : runI M n s w g m) : runI Z n s w g m := by
  refine ⟨refI_of (fun k hk => h0 k (by omega)) (fun r hk => hr r (by omega) (by omega)) R.1, ?_, ?_, ?_, ?_⟩
  · unfold preI
    rw [hr 31 (by decide) (by decide), hr 32 (by decide) (by decide), hr 42 (by decide) (by decide), hr 43 (by decide) (by decide), h0 54 (by decide)]
    exact R.2.1
  · rw [hr 33 (by decide) (by decide)]; exact R.2.2.1
  · rw [hr 47 (by decide) (by decide), hr 50 (by decide) (by decide)]; exact R.2.2.2.1
  · rw [hr 34 (by decide) (by decide)]; exact R.2.2.2.2
theorem runI_fr {n s w g m c0 T : Nat} {z : qS} {N : mN} (R : runI z.1 n s w g m) : runI (clF n s w g (frF n s w g m c0 T z) N).1 n s w g m :=
  runI_of (fun k hk => (clF_0 (z := frF n s w g m c0 T z) (by omega)).trans (go_0 (by omega))) (fun r h0 hr => (clF_row (z := frF n s w g m c0 T z) h0 (by omega) (by omega) (by omega) (by omega)).trans (go_row (by omega) h0)) R
def worB (n s w g m : Nat) (o u : Int32) (z : (mM × mN × tW) × Int32 × Int32) (jz : Nat) : (mM × mN × tW) × Int32 × Int32 := (if (z.1.1 34 jz) = 0 then ((z.1.1, z.1.2), z.2.1, z.2.2) else (if z.2.1 < (mseS (clF n s w g (frF n s w g m jz u.toNatClampNeg (z.1.1, z.1.2.2)) z.1.2.1).1 o n) then (((clF n s w g (frF n s w g m jz u.toNatClampNeg (z.1.1, z.1.2.2)) z.1.2.1).1, ((clF n s w g (frF n s w g m jz u.toNatClampNeg (z.1.1, z.1.2.2)) z.1.2.1).2, (clZ n s w g (frF n s w g m jz u.toNatClampNeg (z.1.1, z.1.2.2))).2)), (mseS (clF n s w g (frF n s w g m jz u.toNatClampNeg (z.1.1, z.1.2.2)) z.1.2.1).1 o n), (nI jz)) else (((clF n s w g (frF n s w g m jz u.toNatClampNeg (z.1.1, z.1.2.2)) z.1.2.1).1, ((clF n s w g (frF n s w g m jz u.toNatClampNeg (z.1.1, z.1.2.2)) z.1.2.1).2, (clZ n s w g (frF n s w g m jz u.toNatClampNeg (z.1.1, z.1.2.2))).2)), z.2.1, z.2.2)))
theorem worB_I {n s w g m : Nat} {o u : Int32} (z : (mM × mN × tW) × Int32 × Int32) (jz : Nat) (R : runI z.1.1 n s w g m) : runI (worB n s w g m o u z jz).1.1 n s w g m := by
  unfold worB
  repeat' split
  all_goals first | exact R | exact runI_fr (z := (z.1.1, z.1.2.2)) R
theorem wor_I {n s w g m : Nat} {o u : Int32} {z : (mM × mN × tW) × Int32 × Int32} (R : runI z.1.1 n s w g m) : ∀ j, runI (itN (worB n s w g m o u) z j).1.1 n s w g m
  | 0 => R
  | j + 1 => worB_I _ j (wor_I R j)
theorem l_wor (E : gE) {d : Nat} (hd : 9 ≤ d) {n s w g m : Nat} (o u : Int32) (h : hp_T) (hG : gr h) (M : mM) (N : mN) (R : runI M n s w g m) (W : tW) (hu : 1 ≤ u ∧ u ≤ 60) {v : Option Value} {hz : hp_T} (K : gf E mX12_worst d 91 [(0, .ref (E.1 + 247)), (1, .int o), (2, .int u), (3, .int ((itN (worB n s w g m o u) ((M, N, W), 0, -1) (w * g)).2.1)), (4, .int ((itN (worB n s w g m o u) ((M, N, W), 0, -1) (w * g)).2.2)), (5, .int (nI (w * g)))] [] (sP h ((itN (worB n s w g m o u) ((M, N, W), 0, -1) (w * g)).1.1) ((itN (worB n s w g m o u) ((M, N, W), 0, -1) (w * g)).1.2).1 ((itN (worB n s w g m o u) ((M, N, W), 0, -1) (w * g)).1.2).2) v hz) : ∀ (kz jz : Nat), jz + kz = (w * g) → gf E mX12_worst d 29 [(0, .ref (E.1 + 247)), (1, .int o), (2, .int u), (3, .int ((itN (worB n s w g m o u) ((M, N, W), 0, -1) jz).2.1)), (4, .int ((itN (worB n s w g m o u) ((M, N, W), 0, -1) jz).2.2)), (5, .int (nI jz))] [] (sP h ((itN (worB n s w g m o u) ((M, N, W), 0, -1) jz).1.1) ((itN (worB n s w g m o u) ((M, N, W), 0, -1) jz).1.2).1 ((itN (worB n s w g m o u) ((M, N, W), 0, -1) jz).1.2).2) v hz := by
  have hn : w * g ≤ 120 := Nat.le_trans (Nat.mul_le_mul R.1.2.1.1.2.1 R.1.2.1.1.2.2.2) (by decide)
  have hn2 := R.1.1.2.1
  have hu9 : u = nI u.toNatClampNeg := ix_nI (by have h1 := hu.1; rw [fa_le, ti_1] at h1; omega)
  have hu120 : u.toNatClampNeg ≤ 120 := by
    have h1 := hu.1
    have h2 := hu.2
    rw [fa_le, ti_1] at h1
    rw [fa_le, ti_60] at h2
    have := ix_lt (c := u) (n := 121) (by omega) (by omega)
    omega
  intro kz
  induction kz with
  | zero =>
    intro jz hj
    have hj : (w * g) = jz := by omega
    subst hj
    have Iz : runI (itN (worB n s w g m o u) ((M, N, W), 0, -1) (w * g)).1.1 n s w g m := wor_I (z := ((M, N, W), 0, -1)) R (w * g)
    generalize ez : (itN (worB n s w g m o u) ((M, N, W), 0, -1) (w * g)) = z at K Iz ⊢
    refine gf_iload dX12_worst_29 rfl ?_
    refine gf_aload_n 0 dX12_worst_31 rfl rfl ?_
    refine gf_callV cmX12_cells lkX12_409 imX12_cells seX12_cells ⟨rfl, by decide⟩ dX12_worst_32 (d1 := d - 1) (by omega) (gt_247 hG) (e_X12_cells E (by omega) (sP h z.1.1 z.1.2.1 z.1.2.2) hG) rfl rfl (Nat.le_of_ble_eq_true rfl) ?_
    rw [show hp_i (sP h z.1.1 z.1.2.1 z.1.2.2) 247 42 * hp_i (sP h z.1.1 z.1.2.1 z.1.2.2) 247 43 = nI (w * g) from cel_e (M := z.1.1) Iz.1.2.1]
    refine gf_icmp_ge 91 dX12_worst_35 rfl (fun _ => ?_) (fun q => absurd (nI_le (by omega) (by omega)) q)
    exact gf_lw K ⟨rfl, rfl, rfl, rfl, rfl, rfl, trivial⟩
  | succ kz ih =>
    intro jz hj
    have ih1 := ih (jz + 1) (by omega)
    have Iz : runI (itN (worB n s w g m o u) ((M, N, W), 0, -1) jz).1.1 n s w g m := wor_I (z := ((M, N, W), 0, -1)) R jz
    rw [show (itN (worB n s w g m o u) ((M, N, W), 0, -1) (jz + 1)) = worB n s w g m o u (itN (worB n s w g m o u) ((M, N, W), 0, -1) jz) jz from itN_s _ _ _] at ih1
    generalize (itN (worB n s w g m o u) ((M, N, W), 0, -1) jz) = z at ih1 Iz ⊢
    refine gf_iload dX12_worst_29 rfl ?_
    refine gf_aload_n 0 dX12_worst_31 rfl rfl ?_
    refine gf_callV cmX12_cells lkX12_409 imX12_cells seX12_cells ⟨rfl, by decide⟩ dX12_worst_32 (d1 := d - 1) (by omega) (gt_247 hG) (e_X12_cells E (by omega) (sP h z.1.1 z.1.2.1 z.1.2.2) hG) rfl rfl (Nat.le_of_ble_eq_true rfl) ?_
    rw [show hp_i (sP h z.1.1 z.1.2.1 z.1.2.2) 247 42 * hp_i (sP h z.1.1 z.1.2.1 z.1.2.2) 247 43 = nI (w * g) from cel_e (M := z.1.1) Iz.1.2.1]
    refine gf_icmp_ge 91 dX12_worst_35 rfl (fun q => absurd q (nI_ge (by omega) (by omega))) (fun _ => ?_)
    refine gf_aload_n 0 dX12_worst_38 rfl rfl ?_
    refine gf_getR flX12_121 rfl dX12_worst_39 (gt_247 hG) (gp_247_47 hG) ?_
    refine gf_iload dX12_worst_42 rfl ?_
    refine gf_zald 120 dX12_worst_44 (gt_281 hG) (gl_281 hG) rfl (by omega) (by decide) ?_
    refine gf_if_ne 51 dX12_worst_45 rfl (fun zc45 => ?_) (fun zc45 => ?_)
    · refine gf_aload_n 0 dX12_worst_51 rfl rfl ?_
      refine gf_iload dX12_worst_52 rfl ?_
      refine gf_iload_n 2 dX12_worst_54 rfl rfl ?_
      refine gf_callV cmX12_goes lkX12_611 imX12_goes seX12_goes ⟨rfl, by decide⟩ dX12_worst_55 (d1 := d - 1) (by omega) (gt_247 hG) (ev_aE (by rw [← hu9]) (e_X12_goes E (by omega) (n := n) (s := s) (w := w) (g := g) (m := m) (c0 := jz) (T := u.toNatClampNeg) h hG z.1.1 z.1.2.1 Iz.1 z.1.2.2 Iz.2.1 (show jz < w * g by omega) hu120)) rfl rfl (Nat.le_of_ble_eq_true rfl) ?_
      rw [go_hm]
      change gf _ _ _ _ _ _ (sP h (frF n s w g m jz u.toNatClampNeg (z.1.1, z.1.2.2)).1 z.1.2.1 (frF n s w g m jz u.toNatClampNeg (z.1.1, z.1.2.2)).2) _ _
      have hwl : ∀ x, x < 120 → ∃ k, k < 4 ∧ (goF n s w g m jz u.toNatClampNeg (z.1.1, z.1.2.2)) 31 x = nI k := by rw [go_row (by decide) (by decide)]; exact Iz.2.1.1
      have hls : ∀ c2, c2 < w * g → 0 ≤ mloV (goF n s w g m jz u.toNatClampNeg (z.1.1, z.1.2.2)) c2 := fun c2 hc2 => by
        obtain ⟨l, hl, el⟩ := fr_loss (n := n) (s := s) (w := w) (g := g) (m := m) (c0 := jz) (T := u.toNatClampNeg) (z := (z.1.1, z.1.2.2)) Iz hu120 (show c2 < 120 by omega)
        rw [el]
        exact nn_nI (by omega)
      have hsu : ∀ a, 1 ≤ a → a ≤ n → (goF n s w g m jz u.toNatClampNeg (z.1.1, z.1.2.2)) 47 a = 2 → ∃ v, v < 100000 ∧ (goF n s w g m jz u.toNatClampNeg (z.1.1, z.1.2.2)) 50 a = nI v := by rw [go_row (by decide) (by decide), go_row (by decide) (by decide)]; exact Iz.2.2.2.1
      refine gf_aload_n 0 dX12_worst_58 rfl rfl ?_
      refine gf_callV cmX12_claims lkX12_614 imX12_claims seX12_claims ⟨rfl, by decide⟩ dX12_worst_59 (d1 := d - 1) (by omega) (gt_247 hG) (e_X12_claims E (by omega) h hG (frF n s w g m jz u.toNatClampNeg (z.1.1, z.1.2.2)).1 z.1.2.1 (n := n) (s := s) (w := w) (g := g) (go_refI (z := (z.1.1, z.1.2.2)) Iz.1) (frF n s w g m jz u.toNatClampNeg (z.1.1, z.1.2.2)).2 hwl hls (fr_hi0 (go_refI (z := (z.1.1, z.1.2.2)) Iz.1) hsu)) rfl rfl (Nat.le_of_ble_eq_true rfl) ?_
      refine gf_aload_n 0 dX12_worst_62 rfl rfl ?_
      refine gf_iload_n 1 dX12_worst_63 rfl rfl ?_
      refine gf_callV cmX12_settledOf lkX12_629 imX12_settledOf seX12_settledOf ⟨rfl, by decide⟩ dX12_worst_64 (d1 := d - 1) (by omega) (gt_247 hG) (e_X12_settledOf E (by omega) o h hG (clF n s w g (frF n s w g m jz u.toNatClampNeg (z.1.1, z.1.2.2)) z.1.2.1).1 (clF n s w g (frF n s w g m jz u.toNatClampNeg (z.1.1, z.1.2.2)) z.1.2.1).2 (runI_fr (z := (z.1.1, z.1.2.2)) Iz).1.1.1 hn2) rfl rfl (Nat.le_of_ble_eq_true rfl) ?_
      rw [cl_hm]
      refine gf_istore dX12_worst_67 (Nat.le_of_ble_eq_true rfl) ?_
      refine gf_iload dX12_worst_69 rfl ?_
      refine gf_iload_n 3 dX12_worst_71 rfl rfl ?_
      refine gf_icmp_gt 78 dX12_worst_72 rfl (fun zc72 => ?_) (fun zc72 => ?_)
      · refine gf_iload dX12_worst_78 rfl ?_
        refine gf_istore_n 3 dX12_worst_80 rfl (Nat.le_of_ble_eq_true rfl) ?_
        refine gf_iload dX12_worst_81 rfl ?_
        refine gf_istore dX12_worst_83 (Nat.le_of_ble_eq_true rfl) ?_
        refine gf_iinc (1) dX12_worst_85 rfl rfl (Nat.le_of_ble_eq_true rfl) ?_
        refine gf_goto 29 dX12_worst_88 rfl ?_
        rw [show worB n s w g m o u z jz = (((clF n s w g (frF n s w g m jz u.toNatClampNeg (z.1.1, z.1.2.2)) z.1.2.1).1, ((clF n s w g (frF n s w g m jz u.toNatClampNeg (z.1.1, z.1.2.2)) z.1.2.1).2, (clZ n s w g (frF n s w g m jz u.toNatClampNeg (z.1.1, z.1.2.2))).2)), (mseS (clF n s w g (frF n s w g m jz u.toNatClampNeg (z.1.1, z.1.2.2)) z.1.2.1).1 o n), (nI jz)) from (if_neg zc45).trans (if_pos zc72)] at ih1
        exact gf_lw ih1 ⟨rfl, rfl, rfl, rfl, rfl, lvE (nI_1 jz), trivial⟩
      · refine gf_goto 85 dX12_worst_75 rfl ?_
        refine gf_iinc (1) dX12_worst_85 rfl rfl (Nat.le_of_ble_eq_true rfl) ?_
        refine gf_goto 29 dX12_worst_88 rfl ?_
        rw [show worB n s w g m o u z jz = (((clF n s w g (frF n s w g m jz u.toNatClampNeg (z.1.1, z.1.2.2)) z.1.2.1).1, ((clF n s w g (frF n s w g m jz u.toNatClampNeg (z.1.1, z.1.2.2)) z.1.2.1).2, (clZ n s w g (frF n s w g m jz u.toNatClampNeg (z.1.1, z.1.2.2))).2)), z.2.1, z.2.2) from (if_neg zc45).trans (if_neg zc72)] at ih1
        exact gf_lw ih1 ⟨rfl, rfl, rfl, rfl, rfl, lvE (nI_1 jz), trivial⟩
    · refine gf_goto 85 dX12_worst_48 rfl ?_
      refine gf_iinc (1) dX12_worst_85 rfl rfl (Nat.le_of_ble_eq_true rfl) ?_
      refine gf_goto 29 dX12_worst_88 rfl ?_
      rw [show worB n s w g m o u z jz = ((z.1.1, z.1.2), z.2.1, z.2.2) from if_pos zc45] at ih1
      exact gf_lw ih1 ⟨rfl, rfl, rfl, rfl, rfl, lvE (nI_1 jz), trivial⟩
def mwoS (n s w g m : Nat) (o u : Int32) (M : mM) (N : mN) (W : tW) : (mM × mN × tW) × Int32 × Int32 := itN (worB n s w g m o u) ((M, N, W), 0, -1) (w * g)
abbrev mwoC (o u : Int32) : Prop := (0 ≤ o ∧ o ≤ 8) ∧ (1 ≤ u ∧ u ≤ 60)
theorem e_X12_worst (E : gE) {d : Nat} (hd : 9 ≤ d) {n s w g m : Nat} (o u : Int32) (h : hp_T) (hG : gr h) (M : mM) (N : mN) (R : runI M n s w g m) (W : tW) : ev E mX12_worst d [.ref (E.1 + 247), .int o, .int u] (sP h M N W) (some (.int (if mwoC o u then (mwoS n s w g m o u M N W).2.2 else -1))) (if mwoC o u then sP h (mwoS n s w g m o u M N W).1.1 (mwoS n s w g m o u M N W).1.2.1 (mwoS n s w g m o u M N W).1.2.2 else sP h M N W) := by
  refine ev_of rfl (fun q => absurd q (by decide)) (Nat.le_of_ble_eq_true rfl) ?_
  by_cases hP : mwoC o u
  · rw [if_pos hP, if_pos hP]
    refine gf_iload_n 1 dX12_worst_0 rfl rfl ?_
    refine gf_callS cmX12_isOffice lkX12_451 stX12_isOffice dX12_worst_1 (d1 := d - 1) (by omega) (e_X12_isOffice E (by omega) o _) rfl rfl (Nat.le_of_ble_eq_true rfl) ?_
    refine gf_if_eq 19 dX12_worst_4 rfl (fun q => absurd q (fun q => zb_0.mp q hP.1)) (fun _ => ?_)
    refine gf_iload_n 2 dX12_worst_7 rfl rfl ?_
    refine gf_i2l dX12_worst_8 ?_
    refine gf_lconst (1) dX12_worst_9 rfl ?_
    refine gf_ldc2 (60) kcX12_647 dX12_worst_10 ?_
    refine gf_callS cmX12_isIn lkX12_325 stX12_isIn dX12_worst_13 (d1 := d - 1) (by omega) (e_X12_isIn E (by omega) u.toInt64 1 60 _) rfl rfl (Nat.le_of_ble_eq_true rfl) ?_
    refine gf_if_ne 21 dX12_worst_16 rfl (fun _ => ?_) (fun q => absurd q (fun q => zb_0.mp q ((isIn_l z64_1 z64_60).mpr hP.2)))
    refine gf_iconst (0) dX12_worst_21 rfl ?_
    refine gf_istore_n 3 dX12_worst_22 rfl (Nat.le_of_ble_eq_true rfl) ?_
    refine gf_iconst (-1) dX12_worst_23 rfl ?_
    refine gf_istore dX12_worst_24 (Nat.le_of_ble_eq_true rfl) ?_
    refine gf_iconst (0) dX12_worst_26 rfl ?_
    refine gf_istore dX12_worst_27 (Nat.le_of_ble_eq_true rfl) ?_
    refine gf_lw (l_wor E (by omega) (n := n) (s := s) (w := w) (g := g) (m := m) o u h hG M N R W hP.2 ?_ (w * g) 0 (by omega)) ⟨rfl, rfl, rfl, rfl, rfl, rfl, trivial⟩
    refine gf_iload dX12_worst_91 rfl ?_
    exact gf_iretE dX12_worst_93 rfl (rfl) (rfl)
  · rw [if_neg hP, if_neg hP]
    refine gf_iload_n 1 dX12_worst_0 rfl rfl ?_
    refine gf_callS cmX12_isOffice lkX12_451 stX12_isOffice dX12_worst_1 (d1 := d - 1) (by omega) (e_X12_isOffice E (by omega) o _) rfl rfl (Nat.le_of_ble_eq_true rfl) ?_
    refine gf_if_eq 19 dX12_worst_4 rfl (fun zc4 => ?_) (fun zc4 => ?_)
    · refine gf_iconst (-1) dX12_worst_19 rfl ?_
      exact gf_iretE dX12_worst_20 rfl (rfl) (rfl)
    · refine gf_iload_n 2 dX12_worst_7 rfl rfl ?_
      refine gf_i2l dX12_worst_8 ?_
      refine gf_lconst (1) dX12_worst_9 rfl ?_
      refine gf_ldc2 (60) kcX12_647 dX12_worst_10 ?_
      refine gf_callS cmX12_isIn lkX12_325 stX12_isIn dX12_worst_13 (d1 := d - 1) (by omega) (e_X12_isIn E (by omega) u.toInt64 1 60 _) rfl rfl (Nat.le_of_ble_eq_true rfl) ?_
      refine gf_if_ne 21 dX12_worst_16 rfl (fun zc16 => ?_) (fun zc16 => ?_)
      · exact absurd ⟨zb_1.mp zc4, (isIn_l z64_1 z64_60).mp (zb_1.mp zc16)⟩ hP
      · refine gf_iconst (-1) dX12_worst_19 rfl ?_
        exact gf_iretE dX12_worst_20 rfl (rfl) (rfl)
abbrev mplC (M : mM) (w g p : Nat) (c : Int32) : Prop := (0 ≤ c ∧ c < nI (w * g)) ∧ ¬ anyb (fun k => decide (M 46 k = c)) p = true ∧ p < 8
def mplM (M : mM) (p : Nat) (c : Int32) : mM := up2 (up2 M 46 p c) 0 60 (nI (p + 1))
theorem l_pla (E : gE) {d : Nat} {w g p : Nat} (c : Int32) (h : hp_T) (hG : gr h) (M : mM) (N : mN) (C : mcty M w g) (hp8 : M 0 60 = nI p) (hp : p ≤ 8) (hp7 : p < 8) {v : Option Value} {hz : hp_T} (K : ¬ anyb (fun k => decide (M 46 k = c)) p = true → gf E mX12_place d 47 [(0, .ref (E.1 + 247)), (1, .int c), (2, .int (nI p))] [] (hm h M N) v hz) (K2 : anyb (fun k => decide (M 46 k = c)) p = true → v = some (.int (-1)) ∧ hz = (hm h M N)) : ∀ (kz jz : Nat), jz + kz = p → (∀ i, i < jz → decide (M 46 i = c) = false) → gf E mX12_place d 21 [(0, .ref (E.1 + 247)), (1, .int c), (2, .int (nI jz))] [] (hm h M N) v hz := by
  intro kz
  induction kz with
  | zero =>
    intro jz hj hno
    have hj : p = jz := by omega
    subst hj
    refine gf_iload_n 2 dX12_place_21 rfl rfl ?_
    refine gf_aload_n 0 dX12_place_22 rfl rfl ?_
    refine gf_getI flX12_427 rfl dX12_place_23 (gt_247 hG) ?_
    rw [show hp_i (hm h M N) 247 60 = nI p from hp8]
    refine gf_icmp_ge 47 dX12_place_26 rfl (fun _ => ?_) (fun q => absurd (Int32.le_refl _) q)
    exact gf_lw (K (fun q => by rw [anyb_no hno] at q; cases q)) ⟨rfl, rfl, rfl, trivial⟩
  | succ kz ih =>
    intro jz hj hno
    refine gf_iload_n 2 dX12_place_21 rfl rfl ?_
    refine gf_aload_n 0 dX12_place_22 rfl rfl ?_
    refine gf_getI flX12_427 rfl dX12_place_23 (gt_247 hG) ?_
    rw [show hp_i (hm h M N) 247 60 = nI p from hp8]
    refine gf_icmp_ge 47 dX12_place_26 rfl (fun q => absurd q (nI_ge (by omega) (by omega))) (fun _ => ?_)
    refine gf_aload_n 0 dX12_place_29 rfl rfl ?_
    refine gf_getR flX12_158 rfl dX12_place_30 (gt_247 hG) (gp_247_61 hG) ?_
    refine gf_iload_n 2 dX12_place_33 rfl rfl ?_
    refine gf_iald 8 dX12_place_34 (gt_293 hG) (gl_293 hG) rfl (by omega) (by decide) ?_
    refine gf_iload_n 1 dX12_place_35 rfl rfl ?_
    refine gf_icmp_ne 41 dX12_place_36 rfl (fun zc36 => ?_) (fun zc36 => ?_)
    · refine gf_iinc (1) dX12_place_41 rfl rfl (Nat.le_of_ble_eq_true rfl) ?_
      refine gf_goto 21 dX12_place_44 rfl ?_
      exact gf_lw (ih (jz + 1) (by omega) (fun i hi => by rcases Nat.lt_succ_iff_lt_or_eq.mp hi with w9 | w9; exact hno i w9; rw [w9]; exact decide_eq_false zc36)) ⟨rfl, rfl, lvE (nI_1 jz), trivial⟩
    · obtain ⟨e1, e2⟩ := K2 (anyb_in (k := jz) (by omega) (decide_eq_true zc36))
      rw [e1, e2]
      refine gf_iconst (-1) dX12_place_39 rfl ?_
      exact gf_iretE dX12_place_40 rfl (rfl) (rfl)
theorem e_X12_place (E : gE) {d : Nat} (hd : 2 ≤ d) {w g p : Nat} (c : Int32) (h : hp_T) (hG : gr h) (M : mM) (N : mN) (C : mcty M w g) (hp8 : M 0 60 = nI p) (hp : p ≤ 8) : ev E mX12_place d [.ref (E.1 + 247), .int c] (hm h M N) (some (.int (if mplC M w g p c then nI (p + 1) else -1))) (if mplC M w g p c then hm h (mplM M p c) N else (hm h M N)) := by
  refine ev_of rfl (fun q => absurd q (by decide)) (Nat.le_of_ble_eq_true rfl) ?_
  have hn : w * g ≤ 120 := Nat.le_trans (Nat.mul_le_mul C.1.2.1 C.1.2.2.2) (by decide)
  by_cases hP : mplC M w g p c
  · rw [if_pos hP, if_pos hP]
    refine gf_aload_n 0 dX12_place_0 rfl rfl ?_
    refine gf_iload_n 1 dX12_place_1 rfl rfl ?_
    refine gf_callV cmX12_isCell lkX12_412 imX12_isCell seX12_isCell ⟨rfl, by decide⟩ dX12_place_2 (d1 := d - 1) (by omega) (gt_247 hG) (e_X12_isCell E (by omega) c (hm h M N) hG (w := w) (g := g) (show mty (hp_i (hm h M N)) w g from C)) rfl rfl (Nat.le_of_ble_eq_true rfl) ?_
    refine gf_if_eq 17 dX12_place_5 rfl (fun q => absurd q (fun q => zb_0.mp q hP.1)) (fun _ => ?_)
    refine gf_aload_n 0 dX12_place_8 rfl rfl ?_
    refine gf_getI flX12_427 rfl dX12_place_9 (gt_247 hG) ?_
    rw [show hp_i (hm h M N) 247 60 = nI p from hp8]
    refine gf_bipush (8) dX12_place_12 rfl ?_
    refine gf_icmp_ne 19 dX12_place_14 rfl (fun _ => ?_) (fun q => absurd q (fun q => absurd ((nI_eq (b := 8) (by omega) (by omega)).mp q) (by have := hP.2.2; omega)))
    refine gf_iconst (0) dX12_place_19 rfl ?_
    refine gf_istore_n 2 dX12_place_20 rfl (Nat.le_of_ble_eq_true rfl) ?_
    refine gf_lw (l_pla E c h hG M N C hp8 hp hP.2.2 ?_ ?_ p 0 (by omega) (fun i hi => absurd hi (Nat.not_lt_zero i))) ⟨rfl, rfl, rfl, trivial⟩
    · intro _
      refine gf_aload_n 0 dX12_place_47 rfl rfl ?_
      refine gf_getR flX12_158 rfl dX12_place_48 (gt_247 hG) (gp_247_61 hG) ?_
      refine gf_aload_n 0 dX12_place_51 rfl rfl ?_
      refine gf_getI flX12_427 rfl dX12_place_52 (gt_247 hG) ?_
      rw [show hp_i (hm h M N) 247 60 = nI p from hp8]
      refine gf_iload_n 1 dX12_place_55 rfl rfl ?_
      refine gf_iast 8 dX12_place_56 (gt_293 hG) (gl_293 hG) rfl (by omega) (by decide) ?_
      rw [mI_46]
      refine gf_aload_n 0 dX12_place_57 rfl rfl ?_
      refine gf_dup dX12_place_58 rfl ?_
      refine gf_getI flX12_427 rfl dX12_place_59 (gt_247 hG) ?_
      rw [show hp_i (hm h (up2 M 46 p c) N) 247 60 = nI p from hp8]
      refine gf_iconst (1) dX12_place_62 rfl ?_
      refine gf_iadd dX12_place_63 ?_
      rw [nI_1]
      refine gf_putI flX12_427 rfl rfl dX12_place_64 (gt_247 hG) ⟨rfl, rfl⟩ ?_
      rw [mI_0]
      refine gf_aload_n 0 dX12_place_67 rfl rfl ?_
      refine gf_getI flX12_427 rfl dX12_place_68 (gt_247 hG) ?_
      rw [show hp_i (hm h (up2 (up2 M 46 p c) 0 60 (nI (p + 1))) N) 247 60 = nI (p + 1) from up2_s (up2 M 46 p c) 0 60 (nI (p + 1))]
      exact gf_iretE dX12_place_71 rfl (rfl) (rfl)
    · intro q
      exact absurd q hP.2.1
  · rw [if_neg hP, if_neg hP]
    refine gf_aload_n 0 dX12_place_0 rfl rfl ?_
    refine gf_iload_n 1 dX12_place_1 rfl rfl ?_
    refine gf_callV cmX12_isCell lkX12_412 imX12_isCell seX12_isCell ⟨rfl, by decide⟩ dX12_place_2 (d1 := d - 1) (by omega) (gt_247 hG) (e_X12_isCell E (by omega) c (hm h M N) hG (w := w) (g := g) (show mty (hp_i (hm h M N)) w g from C)) rfl rfl (Nat.le_of_ble_eq_true rfl) ?_
    refine gf_if_eq 17 dX12_place_5 rfl (fun zc5 => ?_) (fun zc5 => ?_)
    · refine gf_iconst (-1) dX12_place_17 rfl ?_
      exact gf_iretE dX12_place_18 rfl (rfl) (rfl)
    · refine gf_aload_n 0 dX12_place_8 rfl rfl ?_
      refine gf_getI flX12_427 rfl dX12_place_9 (gt_247 hG) ?_
      rw [show hp_i (hm h M N) 247 60 = nI p from hp8]
      refine gf_bipush (8) dX12_place_12 rfl ?_
      refine gf_icmp_ne 19 dX12_place_14 rfl (fun zc14 => ?_) (fun zc14 => ?_)
      · refine gf_iconst (0) dX12_place_19 rfl ?_
        refine gf_istore_n 2 dX12_place_20 rfl (Nat.le_of_ble_eq_true rfl) ?_
        have hp7 : p < 8 := by rcases Nat.lt_or_ge p 8 with w9 | w9; exact w9; exact absurd (by rw [show p = 8 by omega]; rfl) zc14
        refine gf_lw (l_pla E c h hG M N C hp8 hp hp7 ?_ (fun _ => ⟨rfl, rfl⟩) p 0 (by omega) (fun i hi => absurd hi (Nat.not_lt_zero i))) ⟨rfl, rfl, rfl, trivial⟩
        exact fun q => absurd ⟨zb_1.mp zc5, q, hp7⟩ hP
      · refine gf_iconst (-1) dX12_place_17 rfl ?_
        exact gf_iretE dX12_place_18 rfl (rfl) (rfl)
def alhB (M : mM) (z : Int32) (jz : Nat) : Int32 := (if (M 34 jz) = 0 then z else (z + 1))
theorem alh_cnt (M : mM) : ∀ n, itN (alhB M) 0 n = nI (fa_cnt (mk (M 34)) n)
  | 0 => rfl
  | n + 1 => by
    rw [itN_s, alh_cnt M n]
    unfold alhB
    split
    · rename_i q
      rw [fa_cnt_no (show mk (M 34) n = false from decide_eq_false (not_not_intro q))]
    · rename_i q
      rw [fa_cnt_yes (show mk (M 34) n = true from decide_eq_true q)]
      exact nI_1 _
theorem l_alh (E : gE) {d : Nat} (hd : 1 ≤ d) {w g : Nat} (t : Int32) (h : hp_T) (hG : gr h) (M : mM) (N : mN) (C : mcty M w g) {v : Option Value} {hz : hp_T} (K : gf E mX12_all d 77 [(0, .ref (E.1 + 247)), (1, .int t), (2, .int (itN (alhB M) 0 (w * g)))] [] (hm h M N) v hz) : ∀ (kz jz : Nat), jz + kz = (w * g) → gf E mX12_all d 51 [(0, .ref (E.1 + 247)), (1, .int t), (2, .int (itN (alhB M) 0 jz)), (3, .int (nI jz))] [] (hm h M N) v hz := by
  have hn : w * g ≤ 120 := Nat.le_trans (Nat.mul_le_mul C.1.2.1 C.1.2.2.2) (by decide)
  intro kz
  induction kz with
  | zero =>
    intro jz hj
    have hj : (w * g) = jz := by omega
    subst hj
    generalize ez : (itN (alhB M) 0 (w * g)) = z at K ⊢
    refine gf_iload_n 3 dX12_all_51 rfl rfl ?_
    refine gf_aload_n 0 dX12_all_52 rfl rfl ?_
    refine gf_callV cmX12_cells lkX12_409 imX12_cells seX12_cells ⟨rfl, by decide⟩ dX12_all_53 (d1 := d - 1) (by omega) (gt_247 hG) (e_X12_cells E (by omega) (hm h M N) hG) rfl rfl (Nat.le_of_ble_eq_true rfl) ?_
    rw [show hp_i (hm h M N) 247 42 * hp_i (hm h M N) 247 43 = nI (w * g) from cel_e (M := M) C]
    refine gf_icmp_ge 77 dX12_all_56 rfl (fun _ => ?_) (fun q => absurd (nI_le (by omega) (by omega)) q)
    exact gf_lw K ⟨rfl, rfl, rfl, trivial⟩
  | succ kz ih =>
    intro jz hj
    have ih1 := ih (jz + 1) (by omega)
    rw [show (itN (alhB M) 0 (jz + 1)) = alhB M (itN (alhB M) 0 jz) jz from itN_s _ _ _] at ih1
    generalize (itN (alhB M) 0 jz) = z at ih1 ⊢
    refine gf_iload_n 3 dX12_all_51 rfl rfl ?_
    refine gf_aload_n 0 dX12_all_52 rfl rfl ?_
    refine gf_callV cmX12_cells lkX12_409 imX12_cells seX12_cells ⟨rfl, by decide⟩ dX12_all_53 (d1 := d - 1) (by omega) (gt_247 hG) (e_X12_cells E (by omega) (hm h M N) hG) rfl rfl (Nat.le_of_ble_eq_true rfl) ?_
    rw [show hp_i (hm h M N) 247 42 * hp_i (hm h M N) 247 43 = nI (w * g) from cel_e (M := M) C]
    refine gf_icmp_ge 77 dX12_all_56 rfl (fun q => absurd q (nI_ge (by omega) (by omega))) (fun _ => ?_)
    refine gf_aload_n 0 dX12_all_59 rfl rfl ?_
    refine gf_getR flX12_121 rfl dX12_all_60 (gt_247 hG) (gp_247_47 hG) ?_
    refine gf_iload_n 3 dX12_all_63 rfl rfl ?_
    refine gf_zald 120 dX12_all_64 (gt_281 hG) (gl_281 hG) rfl (by omega) (by decide) ?_
    refine gf_if_eq 71 dX12_all_65 rfl (fun zc65 => ?_) (fun zc65 => ?_)
    · refine gf_iinc (1) dX12_all_71 rfl rfl (Nat.le_of_ble_eq_true rfl) ?_
      refine gf_goto 51 dX12_all_74 rfl ?_
      rw [show alhB M z jz = z from if_pos zc65] at ih1
      exact gf_lw ih1 ⟨rfl, rfl, rfl, lvE (nI_1 jz), trivial⟩
    · refine gf_iinc (1) dX12_all_68 rfl rfl (Nat.le_of_ble_eq_true rfl) ?_
      refine gf_iinc (1) dX12_all_71 rfl rfl (Nat.le_of_ble_eq_true rfl) ?_
      refine gf_goto 51 dX12_all_74 rfl ?_
      rw [show alhB M z jz = (z + 1) from if_neg zc65] at ih1
      exact gf_lw ih1 ⟨rfl, rfl, rfl, lvE (nI_1 jz), trivial⟩
def alpB (M : mM) (z : Int32) (jz : Nat) : Int32 := (if (M 35 jz) = 0 then z else (z + 1))
theorem alp_cnt (M : mM) : ∀ n, itN (alpB M) 0 n = nI (fa_cnt (mk (M 35)) n)
  | 0 => rfl
  | n + 1 => by
    rw [itN_s, alp_cnt M n]
    unfold alpB
    split
    · rename_i q
      rw [fa_cnt_no (show mk (M 35) n = false from decide_eq_false (not_not_intro q))]
    · rename_i q
      rw [fa_cnt_yes (show mk (M 35) n = true from decide_eq_true q)]
      exact nI_1 _
theorem l_alp (E : gE) {d : Nat} (hd : 1 ≤ d) {w g : Nat} (t : Int32) (h : hp_T) (hG : gr h) (M : mM) (N : mN) (C : mcty M w g) {v : Option Value} {hz : hp_T} (K : gf E mX12_all d 127 [(0, .ref (E.1 + 247)), (1, .int t), (2, .int (itN (alpB M) 0 (w * g)))] [] (hm h M N) v hz) : ∀ (kz jz : Nat), jz + kz = (w * g) → gf E mX12_all d 101 [(0, .ref (E.1 + 247)), (1, .int t), (2, .int (itN (alpB M) 0 jz)), (3, .int (nI jz))] [] (hm h M N) v hz := by
  have hn : w * g ≤ 120 := Nat.le_trans (Nat.mul_le_mul C.1.2.1 C.1.2.2.2) (by decide)
  intro kz
  induction kz with
  | zero =>
    intro jz hj
    have hj : (w * g) = jz := by omega
    subst hj
    generalize ez : (itN (alpB M) 0 (w * g)) = z at K ⊢
    refine gf_iload_n 3 dX12_all_101 rfl rfl ?_
    refine gf_aload_n 0 dX12_all_102 rfl rfl ?_
    refine gf_callV cmX12_cells lkX12_409 imX12_cells seX12_cells ⟨rfl, by decide⟩ dX12_all_103 (d1 := d - 1) (by omega) (gt_247 hG) (e_X12_cells E (by omega) (hm h M N) hG) rfl rfl (Nat.le_of_ble_eq_true rfl) ?_
    rw [show hp_i (hm h M N) 247 42 * hp_i (hm h M N) 247 43 = nI (w * g) from cel_e (M := M) C]
    refine gf_icmp_ge 127 dX12_all_106 rfl (fun _ => ?_) (fun q => absurd (nI_le (by omega) (by omega)) q)
    exact gf_lw K ⟨rfl, rfl, rfl, trivial⟩
  | succ kz ih =>
    intro jz hj
    have ih1 := ih (jz + 1) (by omega)
    rw [show (itN (alpB M) 0 (jz + 1)) = alpB M (itN (alpB M) 0 jz) jz from itN_s _ _ _] at ih1
    generalize (itN (alpB M) 0 jz) = z at ih1 ⊢
    refine gf_iload_n 3 dX12_all_101 rfl rfl ?_
    refine gf_aload_n 0 dX12_all_102 rfl rfl ?_
    refine gf_callV cmX12_cells lkX12_409 imX12_cells seX12_cells ⟨rfl, by decide⟩ dX12_all_103 (d1 := d - 1) (by omega) (gt_247 hG) (e_X12_cells E (by omega) (hm h M N) hG) rfl rfl (Nat.le_of_ble_eq_true rfl) ?_
    rw [show hp_i (hm h M N) 247 42 * hp_i (hm h M N) 247 43 = nI (w * g) from cel_e (M := M) C]
    refine gf_icmp_ge 127 dX12_all_106 rfl (fun q => absurd q (nI_ge (by omega) (by omega))) (fun _ => ?_)
    refine gf_aload_n 0 dX12_all_109 rfl rfl ?_
    refine gf_getR flX12_125 rfl dX12_all_110 (gt_247 hG) (gp_247_48 hG) ?_
    refine gf_iload_n 3 dX12_all_113 rfl rfl ?_
    refine gf_zald 120 dX12_all_114 (gt_282 hG) (gl_282 hG) rfl (by omega) (by decide) ?_
    refine gf_if_eq 121 dX12_all_115 rfl (fun zc115 => ?_) (fun zc115 => ?_)
    · refine gf_iinc (1) dX12_all_121 rfl rfl (Nat.le_of_ble_eq_true rfl) ?_
      refine gf_goto 101 dX12_all_124 rfl ?_
      rw [show alpB M z jz = z from if_pos zc115] at ih1
      exact gf_lw ih1 ⟨rfl, rfl, rfl, lvE (nI_1 jz), trivial⟩
    · refine gf_iinc (1) dX12_all_118 rfl rfl (Nat.le_of_ble_eq_true rfl) ?_
      refine gf_iinc (1) dX12_all_121 rfl rfl (Nat.le_of_ble_eq_true rfl) ?_
      refine gf_goto 101 dX12_all_124 rfl ?_
      rw [show alpB M z jz = (z + 1) from if_neg zc115] at ih1
      exact gf_lw ih1 ⟨rfl, rfl, rfl, lvE (nI_1 jz), trivial⟩
def malV (w g : Nat) (t : Int32) (M : mM) : Int32 := (if t = 0 then (nI (w * g)) else (if t = 1 then (nI (fa_cnt (mk (M 34)) (w * g))) else (if t = 2 then (M 0 54) else (if t = 3 then (M 0 62) else (if t = 4 then (if M 0 68 = -1 then M 0 62 else M 0 68) else (if t = 5 then (M 0 60) else (if t = 6 then (nI (fa_cnt (mk (M 35)) (w * g))) else (-1))))))))
theorem e_X12_all (E : gE) {d : Nat} (hd : 2 ≤ d) {w g : Nat} (t : Int32) (h : hp_T) (hG : gr h) (M : mM) (N : mN) (C : mcty M w g) : ev E mX12_all d [.ref (E.1 + 247), .int t] (hm h M N) (some (.int (malV w g t M))) (hm h M N) := by
  refine ev_of rfl (fun q => absurd q (by decide)) (Nat.le_of_ble_eq_true rfl) ?_
  have hn : w * g ≤ 120 := Nat.le_trans (Nat.mul_le_mul C.1.2.1 C.1.2.2.2) (by decide)
  refine gf_iconst (0) dX12_all_0 rfl ?_
  refine gf_istore_n 2 dX12_all_1 rfl (Nat.le_of_ble_eq_true rfl) ?_
  refine gf_iload_n 1 dX12_all_2 rfl rfl ?_
  by_cases zs3_0 : t = 0
  · refine gf_tableIn 44 dX12_all_3 (by rw [zs3_0]; decide) (by rw [zs3_0]; decide) (by rw [zs3_0]; rfl) rfl ?_
    refine gf_aload_n 0 dX12_all_44 rfl rfl ?_
    refine gf_callV cmX12_cells lkX12_409 imX12_cells seX12_cells ⟨rfl, by decide⟩ dX12_all_45 (d1 := d - 1) (by omega) (gt_247 hG) (e_X12_cells E (by omega) (hm h M N) hG) rfl rfl (Nat.le_of_ble_eq_true rfl) ?_
    rw [show hp_i (hm h M N) 247 42 * hp_i (hm h M N) 247 43 = nI (w * g) from cel_e (M := M) C]
    exact gf_iretE dX12_all_48 rfl (by rw [show malV w g t M = (nI (w * g)) from if_pos zs3_0]; first | done | rfl) (rfl)
  by_cases zs3_1 : t = 1
  · refine gf_tableIn 49 dX12_all_3 (by rw [zs3_1]; decide) (by rw [zs3_1]; decide) (by rw [zs3_1]; rfl) rfl ?_
    refine gf_iconst (0) dX12_all_49 rfl ?_
    refine gf_istore_n 3 dX12_all_50 rfl (Nat.le_of_ble_eq_true rfl) ?_
    refine gf_lw (l_alh E (by omega) (w := w) (g := g) t h hG M N C ?_ (w * g) 0 (by omega)) ⟨rfl, rfl, rfl, rfl, trivial⟩
    rw [alh_cnt]
    refine gf_iload_n 2 dX12_all_77 rfl rfl ?_
    exact gf_iretE dX12_all_78 rfl (by rw [show malV w g t M = (nI (fa_cnt (mk (M 34)) (w * g))) from (if_neg zs3_0).trans (if_pos zs3_1)]; first | done | rfl) (rfl)
  by_cases zs3_2 : t = 2
  · refine gf_tableIn 79 dX12_all_3 (by rw [zs3_2]; decide) (by rw [zs3_2]; decide) (by rw [zs3_2]; rfl) rfl ?_
    refine gf_aload_n 0 dX12_all_79 rfl rfl ?_
    refine gf_getI flX12_421 rfl dX12_all_80 (gt_247 hG) ?_
    exact gf_iretE dX12_all_83 rfl (by rw [show malV w g t M = (M 0 54) from (if_neg zs3_0).trans ((if_neg zs3_1).trans (if_pos zs3_2))]; first | done | rfl) (rfl)
  by_cases zs3_3 : t = 3
  · refine gf_tableIn 84 dX12_all_3 (by rw [zs3_3]; decide) (by rw [zs3_3]; decide) (by rw [zs3_3]; rfl) rfl ?_
    refine gf_aload_n 0 dX12_all_84 rfl rfl ?_
    refine gf_getI flX12_424 rfl dX12_all_85 (gt_247 hG) ?_
    exact gf_iretE dX12_all_88 rfl (by rw [show malV w g t M = (M 0 62) from (if_neg zs3_0).trans ((if_neg zs3_1).trans ((if_neg zs3_2).trans (if_pos zs3_3)))]; first | done | rfl) (rfl)
  by_cases zs3_4 : t = 4
  · refine gf_tableIn 89 dX12_all_3 (by rw [zs3_4]; decide) (by rw [zs3_4]; decide) (by rw [zs3_4]; rfl) rfl ?_
    refine gf_aload_n 0 dX12_all_89 rfl rfl ?_
    refine gf_callV cmX12_now lkX12_489 imX12_now seX12_now ⟨rfl, by decide⟩ dX12_all_90 (d1 := d - 1) (by omega) (gt_247 hG) (e_X12_now E (by omega) (hm h M N) hG) rfl rfl (Nat.le_of_ble_eq_true rfl) ?_
    exact gf_iretE dX12_all_93 rfl (by rw [show malV w g t M = (if M 0 68 = -1 then M 0 62 else M 0 68) from (if_neg zs3_0).trans ((if_neg zs3_1).trans ((if_neg zs3_2).trans ((if_neg zs3_3).trans (if_pos zs3_4))))]; first | done | rfl) (rfl)
  by_cases zs3_5 : t = 5
  · refine gf_tableIn 94 dX12_all_3 (by rw [zs3_5]; decide) (by rw [zs3_5]; decide) (by rw [zs3_5]; rfl) rfl ?_
    refine gf_aload_n 0 dX12_all_94 rfl rfl ?_
    refine gf_getI flX12_427 rfl dX12_all_95 (gt_247 hG) ?_
    exact gf_iretE dX12_all_98 rfl (by rw [show malV w g t M = (M 0 60) from (if_neg zs3_0).trans ((if_neg zs3_1).trans ((if_neg zs3_2).trans ((if_neg zs3_3).trans ((if_neg zs3_4).trans (if_pos zs3_5)))))]; first | done | rfl) (rfl)
  by_cases zs3_6 : t = 6
  · refine gf_tableIn 99 dX12_all_3 (by rw [zs3_6]; decide) (by rw [zs3_6]; decide) (by rw [zs3_6]; rfl) rfl ?_
    refine gf_iconst (0) dX12_all_99 rfl ?_
    refine gf_istore_n 3 dX12_all_100 rfl (Nat.le_of_ble_eq_true rfl) ?_
    refine gf_lw (l_alp E (by omega) (w := w) (g := g) t h hG M N C ?_ (w * g) 0 (by omega)) ⟨rfl, rfl, rfl, rfl, trivial⟩
    rw [alp_cnt]
    refine gf_iload_n 2 dX12_all_127 rfl rfl ?_
    exact gf_iretE dX12_all_128 rfl (by rw [show malV w g t M = (nI (fa_cnt (mk (M 35)) (w * g))) from (if_neg zs3_0).trans ((if_neg zs3_1).trans ((if_neg zs3_2).trans ((if_neg zs3_3).trans ((if_neg zs3_4).trans ((if_neg zs3_5).trans (if_pos zs3_6))))))]; first | done | rfl) (rfl)
  refine gf_tableOut 129 dX12_all_3 (by have y0 : ¬ (t).toInt = 0 := fun z => zs3_0 ((fa_eq _ _).mpr z); have y1 : ¬ (t).toInt = 1 := fun z => zs3_1 ((fa_eq _ _).mpr z); have y2 : ¬ (t).toInt = 2 := fun z => zs3_2 ((fa_eq _ _).mpr z); have y3 : ¬ (t).toInt = 3 := fun z => zs3_3 ((fa_eq _ _).mpr z); have y4 : ¬ (t).toInt = 4 := fun z => zs3_4 ((fa_eq _ _).mpr z); have y5 : ¬ (t).toInt = 5 := fun z => zs3_5 ((fa_eq _ _).mpr z); have y6 : ¬ (t).toInt = 6 := fun z => zs3_6 ((fa_eq _ _).mpr z); omega) rfl ?_
  refine gf_iconst (-1) dX12_all_129 rfl ?_
  exact gf_iretE dX12_all_130 rfl (by rw [show malV w g t M = (-1) from (if_neg zs3_0).trans ((if_neg zs3_1).trans ((if_neg zs3_2).trans ((if_neg zs3_3).trans ((if_neg zs3_4).trans ((if_neg zs3_5).trans (if_neg zs3_6))))))]; first | done | rfl) (rfl)
def cihB (z : mM) (jz : Nat) : mM := (up2 (up2 z 34 jz 0) 35 jz 0)
theorem l_cih (E : gE) {d : Nat} (a b : Int32) (h : hp_T) (hG : gr h) (M : mM) (N : mN) {v : Option Value} {hz : hp_T} (K : gf E mX12_city d 64 [(0, .ref (E.1 + 247)), (1, .int a), (2, .int b)] [] (hm h (itN (cihB) M (120 : Nat)) N) v hz) : ∀ (kz jz : Nat), jz + kz = (120 : Nat) → gf E mX12_city d 38 [(0, .ref (E.1 + 247)), (1, .int a), (2, .int b), (3, .int (nI jz))] [] (hm h (itN (cihB) M jz) N) v hz := by
  intro kz
  induction kz with
  | zero =>
    intro jz hj
    have hj : (120 : Nat) = jz := by omega
    subst hj
    generalize ez : (itN (cihB) M (120 : Nat)) = z at K ⊢
    refine gf_iload_n 3 dX12_city_38 rfl rfl ?_
    refine gf_bipush (120) dX12_city_39 rfl ?_
    refine gf_icmp_ge 64 dX12_city_41 rfl (fun _ => ?_) (fun q => absurd (Int32.le_refl _) q)
    exact gf_lw K ⟨rfl, rfl, rfl, trivial⟩
  | succ kz ih =>
    intro jz hj
    have ih1 := ih (jz + 1) (by omega)
    rw [show (itN (cihB) M (jz + 1)) = cihB (itN (cihB) M jz) jz from itN_s _ _ _] at ih1
    generalize (itN (cihB) M jz) = z at ih1 ⊢
    refine gf_iload_n 3 dX12_city_38 rfl rfl ?_
    refine gf_bipush (120) dX12_city_39 rfl ?_
    refine gf_icmp_ge 64 dX12_city_41 rfl (fun q => absurd q (nI_ge (b := 120) (by omega) (by omega))) (fun _ => ?_)
    refine gf_aload_n 0 dX12_city_44 rfl rfl ?_
    refine gf_getR flX12_121 rfl dX12_city_45 (gt_247 hG) (gp_247_47 hG) ?_
    refine gf_iload_n 3 dX12_city_48 rfl rfl ?_
    refine gf_iconst (0) dX12_city_49 rfl ?_
    refine gf_zast 120 dX12_city_50 (gt_281 hG) (gl_281 hG) rfl (by omega) (by decide) rfl ?_
    rw [mI_34]
    refine gf_aload_n 0 dX12_city_51 rfl rfl ?_
    refine gf_getR flX12_125 rfl dX12_city_52 (gt_247 hG) (gp_247_48 hG) ?_
    refine gf_iload_n 3 dX12_city_55 rfl rfl ?_
    refine gf_iconst (0) dX12_city_56 rfl ?_
    refine gf_zast 120 dX12_city_57 (gt_282 hG) (gl_282 hG) rfl (by omega) (by decide) rfl ?_
    rw [mI_35]
    refine gf_iinc (1) dX12_city_58 rfl rfl (Nat.le_of_ble_eq_true rfl) ?_
    refine gf_goto 38 dX12_city_61 rfl ?_
    rw [show cihB z jz = (up2 (up2 z 34 jz 0) 35 jz 0) from rfl] at ih1
    exact gf_lw ih1 ⟨rfl, rfl, rfl, lvE (nI_1 jz), trivial⟩
def ciwB (z : mM) (jz : Nat) : mM := (up2 z 39 jz 0)
theorem l_ciw (E : gE) {d : Nat} (a b : Int32) (h : hp_T) (hG : gr h) (M : mM) (N : mN) {v : Option Value} {hz : hp_T} (K : gf E mX12_city d 85 [(0, .ref (E.1 + 247)), (1, .int a), (2, .int b)] [] (hm h (itN (ciwB) M (121 : Nat)) N) v hz) : ∀ (kz jz : Nat), jz + kz = (121 : Nat) → gf E mX12_city d 66 [(0, .ref (E.1 + 247)), (1, .int a), (2, .int b), (3, .int (nI jz))] [] (hm h (itN (ciwB) M jz) N) v hz := by
  intro kz
  induction kz with
  | zero =>
    intro jz hj
    have hj : (121 : Nat) = jz := by omega
    subst hj
    generalize ez : (itN (ciwB) M (121 : Nat)) = z at K ⊢
    refine gf_iload_n 3 dX12_city_66 rfl rfl ?_
    refine gf_bipush (120) dX12_city_67 rfl ?_
    refine gf_icmp_gt 85 dX12_city_69 rfl (fun _ => ?_) (fun q => absurd (nI_lt (a := 120) (by omega) (by omega)) q)
    exact gf_lw K ⟨rfl, rfl, rfl, trivial⟩
  | succ kz ih =>
    intro jz hj
    have ih1 := ih (jz + 1) (by omega)
    rw [show (itN (ciwB) M (jz + 1)) = ciwB (itN (ciwB) M jz) jz from itN_s _ _ _] at ih1
    generalize (itN (ciwB) M jz) = z at ih1 ⊢
    refine gf_iload_n 3 dX12_city_66 rfl rfl ?_
    refine gf_bipush (120) dX12_city_67 rfl ?_
    refine gf_icmp_gt 85 dX12_city_69 rfl (fun q => absurd q (nI_nlt (a := 120) (by omega) (by omega))) (fun _ => ?_)
    refine gf_aload_n 0 dX12_city_72 rfl rfl ?_
    refine gf_getR flX12_137 rfl dX12_city_73 (gt_247 hG) (gp_247_52 hG) ?_
    refine gf_iload_n 3 dX12_city_76 rfl rfl ?_
    refine gf_iconst (0) dX12_city_77 rfl ?_
    refine gf_zast 121 dX12_city_78 (gt_286 hG) (gl_286 hG) rfl (by omega) (by decide) rfl ?_
    rw [mI_39]
    refine gf_iinc (1) dX12_city_79 rfl rfl (Nat.le_of_ble_eq_true rfl) ?_
    refine gf_goto 66 dX12_city_82 rfl ?_
    rw [show ciwB z jz = (up2 z 39 jz 0) from rfl] at ih1
    exact gf_lw ih1 ⟨rfl, rfl, rfl, lvE (nI_1 jz), trivial⟩
def cidB (z : mM) (jz : Nat) : mM := (up2 z 45 jz 0)
theorem l_cid (E : gE) {d : Nat} (a b : Int32) (h : hp_T) (hG : gr h) (M : mM) (N : mN) {v : Option Value} {hz : hp_T} (K : gf E mX12_city d 106 [(0, .ref (E.1 + 247)), (1, .int a), (2, .int b)] [] (hm h (itN (cidB) M (81 : Nat)) N) v hz) : ∀ (kz jz : Nat), jz + kz = (81 : Nat) → gf E mX12_city d 87 [(0, .ref (E.1 + 247)), (1, .int a), (2, .int b), (3, .int (nI jz))] [] (hm h (itN (cidB) M jz) N) v hz := by
  intro kz
  induction kz with
  | zero =>
    intro jz hj
    have hj : (81 : Nat) = jz := by omega
    subst hj
    generalize ez : (itN (cidB) M (81 : Nat)) = z at K ⊢
    refine gf_iload_n 3 dX12_city_87 rfl rfl ?_
    refine gf_bipush (81) dX12_city_88 rfl ?_
    refine gf_icmp_ge 106 dX12_city_90 rfl (fun _ => ?_) (fun q => absurd (Int32.le_refl _) q)
    exact gf_lw K ⟨rfl, rfl, rfl, trivial⟩
  | succ kz ih =>
    intro jz hj
    have ih1 := ih (jz + 1) (by omega)
    rw [show (itN (cidB) M (jz + 1)) = cidB (itN (cidB) M jz) jz from itN_s _ _ _] at ih1
    generalize (itN (cidB) M jz) = z at ih1 ⊢
    refine gf_iload_n 3 dX12_city_87 rfl rfl ?_
    refine gf_bipush (81) dX12_city_88 rfl ?_
    refine gf_icmp_ge 106 dX12_city_90 rfl (fun q => absurd q (nI_ge (b := 81) (by omega) (by omega))) (fun _ => ?_)
    refine gf_aload_n 0 dX12_city_93 rfl rfl ?_
    refine gf_getR flX12_155 rfl dX12_city_94 (gt_247 hG) (gp_247_59 hG) ?_
    refine gf_iload_n 3 dX12_city_97 rfl rfl ?_
    refine gf_iconst (0) dX12_city_98 rfl ?_
    refine gf_iast 81 dX12_city_99 (gt_292 hG) (gl_292 hG) rfl (by omega) (by decide) ?_
    rw [mI_45]
    refine gf_iinc (1) dX12_city_100 rfl rfl (Nat.le_of_ble_eq_true rfl) ?_
    refine gf_goto 87 dX12_city_103 rfl ?_
    rw [show cidB z jz = (up2 z 45 jz 0) from rfl] at ih1
    exact gf_lw ih1 ⟨rfl, rfl, rfl, lvE (nI_1 jz), trivial⟩
def mciM (a b : Int32) (M : mM) : mM := up2 (up2 (up2 (up2 (up2 (up2 (itN cidB (itN ciwB (itN cihB (up2 (up2 M 0 42 a) 0 43 b) 120) 121) 81) 0 54 0) 0 62 0) 0 68 (-1)) 0 60 0) 0 90 0) 0 112 0
abbrev mciC (a b : Int32) : Prop := (1 ≤ a ∧ a ≤ 12) ∧ (1 ≤ b ∧ b ≤ 10)
theorem e_X12_city (E : gE) {d : Nat} (hd : 1 ≤ d) (a b : Int32) (h : hp_T) (hG : gr h) (M : mM) (N : mN) : ev E mX12_city d [.ref (E.1 + 247), .int a, .int b] (hm h M N) (some (.int (if mciC a b then 1 else 0))) (if mciC a b then hm h (mciM a b M) N else (hm h M N)) := by
  refine ev_of rfl (fun q => absurd q (by decide)) (Nat.le_of_ble_eq_true rfl) ?_
  by_cases hP : mciC a b
  · rw [if_pos hP, if_pos hP]
    refine gf_iload_n 1 dX12_city_0 rfl rfl ?_
    refine gf_i2l dX12_city_1 ?_
    refine gf_lconst (1) dX12_city_2 rfl ?_
    refine gf_ldc2 (12) kcX12_417 dX12_city_3 ?_
    refine gf_callS cmX12_isIn lkX12_325 stX12_isIn dX12_city_6 (d1 := d - 1) (by omega) (e_X12_isIn E (by omega) a.toInt64 1 12 _) rfl rfl (Nat.le_of_ble_eq_true rfl) ?_
    refine gf_if_eq 24 dX12_city_9 rfl (fun q => absurd q (fun q => zb_0.mp q ((isIn_l z64_1 z64_12).mpr hP.1))) (fun _ => ?_)
    refine gf_iload_n 2 dX12_city_12 rfl rfl ?_
    refine gf_i2l dX12_city_13 ?_
    refine gf_lconst (1) dX12_city_14 rfl ?_
    refine gf_ldc2 (10) kcX12_419 dX12_city_15 ?_
    refine gf_callS cmX12_isIn lkX12_325 stX12_isIn dX12_city_18 (d1 := d - 1) (by omega) (e_X12_isIn E (by omega) b.toInt64 1 10 _) rfl rfl (Nat.le_of_ble_eq_true rfl) ?_
    refine gf_if_ne 26 dX12_city_21 rfl (fun _ => ?_) (fun q => absurd q (fun q => zb_0.mp q ((isIn_l z64_1 z64_10).mpr hP.2)))
    refine gf_aload_n 0 dX12_city_26 rfl rfl ?_
    refine gf_iload_n 1 dX12_city_27 rfl rfl ?_
    refine gf_putI flX12_106 rfl rfl dX12_city_28 (gt_247 hG) ⟨rfl, rfl⟩ ?_
    rw [mI_0]
    refine gf_aload_n 0 dX12_city_31 rfl rfl ?_
    refine gf_iload_n 2 dX12_city_32 rfl rfl ?_
    refine gf_putI flX12_109 rfl rfl dX12_city_33 (gt_247 hG) ⟨rfl, rfl⟩ ?_
    rw [mI_0]
    refine gf_iconst (0) dX12_city_36 rfl ?_
    refine gf_istore_n 3 dX12_city_37 rfl (Nat.le_of_ble_eq_true rfl) ?_
    refine gf_lw (l_cih E a b h hG (up2 (up2 M 0 42 a) 0 43 b) N ?_ 120 0 (by omega)) ⟨rfl, rfl, rfl, rfl, trivial⟩
    refine gf_iconst (0) dX12_city_64 rfl ?_
    refine gf_istore_n 3 dX12_city_65 rfl (Nat.le_of_ble_eq_true rfl) ?_
    refine gf_lw (l_ciw E a b h hG (itN cihB (up2 (up2 M 0 42 a) 0 43 b) 120) N ?_ 121 0 (by omega)) ⟨rfl, rfl, rfl, rfl, trivial⟩
    refine gf_iconst (0) dX12_city_85 rfl ?_
    refine gf_istore_n 3 dX12_city_86 rfl (Nat.le_of_ble_eq_true rfl) ?_
    refine gf_lw (l_cid E a b h hG (itN ciwB (itN cihB (up2 (up2 M 0 42 a) 0 43 b) 120) 121) N ?_ 81 0 (by omega)) ⟨rfl, rfl, rfl, rfl, trivial⟩
    refine gf_aload_n 0 dX12_city_106 rfl rfl ?_
    refine gf_iconst (0) dX12_city_107 rfl ?_
    refine gf_putI flX12_421 rfl rfl dX12_city_108 (gt_247 hG) ⟨rfl, rfl⟩ ?_
    rw [mI_0]
    refine gf_aload_n 0 dX12_city_111 rfl rfl ?_
    refine gf_iconst (0) dX12_city_112 rfl ?_
    refine gf_putI flX12_424 rfl rfl dX12_city_113 (gt_247 hG) ⟨rfl, rfl⟩ ?_
    rw [mI_0]
    refine gf_aload_n 0 dX12_city_116 rfl rfl ?_
    refine gf_iconst (-1) dX12_city_117 rfl ?_
    refine gf_putI flX12_176 rfl rfl dX12_city_118 (gt_247 hG) ⟨rfl, rfl⟩ ?_
    rw [mI_0]
    refine gf_aload_n 0 dX12_city_121 rfl rfl ?_
    refine gf_iconst (0) dX12_city_122 rfl ?_
    refine gf_putI flX12_427 rfl rfl dX12_city_123 (gt_247 hG) ⟨rfl, rfl⟩ ?_
    rw [mI_0]
    refine gf_aload_n 0 dX12_city_126 rfl rfl ?_
    refine gf_iconst (0) dX12_city_127 rfl ?_
    refine gf_putI flX12_430 rfl rfl dX12_city_128 (gt_247 hG) ⟨rfl, rfl⟩ ?_
    rw [mI_0]
    refine gf_aload_n 0 dX12_city_131 rfl rfl ?_
    refine gf_iconst (0) dX12_city_132 rfl ?_
    refine gf_putI flX12_434 rfl rfl dX12_city_133 (gt_247 hG) ⟨rfl, rfl⟩ ?_
    rw [mI_0]
    refine gf_iconst (1) dX12_city_136 rfl ?_
    exact gf_zretE dX12_city_137 rfl (rfl) (rfl) (rfl)
  · rw [if_neg hP, if_neg hP]
    refine gf_iload_n 1 dX12_city_0 rfl rfl ?_
    refine gf_i2l dX12_city_1 ?_
    refine gf_lconst (1) dX12_city_2 rfl ?_
    refine gf_ldc2 (12) kcX12_417 dX12_city_3 ?_
    refine gf_callS cmX12_isIn lkX12_325 stX12_isIn dX12_city_6 (d1 := d - 1) (by omega) (e_X12_isIn E (by omega) a.toInt64 1 12 _) rfl rfl (Nat.le_of_ble_eq_true rfl) ?_
    refine gf_if_eq 24 dX12_city_9 rfl (fun zc9 => ?_) (fun zc9 => ?_)
    · refine gf_iconst (0) dX12_city_24 rfl ?_
      exact gf_zretE dX12_city_25 rfl (rfl) (rfl) (rfl)
    · refine gf_iload_n 2 dX12_city_12 rfl rfl ?_
      refine gf_i2l dX12_city_13 ?_
      refine gf_lconst (1) dX12_city_14 rfl ?_
      refine gf_ldc2 (10) kcX12_419 dX12_city_15 ?_
      refine gf_callS cmX12_isIn lkX12_325 stX12_isIn dX12_city_18 (d1 := d - 1) (by omega) (e_X12_isIn E (by omega) b.toInt64 1 10 _) rfl rfl (Nat.le_of_ble_eq_true rfl) ?_
      refine gf_if_ne 26 dX12_city_21 rfl (fun zc21 => ?_) (fun zc21 => ?_)
      · exact absurd ⟨(isIn_l z64_1 z64_12).mp (zb_1.mp zc9), (isIn_l z64_1 z64_10).mp (zb_1.mp zc21)⟩ hP
      · refine gf_iconst (0) dX12_city_24 rfl ?_
        exact gf_zretE dX12_city_25 rfl (rfl) (rfl) (rfl)
def feeB (L : Nat) (a b c x e : Int32) (z : mM) (jz : Nat) : mM := (if 4 ≤ (nI jz) then (if 8 ≤ (nI jz) then (if 12 ≤ (nI jz) then (if 16 ≤ (nI jz) then (up2 (up2 z 1 (L + jz) ((e >>> ((8 * (3 - ((nI jz) - (nI jz) / 4 * 4))) &&& 31)) &&& 255)) 0 1 (nI (L + jz + 1))) else (up2 (up2 z 1 (L + jz) ((x >>> ((8 * (3 - ((nI jz) - (nI jz) / 4 * 4))) &&& 31)) &&& 255)) 0 1 (nI (L + jz + 1)))) else (up2 (up2 z 1 (L + jz) ((c >>> ((8 * (3 - ((nI jz) - (nI jz) / 4 * 4))) &&& 31)) &&& 255)) 0 1 (nI (L + jz + 1)))) else (up2 (up2 z 1 (L + jz) ((b >>> ((8 * (3 - ((nI jz) - (nI jz) / 4 * 4))) &&& 31)) &&& 255)) 0 1 (nI (L + jz + 1)))) else (up2 (up2 z 1 (L + jz) ((a >>> ((8 * (3 - ((nI jz) - (nI jz) / 4 * 4))) &&& 31)) &&& 255)) 0 1 (nI (L + jz + 1))))
theorem feeB_1 {L : Nat} {a b c x e : Int32} (z : mM) (j : Nat) : feeB L a b c x e z j 0 1 = nI (L + j + 1) := by
  unfold feeB
  repeat' split
  all_goals exact up2_s (up2 z 1 (L + j) _) 0 1 _
theorem fee_I {L : Nat} {a b c x e : Int32} {M : mM} (hL : M 0 1 = nI L) : ∀ j, itN (feeB L a b c x e) M j 0 1 = nI (L + j)
  | 0 => hL
  | j + 1 => feeB_1 _ j
theorem l_fee (E : gE) {d : Nat} {L : Nat} (a b c x e : Int32) (h : hp_T) (hG : gr h) (M : mM) (N : mN) (hL : M 0 1 = nI L) (hL6 : L ≤ 580) {v : Option Value} {hz : hp_T} (K : gf E mX12_feed d 114 [(0, .ref (E.1 + 247)), (1, .int a), (2, .int b), (3, .int c), (4, .int x), (5, .int e)] [] (hm h (itN (feeB L a b c x e) M (20 : Nat)) N) v hz) : ∀ (kz jz : Nat), jz + kz = (20 : Nat) → gf E mX12_feed d 18 [(0, .ref (E.1 + 247)), (1, .int a), (2, .int b), (3, .int c), (4, .int x), (5, .int e), (6, .int (nI jz))] [] (hm h (itN (feeB L a b c x e) M jz) N) v hz := by
  intro kz
  induction kz with
  | zero =>
    intro jz hj
    have hj : (20 : Nat) = jz := by omega
    subst hj
    have Iz : (itN (feeB L a b c x e) M (20 : Nat)) 0 1 = nI (L + (20 : Nat)) := fee_I (a := a) (b := b) (c := c) (x := x) (e := e) hL (20 : Nat)
    generalize ez : (itN (feeB L a b c x e) M (20 : Nat)) = z at K Iz ⊢
    refine gf_iload dX12_feed_18 rfl ?_
    refine gf_bipush (20) dX12_feed_20 rfl ?_
    refine gf_icmp_ge 114 dX12_feed_22 rfl (fun _ => ?_) (fun q => absurd (Int32.le_refl _) q)
    exact gf_lw K ⟨rfl, rfl, rfl, rfl, rfl, rfl, trivial⟩
  | succ kz ih =>
    intro jz hj
    have ih1 := ih (jz + 1) (by omega)
    have Iz : (itN (feeB L a b c x e) M jz) 0 1 = nI (L + jz) := fee_I (a := a) (b := b) (c := c) (x := x) (e := e) hL jz
    rw [show (itN (feeB L a b c x e) M (jz + 1)) = feeB L a b c x e (itN (feeB L a b c x e) M jz) jz from itN_s _ _ _] at ih1
    generalize (itN (feeB L a b c x e) M jz) = z at ih1 Iz ⊢
    refine gf_iload dX12_feed_18 rfl ?_
    refine gf_bipush (20) dX12_feed_20 rfl ?_
    refine gf_icmp_ge 114 dX12_feed_22 rfl (fun q => absurd q (nI_ge (b := 20) (by omega) (by omega))) (fun _ => ?_)
    refine gf_iload dX12_feed_25 rfl ?_
    refine gf_iconst (4) dX12_feed_27 rfl ?_
    refine gf_icmp_ge 35 dX12_feed_28 rfl (fun zc28 => ?_) (fun zc28 => ?_)
    · refine gf_iload dX12_feed_35 rfl ?_
      refine gf_bipush (8) dX12_feed_37 rfl ?_
      refine gf_icmp_ge 46 dX12_feed_39 rfl (fun zc39 => ?_) (fun zc39 => ?_)
      · refine gf_iload dX12_feed_46 rfl ?_
        refine gf_bipush (12) dX12_feed_48 rfl ?_
        refine gf_icmp_ge 57 dX12_feed_50 rfl (fun zc50 => ?_) (fun zc50 => ?_)
        · refine gf_iload dX12_feed_57 rfl ?_
          refine gf_bipush (16) dX12_feed_59 rfl ?_
          refine gf_icmp_ge 69 dX12_feed_61 rfl (fun zc61 => ?_) (fun zc61 => ?_)
          · refine gf_iload dX12_feed_69 rfl ?_
            refine gf_istore dX12_feed_71 (Nat.le_of_ble_eq_true rfl) ?_
            refine gf_lw (lv' := [(0, .ref (E.1 + 247)), (1, .int a), (2, .int b), (3, .int c), (4, .int x), (5, .int e), (6, .int (nI jz)), (7, .int e)]) ?_ ⟨rfl, rfl, rfl, rfl, rfl, rfl, rfl, rfl, trivial⟩
            refine gf_aload_n 0 dX12_feed_73 rfl rfl ?_
            refine gf_getR flX12_7 rfl dX12_feed_74 (gt_247 hG) (gp_247_0 hG) ?_
            refine gf_aload_n 0 dX12_feed_77 rfl rfl ?_
            refine gf_getI flX12_282 rfl dX12_feed_78 (gt_247 hG) ?_
            rw [show hp_i (hm h z N) 247 1 = nI (L + jz) from Iz]
            refine gf_iload dX12_feed_81 rfl ?_
            refine gf_bipush (8) dX12_feed_83 rfl ?_
            refine gf_iconst (3) dX12_feed_85 rfl ?_
            refine gf_iload dX12_feed_86 rfl ?_
            refine gf_iconst (4) dX12_feed_88 rfl ?_
            refine gf_irem dX12_feed_89 (by decide) ?_
            refine gf_isub dX12_feed_90 ?_
            refine gf_imul dX12_feed_91 ?_
            refine gf_ishr dX12_feed_92 ?_
            refine gf_sipush (255) dX12_feed_93 rfl ?_
            refine gf_iand dX12_feed_96 ?_
            refine gf_iast 600 dX12_feed_97 (gt_248 hG) (gl_248 hG) rfl (by omega) (by decide) ?_
            rw [mI_1]
            refine gf_aload_n 0 dX12_feed_98 rfl rfl ?_
            refine gf_dup dX12_feed_99 rfl ?_
            refine gf_getI flX12_282 rfl dX12_feed_100 (gt_247 hG) ?_
            rw [show hp_i (hm h (up2 z 1 (L + jz) ((e >>> ((8 * (3 - ((nI jz) - (nI jz) / 4 * 4))) &&& 31)) &&& 255)) N) 247 1 = nI (L + jz) from Iz]
            refine gf_iconst (1) dX12_feed_103 rfl ?_
            refine gf_iadd dX12_feed_104 ?_
            rw [nI_1]
            refine gf_putI flX12_282 rfl rfl dX12_feed_105 (gt_247 hG) ⟨rfl, rfl⟩ ?_
            rw [mI_0]
            refine gf_iinc (1) dX12_feed_108 rfl rfl (Nat.le_of_ble_eq_true rfl) ?_
            refine gf_goto 18 dX12_feed_111 rfl ?_
            rw [show feeB L a b c x e z jz = (up2 (up2 z 1 (L + jz) ((e >>> ((8 * (3 - ((nI jz) - (nI jz) / 4 * 4))) &&& 31)) &&& 255)) 0 1 (nI (L + jz + 1))) from (if_pos zc28).trans ((if_pos zc39).trans ((if_pos zc50).trans (if_pos zc61)))] at ih1
            exact gf_lw ih1 ⟨rfl, rfl, rfl, rfl, rfl, rfl, lvE (nI_1 jz), trivial⟩
          · refine gf_iload dX12_feed_64 rfl ?_
            refine gf_goto 71 dX12_feed_66 rfl ?_
            refine gf_istore dX12_feed_71 (Nat.le_of_ble_eq_true rfl) ?_
            refine gf_lw (lv' := [(0, .ref (E.1 + 247)), (1, .int a), (2, .int b), (3, .int c), (4, .int x), (5, .int e), (6, .int (nI jz)), (7, .int x)]) ?_ ⟨rfl, rfl, rfl, rfl, rfl, rfl, rfl, rfl, trivial⟩
            refine gf_aload_n 0 dX12_feed_73 rfl rfl ?_
            refine gf_getR flX12_7 rfl dX12_feed_74 (gt_247 hG) (gp_247_0 hG) ?_
            refine gf_aload_n 0 dX12_feed_77 rfl rfl ?_
            refine gf_getI flX12_282 rfl dX12_feed_78 (gt_247 hG) ?_
            rw [show hp_i (hm h z N) 247 1 = nI (L + jz) from Iz]
            refine gf_iload dX12_feed_81 rfl ?_
            refine gf_bipush (8) dX12_feed_83 rfl ?_
            refine gf_iconst (3) dX12_feed_85 rfl ?_
            refine gf_iload dX12_feed_86 rfl ?_
            refine gf_iconst (4) dX12_feed_88 rfl ?_
            refine gf_irem dX12_feed_89 (by decide) ?_
            refine gf_isub dX12_feed_90 ?_
            refine gf_imul dX12_feed_91 ?_
            refine gf_ishr dX12_feed_92 ?_
            refine gf_sipush (255) dX12_feed_93 rfl ?_
            refine gf_iand dX12_feed_96 ?_
            refine gf_iast 600 dX12_feed_97 (gt_248 hG) (gl_248 hG) rfl (by omega) (by decide) ?_
            rw [mI_1]
            refine gf_aload_n 0 dX12_feed_98 rfl rfl ?_
            refine gf_dup dX12_feed_99 rfl ?_
            refine gf_getI flX12_282 rfl dX12_feed_100 (gt_247 hG) ?_
            rw [show hp_i (hm h (up2 z 1 (L + jz) ((x >>> ((8 * (3 - ((nI jz) - (nI jz) / 4 * 4))) &&& 31)) &&& 255)) N) 247 1 = nI (L + jz) from Iz]
            refine gf_iconst (1) dX12_feed_103 rfl ?_
            refine gf_iadd dX12_feed_104 ?_
            rw [nI_1]
            refine gf_putI flX12_282 rfl rfl dX12_feed_105 (gt_247 hG) ⟨rfl, rfl⟩ ?_
            rw [mI_0]
            refine gf_iinc (1) dX12_feed_108 rfl rfl (Nat.le_of_ble_eq_true rfl) ?_
            refine gf_goto 18 dX12_feed_111 rfl ?_
            rw [show feeB L a b c x e z jz = (up2 (up2 z 1 (L + jz) ((x >>> ((8 * (3 - ((nI jz) - (nI jz) / 4 * 4))) &&& 31)) &&& 255)) 0 1 (nI (L + jz + 1))) from (if_pos zc28).trans ((if_pos zc39).trans ((if_pos zc50).trans (if_neg zc61)))] at ih1
            exact gf_lw ih1 ⟨rfl, rfl, rfl, rfl, rfl, rfl, lvE (nI_1 jz), trivial⟩
        · refine gf_iload_n 3 dX12_feed_53 rfl rfl ?_
          refine gf_goto 71 dX12_feed_54 rfl ?_
          refine gf_istore dX12_feed_71 (Nat.le_of_ble_eq_true rfl) ?_
          refine gf_lw (lv' := [(0, .ref (E.1 + 247)), (1, .int a), (2, .int b), (3, .int c), (4, .int x), (5, .int e), (6, .int (nI jz)), (7, .int c)]) ?_ ⟨rfl, rfl, rfl, rfl, rfl, rfl, rfl, rfl, trivial⟩
          refine gf_aload_n 0 dX12_feed_73 rfl rfl ?_
          refine gf_getR flX12_7 rfl dX12_feed_74 (gt_247 hG) (gp_247_0 hG) ?_
          refine gf_aload_n 0 dX12_feed_77 rfl rfl ?_
          refine gf_getI flX12_282 rfl dX12_feed_78 (gt_247 hG) ?_
          rw [show hp_i (hm h z N) 247 1 = nI (L + jz) from Iz]
          refine gf_iload dX12_feed_81 rfl ?_
          refine gf_bipush (8) dX12_feed_83 rfl ?_
          refine gf_iconst (3) dX12_feed_85 rfl ?_
          refine gf_iload dX12_feed_86 rfl ?_
          refine gf_iconst (4) dX12_feed_88 rfl ?_
          refine gf_irem dX12_feed_89 (by decide) ?_
          refine gf_isub dX12_feed_90 ?_
          refine gf_imul dX12_feed_91 ?_
          refine gf_ishr dX12_feed_92 ?_
          refine gf_sipush (255) dX12_feed_93 rfl ?_
          refine gf_iand dX12_feed_96 ?_
          refine gf_iast 600 dX12_feed_97 (gt_248 hG) (gl_248 hG) rfl (by omega) (by decide) ?_
          rw [mI_1]
          refine gf_aload_n 0 dX12_feed_98 rfl rfl ?_
          refine gf_dup dX12_feed_99 rfl ?_
          refine gf_getI flX12_282 rfl dX12_feed_100 (gt_247 hG) ?_
          rw [show hp_i (hm h (up2 z 1 (L + jz) ((c >>> ((8 * (3 - ((nI jz) - (nI jz) / 4 * 4))) &&& 31)) &&& 255)) N) 247 1 = nI (L + jz) from Iz]
          refine gf_iconst (1) dX12_feed_103 rfl ?_
          refine gf_iadd dX12_feed_104 ?_
          rw [nI_1]
          refine gf_putI flX12_282 rfl rfl dX12_feed_105 (gt_247 hG) ⟨rfl, rfl⟩ ?_
          rw [mI_0]
          refine gf_iinc (1) dX12_feed_108 rfl rfl (Nat.le_of_ble_eq_true rfl) ?_
          refine gf_goto 18 dX12_feed_111 rfl ?_
          rw [show feeB L a b c x e z jz = (up2 (up2 z 1 (L + jz) ((c >>> ((8 * (3 - ((nI jz) - (nI jz) / 4 * 4))) &&& 31)) &&& 255)) 0 1 (nI (L + jz + 1))) from (if_pos zc28).trans ((if_pos zc39).trans (if_neg zc50))] at ih1
          exact gf_lw ih1 ⟨rfl, rfl, rfl, rfl, rfl, rfl, lvE (nI_1 jz), trivial⟩
      · refine gf_iload_n 2 dX12_feed_42 rfl rfl ?_
        refine gf_goto 71 dX12_feed_43 rfl ?_
        refine gf_istore dX12_feed_71 (Nat.le_of_ble_eq_true rfl) ?_
        refine gf_lw (lv' := [(0, .ref (E.1 + 247)), (1, .int a), (2, .int b), (3, .int c), (4, .int x), (5, .int e), (6, .int (nI jz)), (7, .int b)]) ?_ ⟨rfl, rfl, rfl, rfl, rfl, rfl, rfl, rfl, trivial⟩
        refine gf_aload_n 0 dX12_feed_73 rfl rfl ?_
        refine gf_getR flX12_7 rfl dX12_feed_74 (gt_247 hG) (gp_247_0 hG) ?_
        refine gf_aload_n 0 dX12_feed_77 rfl rfl ?_
        refine gf_getI flX12_282 rfl dX12_feed_78 (gt_247 hG) ?_
        rw [show hp_i (hm h z N) 247 1 = nI (L + jz) from Iz]
        refine gf_iload dX12_feed_81 rfl ?_
        refine gf_bipush (8) dX12_feed_83 rfl ?_
        refine gf_iconst (3) dX12_feed_85 rfl ?_
        refine gf_iload dX12_feed_86 rfl ?_
        refine gf_iconst (4) dX12_feed_88 rfl ?_
        refine gf_irem dX12_feed_89 (by decide) ?_
        refine gf_isub dX12_feed_90 ?_
        refine gf_imul dX12_feed_91 ?_
        refine gf_ishr dX12_feed_92 ?_
        refine gf_sipush (255) dX12_feed_93 rfl ?_
        refine gf_iand dX12_feed_96 ?_
        refine gf_iast 600 dX12_feed_97 (gt_248 hG) (gl_248 hG) rfl (by omega) (by decide) ?_
        rw [mI_1]
        refine gf_aload_n 0 dX12_feed_98 rfl rfl ?_
        refine gf_dup dX12_feed_99 rfl ?_
        refine gf_getI flX12_282 rfl dX12_feed_100 (gt_247 hG) ?_
        rw [show hp_i (hm h (up2 z 1 (L + jz) ((b >>> ((8 * (3 - ((nI jz) - (nI jz) / 4 * 4))) &&& 31)) &&& 255)) N) 247 1 = nI (L + jz) from Iz]
        refine gf_iconst (1) dX12_feed_103 rfl ?_
        refine gf_iadd dX12_feed_104 ?_
        rw [nI_1]
        refine gf_putI flX12_282 rfl rfl dX12_feed_105 (gt_247 hG) ⟨rfl, rfl⟩ ?_
        rw [mI_0]
        refine gf_iinc (1) dX12_feed_108 rfl rfl (Nat.le_of_ble_eq_true rfl) ?_
        refine gf_goto 18 dX12_feed_111 rfl ?_
        rw [show feeB L a b c x e z jz = (up2 (up2 z 1 (L + jz) ((b >>> ((8 * (3 - ((nI jz) - (nI jz) / 4 * 4))) &&& 31)) &&& 255)) 0 1 (nI (L + jz + 1))) from (if_pos zc28).trans (if_neg zc39)] at ih1
        exact gf_lw ih1 ⟨rfl, rfl, rfl, rfl, rfl, rfl, lvE (nI_1 jz), trivial⟩
    · refine gf_iload_n 1 dX12_feed_31 rfl rfl ?_
      refine gf_goto 71 dX12_feed_32 rfl ?_
      refine gf_istore dX12_feed_71 (Nat.le_of_ble_eq_true rfl) ?_
      refine gf_lw (lv' := [(0, .ref (E.1 + 247)), (1, .int a), (2, .int b), (3, .int c), (4, .int x), (5, .int e), (6, .int (nI jz)), (7, .int a)]) ?_ ⟨rfl, rfl, rfl, rfl, rfl, rfl, rfl, rfl, trivial⟩
      refine gf_aload_n 0 dX12_feed_73 rfl rfl ?_
      refine gf_getR flX12_7 rfl dX12_feed_74 (gt_247 hG) (gp_247_0 hG) ?_
      refine gf_aload_n 0 dX12_feed_77 rfl rfl ?_
      refine gf_getI flX12_282 rfl dX12_feed_78 (gt_247 hG) ?_
      rw [show hp_i (hm h z N) 247 1 = nI (L + jz) from Iz]
      refine gf_iload dX12_feed_81 rfl ?_
      refine gf_bipush (8) dX12_feed_83 rfl ?_
      refine gf_iconst (3) dX12_feed_85 rfl ?_
      refine gf_iload dX12_feed_86 rfl ?_
      refine gf_iconst (4) dX12_feed_88 rfl ?_
      refine gf_irem dX12_feed_89 (by decide) ?_
      refine gf_isub dX12_feed_90 ?_
      refine gf_imul dX12_feed_91 ?_
      refine gf_ishr dX12_feed_92 ?_
      refine gf_sipush (255) dX12_feed_93 rfl ?_
      refine gf_iand dX12_feed_96 ?_
      refine gf_iast 600 dX12_feed_97 (gt_248 hG) (gl_248 hG) rfl (by omega) (by decide) ?_
      rw [mI_1]
      refine gf_aload_n 0 dX12_feed_98 rfl rfl ?_
      refine gf_dup dX12_feed_99 rfl ?_
      refine gf_getI flX12_282 rfl dX12_feed_100 (gt_247 hG) ?_
      rw [show hp_i (hm h (up2 z 1 (L + jz) ((a >>> ((8 * (3 - ((nI jz) - (nI jz) / 4 * 4))) &&& 31)) &&& 255)) N) 247 1 = nI (L + jz) from Iz]
      refine gf_iconst (1) dX12_feed_103 rfl ?_
      refine gf_iadd dX12_feed_104 ?_
      rw [nI_1]
      refine gf_putI flX12_282 rfl rfl dX12_feed_105 (gt_247 hG) ⟨rfl, rfl⟩ ?_
      rw [mI_0]
      refine gf_iinc (1) dX12_feed_108 rfl rfl (Nat.le_of_ble_eq_true rfl) ?_
      refine gf_goto 18 dX12_feed_111 rfl ?_
      rw [show feeB L a b c x e z jz = (up2 (up2 z 1 (L + jz) ((a >>> ((8 * (3 - ((nI jz) - (nI jz) / 4 * 4))) &&& 31)) &&& 255)) 0 1 (nI (L + jz + 1))) from if_neg zc28] at ih1
      exact gf_lw ih1 ⟨rfl, rfl, rfl, rfl, rfl, rfl, lvE (nI_1 jz), trivial⟩
theorem e_X12_feed (E : gE) {d : Nat} {L : Nat} (a b c x e : Int32) (h : hp_T) (hG : gr h) (M : mM) (N : mN) (hL : M 0 1 = nI L) (hL6 : L ≤ 600) : ev E mX12_feed d [.ref (E.1 + 247), .int a, .int b, .int c, .int x, .int e] (hm h M N) (some (.int (if L + 20 ≤ 600 then nI (L + 20) else -1))) (if L + 20 ≤ 600 then hm h (itN (feeB L a b c x e) M 20) N else (hm h M N)) := by
  refine ev_of rfl (fun q => absurd q (by decide)) (Nat.le_of_ble_eq_true rfl) ?_
  by_cases hP : L + 20 ≤ 600
  · rw [if_pos hP, if_pos hP]
    refine gf_aload_n 0 dX12_feed_0 rfl rfl ?_
    refine gf_getI flX12_282 rfl dX12_feed_1 (gt_247 hG) ?_
    rw [show hp_i (hm h M N) 247 1 = nI L from hL]
    refine gf_bipush (20) dX12_feed_4 rfl ?_
    refine gf_iadd dX12_feed_6 ?_
    rw [show nI L + 20 = nI (L + 20) from nI_add L 20]
    refine gf_sipush (600) dX12_feed_7 rfl ?_
    refine gf_icmp_le 15 dX12_feed_10 rfl (fun _ => ?_) (fun q => absurd (nI_le (b := 600) hP (by omega)) q)
    refine gf_iconst (0) dX12_feed_15 rfl ?_
    refine gf_istore dX12_feed_16 (Nat.le_of_ble_eq_true rfl) ?_
    refine gf_lw (l_fee E a b c x e h hG M N hL (by omega) ?_ 20 0 (by omega)) ⟨rfl, rfl, rfl, rfl, rfl, rfl, rfl, trivial⟩
    refine gf_aload_n 0 dX12_feed_114 rfl rfl ?_
    refine gf_getI flX12_282 rfl dX12_feed_115 (gt_247 hG) ?_
    rw [show hp_i (hm h (itN (feeB L a b c x e) M 20) N) 247 1 = nI (L + 20) from fee_I (a := a) (b := b) (c := c) (x := x) (e := e) hL 20]
    exact gf_iretE dX12_feed_118 rfl (rfl) (rfl)
  · rw [if_neg hP, if_neg hP]
    refine gf_aload_n 0 dX12_feed_0 rfl rfl ?_
    refine gf_getI flX12_282 rfl dX12_feed_1 (gt_247 hG) ?_
    rw [show hp_i (hm h M N) 247 1 = nI L from hL]
    refine gf_bipush (20) dX12_feed_4 rfl ?_
    refine gf_iadd dX12_feed_6 ?_
    rw [show nI L + 20 = nI (L + 20) from nI_add L 20]
    refine gf_sipush (600) dX12_feed_7 rfl ?_
    refine gf_icmp_le 15 dX12_feed_10 rfl (fun q => absurd q (nI_ge (a := 600) (by omega) (by omega))) (fun _ => ?_)
    refine gf_iconst (-1) dX12_feed_13 rfl ?_
    exact gf_iretE dX12_feed_14 rfl (rfl) (rfl)
