/-! ===== the reference: all claims ===== -/
theorem mas_I {n s w g k : Nat} {M : mM} {W : tW} (I : refI M n s w g) : refI (masS n s w g k M W).2.1 n s w g := by
  unfold masS
  repeat' split
  all_goals exact I
theorem ask_row {M : mM} {c v o l : Int32} {r : Nat} (h0 : r ≠ 0) : askM M c v o l r = M r := by
  unfold askM
  simp only [up2_row h0]
theorem ask_0 {M : mM} {c v o l : Int32} {q : Nat} (h1 : q ≠ 71) (h2 : q ≠ 72) (h3 : q ≠ 73) (h4 : q ≠ 74) : askM M c v o l 0 q = M 0 q := by
  unfold askM
  rw [up2_k _ _ h4, up2_k _ _ h3, up2_k _ _ h2, up2_k _ _ h1]
theorem mas_row {n s w g k : Nat} {M : mM} {W : tW} {r : Nat} (h0 : r ≠ 0) : (masS n s w g k M W).2.1 r = M r := by
  unfold masS
  repeat' split
  all_goals first | rfl | exact ask_row h0
theorem mas_0 {n s w g k : Nat} {M : mM} {W : tW} {q : Nat} (h1 : q ≠ 71) (h2 : q ≠ 72) (h3 : q ≠ 73) (h4 : q ≠ 74) : (masS n s w g k M W).2.1 0 q = M 0 q := by
  unfold masS
  repeat' split
  all_goals first | rfl | exact ask_0 h1 h2 h3 h4
def clmB (n s w g : Nat) (z : qS) (jz : Nat) : qS := (if (bI (decide (poQ z.1 n s (nI jz)))) = 0 then ((up2 (up2 (up2 z.1 66 jz (bI (decide (poQ z.1 n s (nI jz))))) 64 jz 0) 63 jz 0), z.2) else ((up2 (up2 ((masS n s w g jz (up2 (up2 (up2 z.1 66 jz (bI (decide (poQ z.1 n s (nI jz))))) 64 jz 0) 63 jz 0) z.2).2.1) 63 jz ((masS n s w g jz (up2 (up2 (up2 z.1 66 jz (bI (decide (poQ z.1 n s (nI jz))))) 64 jz 0) 63 jz 0) z.2).1)) 65 jz (mmaS n s jz (up2 ((masS n s w g jz (up2 (up2 (up2 z.1 66 jz (bI (decide (poQ z.1 n s (nI jz))))) 64 jz 0) 63 jz 0) z.2).2.1) 63 jz ((masS n s w g jz (up2 (up2 (up2 z.1 66 jz (bI (decide (poQ z.1 n s (nI jz))))) 64 jz 0) 63 jz 0) z.2).1)))), (masS n s w g jz (up2 (up2 (up2 z.1 66 jz (bI (decide (poQ z.1 n s (nI jz))))) 64 jz 0) 63 jz 0) z.2).2.2))
theorem clmB_I {n s w g : Nat} (z : qS) (jz : Nat) (I : refI z.1 n s w g) : refI (clmB n s w g z jz).1 n s w g := by
  unfold clmB
  split
  · exact I
  · exact mas_I (n := n) (s := s) (w := w) (g := g) (k := jz) (M := up2 (up2 (up2 z.1 66 jz _) 64 jz 0) 63 jz 0) (W := z.2) I
theorem clm_I {n s w g : Nat} {M : mM} {W : tW} (I : refI M n s w g) : ∀ j, refI (itN (clmB n s w g) (M, W) j).1 n s w g
  | 0 => I
  | j + 1 => clmB_I _ j (clm_I I j)
theorem clm_row {n s w g : Nat} {z : qS} {r : Nat} (h0 : r ≠ 0) (h3 : r ≠ 63) (h4 : r ≠ 64) (h5 : r ≠ 65) (h6 : r ≠ 66) : ∀ j, (itN (clmB n s w g) z j).1 r = z.1 r
  | 0 => rfl
  | j + 1 => by
    refine Eq.trans ?_ (clm_row (n := n) (s := s) (w := w) (g := g) h0 h3 h4 h5 h6 j)
    show (clmB n s w g (itN (clmB n s w g) z j) j).1 r = _
    generalize itN (clmB n s w g) z j = y
    unfold clmB
    split
    · simp only [up2_row h6, up2_row h4, up2_row h3]
    · simp only [up2_row h6, up2_row h5, up2_row h4, up2_row h3, mas_row h0]
theorem clm_0 {n s w g : Nat} {z : qS} {k : Nat} (h1 : k ≠ 71) (h2 : k ≠ 72) (h3 : k ≠ 73) (h4 : k ≠ 74) : ∀ j, (itN (clmB n s w g) z j).1 0 k = z.1 0 k
  | 0 => rfl
  | j + 1 => by
    refine Eq.trans ?_ (clm_0 (n := n) (s := s) (w := w) (g := g) h1 h2 h3 h4 j)
    show (clmB n s w g (itN (clmB n s w g) z j) j).1 0 k = _
    generalize itN (clmB n s w g) z j = y
    unfold clmB
    split
    · rfl
    · exact mas_0 (M := up2 (up2 (up2 y.1 66 j _) 64 j 0) 63 j 0) h1 h2 h3 h4
theorem l_clm (E : gE) {d : Nat} (hd : 7 ≤ d) {n s w g : Nat} (h : hp_T) (hG : gr h) (M : mM) (N : mN) (I : refI M n s w g) (W : tW) (hwl : ∀ c, c < 120 → ∃ k, k < 4 ∧ M 31 c = nI k) {v : Option Value} {hz : hp_T} (K : gf E mX12_claims d 74 [(0, .ref (E.1 + 247)), (1, .int (nI (201 : Nat)))] [] (sP h ((itN (clmB n s w g) (M, W) (201 : Nat)).1) N ((itN (clmB n s w g) (M, W) (201 : Nat)).2)) v hz) : ∀ (kz jz : Nat), jz + kz = (201 : Nat) → gf E mX12_claims d 2 [(0, .ref (E.1 + 247)), (1, .int (nI jz))] [] (sP h ((itN (clmB n s w g) (M, W) jz).1) N ((itN (clmB n s w g) (M, W) jz).2)) v hz := by
  intro kz
  induction kz with
  | zero =>
    intro jz hj
    have hj : (201 : Nat) = jz := by omega
    subst hj
    have Iz : refI (itN (clmB n s w g) (M, W) (201 : Nat)).1 n s w g := clm_I I (201 : Nat)
    generalize ez : (itN (clmB n s w g) (M, W) (201 : Nat)) = z at K Iz ⊢
    refine gf_iload_n 1 dX12_claims_2 rfl rfl ?_
    refine gf_sipush (200) dX12_claims_3 rfl ?_
    refine gf_icmp_gt 74 dX12_claims_6 rfl (fun _ => ?_) (fun q => absurd (nI_lt (a := 200) (by omega) (by omega)) q)
    exact gf_lw K ⟨rfl, rfl, trivial⟩
  | succ kz ih =>
    intro jz hj
    have ih1 := ih (jz + 1) (by omega)
    have Iz : refI (itN (clmB n s w g) (M, W) jz).1 n s w g := clm_I I jz
    rw [show (itN (clmB n s w g) (M, W) (jz + 1)) = clmB n s w g (itN (clmB n s w g) (M, W) jz) jz from itN_s _ _ _] at ih1
    generalize ez2 : (itN (clmB n s w g) (M, W) jz) = z at ih1 Iz ⊢
    have hn2 := Iz.1.2.1
    have hw3 : ∀ c, c < 120 → ∃ k, k < 4 ∧ z.1 31 c = nI k := by rw [← ez2]; rw [clm_row (by decide) (by decide) (by decide) (by decide) (by decide)]; exact hwl
    refine gf_iload_n 1 dX12_claims_2 rfl rfl ?_
    refine gf_sipush (200) dX12_claims_3 rfl ?_
    refine gf_icmp_gt 74 dX12_claims_6 rfl (fun q => absurd q (nI_nlt (a := 200) (by omega) (by omega))) (fun _ => ?_)
    refine gf_aload_n 0 dX12_claims_9 rfl rfl ?_
    refine gf_getR flX12_222 rfl dX12_claims_10 (gt_247 hG) (gp_247_88 hG) ?_
    refine gf_iload_n 1 dX12_claims_13 rfl rfl ?_
    refine gf_aload_n 0 dX12_claims_14 rfl rfl ?_
    refine gf_iload_n 1 dX12_claims_15 rfl rfl ?_
    refine gf_callV cmX12_isPolicy lkX12_517 imX12_isPolicy seX12_isPolicy ⟨rfl, by decide⟩ dX12_claims_16 (d1 := d - 1) (by omega) (gt_247 hG) (e_X12_isPolicy E (by omega) (nI jz) h hG (up2 z.1 0 70 (nI z.2.1)) (uprL N 52 z.2.2) (n := n) (s := s) (show macI (up2 z.1 0 70 (nI z.2.1)) n s from Iz.1)) rfl rfl (Nat.le_of_ble_eq_true rfl) ?_
    rw [show decide (poQ (up2 z.1 0 70 (nI z.2.1)) n s (nI jz)) = decide (poQ z.1 n s (nI jz)) from rfl]
    change gf _ _ _ _ _ _ (sP h z.1 N z.2) _ _
    refine gf_zast 201 dX12_claims_19 (gt_313 hG) (gl_313 hG) rfl (by omega) (by decide) (bI_vn _) ?_
    rw [sQ_66]
    refine gf_aload_n 0 dX12_claims_20 rfl rfl ?_
    refine gf_getR flX12_216 rfl dX12_claims_21 (gt_247 hG) (gp_247_86 hG) ?_
    refine gf_iload_n 1 dX12_claims_24 rfl rfl ?_
    refine gf_iconst (0) dX12_claims_25 rfl ?_
    refine gf_iast 201 dX12_claims_26 (gt_311 hG) (gl_311 hG) rfl (by omega) (by decide) ?_
    rw [sQ_64]
    refine gf_aload_n 0 dX12_claims_27 rfl rfl ?_
    refine gf_getR flX12_213 rfl dX12_claims_28 (gt_247 hG) (gp_247_85 hG) ?_
    refine gf_iload_n 1 dX12_claims_31 rfl rfl ?_
    refine gf_iconst (0) dX12_claims_32 rfl ?_
    refine gf_iast 201 dX12_claims_33 (gt_310 hG) (gl_310 hG) rfl (by omega) (by decide) ?_
    rw [sQ_63]
    refine gf_aload_n 0 dX12_claims_34 rfl rfl ?_
    refine gf_getR flX12_222 rfl dX12_claims_35 (gt_247 hG) (gp_247_88 hG) ?_
    refine gf_iload_n 1 dX12_claims_38 rfl rfl ?_
    refine gf_zald 201 dX12_claims_39 (gt_313 hG) (gl_313 hG) rfl (by omega) (by decide) ?_
    rw [show hp_i (sP h (up2 (up2 (up2 z.1 66 jz (bI (decide (poQ z.1 n s (nI jz))))) 64 jz 0) 63 jz 0) N z.2) 313 jz = (bI (decide (poQ z.1 n s (nI jz)))) from up2_s z.1 66 jz _]
    refine gf_if_ne 46 dX12_claims_40 rfl (fun zc40 => ?_) (fun zc40 => ?_)
    · have hp := poQ_ix (of_decide_eq_true (bI_t zc40)) hn2
      rw [nI_clamp (show jz < 2 ^ 31 by omega)] at hp
      refine gf_aload_n 0 dX12_claims_46 rfl rfl ?_
      refine gf_getR flX12_213 rfl dX12_claims_47 (gt_247 hG) (gp_247_85 hG) ?_
      refine gf_iload_n 1 dX12_claims_50 rfl rfl ?_
      refine gf_aload_n 0 dX12_claims_51 rfl rfl ?_
      refine gf_iload_n 1 dX12_claims_52 rfl rfl ?_
      refine gf_callV cmX12_askOf lkX12_602 imX12_askOf seX12_askOf ⟨rfl, by decide⟩ dX12_claims_53 (d1 := d - 1) (by omega) (gt_247 hG) (e_X12_askOf E (by omega) h hG (up2 (up2 (up2 z.1 66 jz (bI (decide (poQ z.1 n s (nI jz))))) 64 jz 0) 63 jz 0) N (show refI (up2 (up2 (up2 z.1 66 jz (bI (decide (poQ z.1 n s (nI jz))))) 64 jz 0) 63 jz 0) n s w g from Iz) z.2 hp.2.1 hp.2.2.1 (show z.1 47 jz = 2 from hp.2.2.2.1) (show ∀ c, c < 120 → ∃ k, k < 4 ∧ z.1 31 c = nI k from hw3)) rfl rfl (Nat.le_of_ble_eq_true rfl) ?_
      have I3 : refI (masS n s w g jz (up2 (up2 (up2 z.1 66 jz (bI (decide (poQ z.1 n s (nI jz))))) 64 jz 0) 63 jz 0) z.2).2.1 n s w g := mas_I (show refI (up2 (up2 (up2 z.1 66 jz (bI (decide (poQ z.1 n s (nI jz))))) 64 jz 0) 63 jz 0) n s w g from Iz)
      refine gf_iast 201 dX12_claims_56 (gt_310 hG) (gl_310 hG) rfl (by omega) (by decide) ?_
      rw [sQ_63]
      refine gf_aload_n 0 dX12_claims_57 rfl rfl ?_
      refine gf_getR flX12_219 rfl dX12_claims_58 (gt_247 hG) (gp_247_87 hG) ?_
      refine gf_iload_n 1 dX12_claims_61 rfl rfl ?_
      refine gf_aload_n 0 dX12_claims_62 rfl rfl ?_
      refine gf_iload_n 1 dX12_claims_63 rfl rfl ?_
      refine gf_callV cmX12_mannerOf lkX12_605 imX12_mannerOf seX12_mannerOf ⟨rfl, by decide⟩ dX12_claims_64 (d1 := d - 1) (by omega) (gt_247 hG) (e_X12_mannerOf E (by omega) h hG (up2 ((masS n s w g jz (up2 (up2 (up2 z.1 66 jz (bI (decide (poQ z.1 n s (nI jz))))) 64 jz 0) 63 jz 0) z.2).2.1) 63 jz ((masS n s w g jz (up2 (up2 (up2 z.1 66 jz (bI (decide (poQ z.1 n s (nI jz))))) 64 jz 0) 63 jz 0) z.2).1)) N (show refI (up2 ((masS n s w g jz (up2 (up2 (up2 z.1 66 jz (bI (decide (poQ z.1 n s (nI jz))))) 64 jz 0) 63 jz 0) z.2).2.1) 63 jz ((masS n s w g jz (up2 (up2 (up2 z.1 66 jz (bI (decide (poQ z.1 n s (nI jz))))) 64 jz 0) 63 jz 0) z.2).1)) n s w g from I3) (masS n s w g jz (up2 (up2 (up2 z.1 66 jz (bI (decide (poQ z.1 n s (nI jz))))) 64 jz 0) 63 jz 0) z.2).2.2 (show jz ≤ 200 by omega)) rfl rfl (Nat.le_of_ble_eq_true rfl) ?_
      refine gf_iast 201 dX12_claims_67 (gt_312 hG) (gl_312 hG) rfl (by omega) (by decide) ?_
      rw [sQ_65]
      refine gf_iinc (1) dX12_claims_68 rfl rfl (Nat.le_of_ble_eq_true rfl) ?_
      refine gf_goto 2 dX12_claims_71 rfl ?_
      rw [show clmB n s w g z jz = ((up2 (up2 ((masS n s w g jz (up2 (up2 (up2 z.1 66 jz (bI (decide (poQ z.1 n s (nI jz))))) 64 jz 0) 63 jz 0) z.2).2.1) 63 jz ((masS n s w g jz (up2 (up2 (up2 z.1 66 jz (bI (decide (poQ z.1 n s (nI jz))))) 64 jz 0) 63 jz 0) z.2).1)) 65 jz (mmaS n s jz (up2 ((masS n s w g jz (up2 (up2 (up2 z.1 66 jz (bI (decide (poQ z.1 n s (nI jz))))) 64 jz 0) 63 jz 0) z.2).2.1) 63 jz ((masS n s w g jz (up2 (up2 (up2 z.1 66 jz (bI (decide (poQ z.1 n s (nI jz))))) 64 jz 0) 63 jz 0) z.2).1)))), (masS n s w g jz (up2 (up2 (up2 z.1 66 jz (bI (decide (poQ z.1 n s (nI jz))))) 64 jz 0) 63 jz 0) z.2).2.2) from if_neg zc40] at ih1
      exact gf_lw ih1 ⟨rfl, lvE (nI_1 jz), trivial⟩
    · refine gf_goto 68 dX12_claims_43 rfl ?_
      refine gf_iinc (1) dX12_claims_68 rfl rfl (Nat.le_of_ble_eq_true rfl) ?_
      refine gf_goto 2 dX12_claims_71 rfl ?_
      rw [show clmB n s w g z jz = ((up2 (up2 (up2 z.1 66 jz (bI (decide (poQ z.1 n s (nI jz))))) 64 jz 0) 63 jz 0), z.2) from if_pos zc40] at ih1
      exact gf_lw ih1 ⟨rfl, lvE (nI_1 jz), trivial⟩
def clsB (n : Nat) (z : mM × mN) (jz : Nat) : mM × mN := (if (z.1 34 jz) = 0 then (z.1, z.2) else ((inrS n (nI jz) 2 ((bypS n (nI jz) ((inrS n (nI jz) 0 (mloV z.1 jz) z.1).2) (inrS n (nI jz) 0 (mloV z.1 jz) z.1).1 z.2).1) (bypS n (nI jz) ((inrS n (nI jz) 0 (mloV z.1 jz) z.1).2) (inrS n (nI jz) 0 (mloV z.1 jz) z.1).1 z.2).2.1).1, (bypS n (nI jz) ((inrS n (nI jz) 0 (mloV z.1 jz) z.1).2) (inrS n (nI jz) 0 (mloV z.1 jz) z.1).1 z.2).2.2))
theorem byp_row {n : Nat} {c left : Int32} {M : mM} {N : mN} {r : Nat} (h : r ≠ 64) : (bypS n c left M N).2.1 r = M r := by
  unfold bypS
  split
  · refine Eq.trans ?_ (bpf_row (c := c) (left := left) (al := bpaS n c M) (z := ((M, N), left)) h n)
    generalize (itN (bpfB c left (bpaS n c M)) ((M, N), left) n) = y
    show (bpwS n c y.1 y.2.toNatClampNeg).1 r = y.1.1 r
    generalize y.2.toNatClampNeg = m
    generalize y.1 = x
    unfold bpwS
    induction m with
    | zero => rfl
    | succ m ih =>
      rw [itN_s]
      exact (up2_row h).trans ih
  · exact inr_row (z := (M, left)) h n
theorem cls_row {n : Nat} {z : mM × mN} {r : Nat} (h : r ≠ 64) : ∀ j, (itN (clsB n) z j).1 r = z.1 r
  | 0 => rfl
  | j + 1 => by
    refine Eq.trans ?_ (cls_row (n := n) h j)
    show (clsB n (itN (clsB n) z j) j).1 r = _
    generalize itN (clsB n) z j = y
    unfold clsB
    split
    · rfl
    · exact (inr_row (z := (_, _)) h n).trans ((byp_row h).trans (inr_row (z := (_, _)) h n))
theorem l_cls (E : gE) {d : Nat} (hd : 4 ≤ d) {n w g : Nat} (h : hp_T) (hG : gr h) (M : mM) (N : mN) (C : mcty M w g) (hN : M 0 62 = nI n) (hn2 : n ≤ 200) (hwl : ∀ c, c < 120 → ∃ k, k < 4 ∧ M 31 c = nI k) (hls : ∀ c, c < w * g → 0 ≤ mloV M c) (hi0 : ∀ (c : Int32) (left : Int32) (Z : mM), (∀ r, r ≠ 64 → Z r = M r) → 0 ≤ left → 0 ≤ (inrS n c 0 left Z).2) {v : Option Value} {hz : hp_T} (K : gf E mX12_claims d 122 [(0, .ref (E.1 + 247)), (1, .int (nI (w * g)))] [] (hm h ((itN (clsB n) (M, N) (w * g)).1) ((itN (clsB n) (M, N) (w * g)).2)) v hz) : ∀ (kz jz : Nat), jz + kz = (w * g) → gf E mX12_claims d 76 [(0, .ref (E.1 + 247)), (1, .int (nI jz))] [] (hm h ((itN (clsB n) (M, N) jz).1) ((itN (clsB n) (M, N) jz).2)) v hz := by
  have hn : w * g ≤ 120 := Nat.le_trans (Nat.mul_le_mul C.1.2.1 C.1.2.2.2) (by decide)
  intro kz
  induction kz with
  | zero =>
    intro jz hj
    have hj : (w * g) = jz := by omega
    subst hj
    have Iz : ∀ r : Nat, r ≠ 64 → (itN (clsB n) (M, N) (w * g)).1 r = M r := (fun (r : Nat) (hr : r ≠ 64) => cls_row (n := n) (z := (M, N)) hr (w * g))
    generalize ez : (itN (clsB n) (M, N) (w * g)) = z at K Iz ⊢
    refine gf_iload_n 1 dX12_claims_76 rfl rfl ?_
    refine gf_aload_n 0 dX12_claims_77 rfl rfl ?_
    refine gf_callV cmX12_cells lkX12_409 imX12_cells seX12_cells ⟨rfl, by decide⟩ dX12_claims_78 (d1 := d - 1) (by omega) (gt_247 hG) (e_X12_cells E (by omega) (hm h z.1 z.2) hG) rfl rfl (Nat.le_of_ble_eq_true rfl) ?_
    rw [show hp_i (hm h z.1 z.2) 247 42 * hp_i (hm h z.1 z.2) 247 43 = nI (w * g) from cel_e (M := z.1) (by unfold mcty; rw [Iz 0 (by decide)]; exact C)]
    refine gf_icmp_ge 122 dX12_claims_81 rfl (fun _ => ?_) (fun q => absurd (nI_le (by omega) (by omega)) q)
    exact gf_lw K ⟨rfl, rfl, trivial⟩
  | succ kz ih =>
    intro jz hj
    have ih1 := ih (jz + 1) (by omega)
    have Iz : ∀ r : Nat, r ≠ 64 → (itN (clsB n) (M, N) jz).1 r = M r := (fun (r : Nat) (hr : r ≠ 64) => cls_row (n := n) (z := (M, N)) hr jz)
    rw [show (itN (clsB n) (M, N) (jz + 1)) = clsB n (itN (clsB n) (M, N) jz) jz from itN_s _ _ _] at ih1
    generalize (itN (clsB n) (M, N) jz) = z at ih1 Iz ⊢
    have Cz : mcty z.1 w g := by unfold mcty; rw [Iz 0 (by decide)]; exact C
    have hwz : ∀ c, c < 120 → ∃ k, k < 4 ∧ z.1 31 c = nI k := by rw [Iz 31 (by decide)]; exact hwl
    have hNz : z.1 0 62 = nI n := by rw [Iz 0 (by decide)]; exact hN
    have hz9 : ∀ r, r ≠ 64 → z.1 r = M r := Iz
    have hlz : mloV z.1 jz = mloV M jz := by unfold mloV fuW; rw [Iz 34 (by decide), Iz 33 (by decide), Iz 56 (by decide), Iz 31 (by decide)]
    refine gf_iload_n 1 dX12_claims_76 rfl rfl ?_
    refine gf_aload_n 0 dX12_claims_77 rfl rfl ?_
    refine gf_callV cmX12_cells lkX12_409 imX12_cells seX12_cells ⟨rfl, by decide⟩ dX12_claims_78 (d1 := d - 1) (by omega) (gt_247 hG) (e_X12_cells E (by omega) (hm h z.1 z.2) hG) rfl rfl (Nat.le_of_ble_eq_true rfl) ?_
    rw [show hp_i (hm h z.1 z.2) 247 42 * hp_i (hm h z.1 z.2) 247 43 = nI (w * g) from cel_e (M := z.1) (by unfold mcty; rw [Iz 0 (by decide)]; exact C)]
    refine gf_icmp_ge 122 dX12_claims_81 rfl (fun q => absurd q (nI_ge (by omega) (by omega))) (fun _ => ?_)
    refine gf_aload_n 0 dX12_claims_84 rfl rfl ?_
    refine gf_getR flX12_121 rfl dX12_claims_85 (gt_247 hG) (gp_247_47 hG) ?_
    refine gf_iload_n 1 dX12_claims_88 rfl rfl ?_
    refine gf_zald 120 dX12_claims_89 (gt_281 hG) (gl_281 hG) rfl (by omega) (by decide) ?_
    refine gf_if_eq 116 dX12_claims_90 rfl (fun zc90 => ?_) (fun zc90 => ?_)
    · refine gf_iinc (1) dX12_claims_116 rfl rfl (Nat.le_of_ble_eq_true rfl) ?_
      refine gf_goto 76 dX12_claims_119 rfl ?_
      rw [show clsB n z jz = (z.1, z.2) from if_pos zc90] at ih1
      exact gf_lw ih1 ⟨rfl, lvE (nI_1 jz), trivial⟩
    · refine gf_aload_n 0 dX12_claims_93 rfl rfl ?_
      refine gf_iload_n 1 dX12_claims_94 rfl rfl ?_
      refine gf_iconst (2) dX12_claims_95 rfl ?_
      refine gf_aload_n 0 dX12_claims_96 rfl rfl ?_
      refine gf_iload_n 1 dX12_claims_97 rfl rfl ?_
      refine gf_aload_n 0 dX12_claims_98 rfl rfl ?_
      refine gf_iload_n 1 dX12_claims_99 rfl rfl ?_
      refine gf_iconst (0) dX12_claims_100 rfl ?_
      refine gf_aload_n 0 dX12_claims_101 rfl rfl ?_
      refine gf_iload_n 1 dX12_claims_102 rfl rfl ?_
      refine gf_callV cmX12_lossOf lkX12_595 imX12_lossOf seX12_lossOf ⟨rfl, by decide⟩ dX12_claims_103 (d1 := d - 1) (by omega) (gt_247 hG) (e_X12_lossOf E (by omega) (w := w) (g := g) (c := jz) h hG z.1 z.2 Cz (show jz < w * g by omega) hwz) rfl rfl (Nat.le_of_ble_eq_true rfl) ?_
      refine gf_callV cmX12_inRow lkX12_598 imX12_inRow seX12_inRow ⟨rfl, by decide⟩ dX12_claims_106 (d1 := d - 1) (by omega) (gt_247 hG) (e_X12_inRow E (nI jz) 0 (mloV z.1 jz) h hG z.1 z.2 (show z.1 0 62 = nI n from hNz) hn2) rfl rfl (Nat.le_of_ble_eq_true rfl) ?_
      refine gf_callV cmX12_byParts lkX12_608 imX12_byParts seX12_byParts ⟨rfl, by decide⟩ dX12_claims_109 (d1 := d - 1) (by omega) (gt_247 hG) (e_X12_byParts E (by omega) (nI jz) ((inrS n (nI jz) 0 (mloV z.1 jz) z.1).2) h hG (inrS n (nI jz) 0 (mloV z.1 jz) z.1).1 z.2 (show (inrS n (nI jz) 0 (mloV z.1 jz) z.1).1 0 62 = nI n from (congrFun (inr_row (by decide) n) 62).trans hNz) hn2 (hi0 _ _ z.1 hz9 (by rw [hlz]; exact hls jz (by omega)))) rfl rfl (Nat.le_of_ble_eq_true rfl) ?_
      have hN3 : (bypS n (nI jz) ((inrS n (nI jz) 0 (mloV z.1 jz) z.1).2) (inrS n (nI jz) 0 (mloV z.1 jz) z.1).1 z.2).2.1 0 62 = nI n := (congrFun (byp_row (by decide)) 62).trans ((congrFun (inr_row (by decide) n) 62).trans hNz)
      refine gf_callV cmX12_inRow lkX12_598 imX12_inRow seX12_inRow ⟨rfl, by decide⟩ dX12_claims_112 (d1 := d - 1) (by omega) (gt_247 hG) (e_X12_inRow E (nI jz) 2 ((bypS n (nI jz) ((inrS n (nI jz) 0 (mloV z.1 jz) z.1).2) (inrS n (nI jz) 0 (mloV z.1 jz) z.1).1 z.2).1) h hG (bypS n (nI jz) ((inrS n (nI jz) 0 (mloV z.1 jz) z.1).2) (inrS n (nI jz) 0 (mloV z.1 jz) z.1).1 z.2).2.1 (bypS n (nI jz) ((inrS n (nI jz) 0 (mloV z.1 jz) z.1).2) (inrS n (nI jz) 0 (mloV z.1 jz) z.1).1 z.2).2.2 (show (bypS n (nI jz) ((inrS n (nI jz) 0 (mloV z.1 jz) z.1).2) (inrS n (nI jz) 0 (mloV z.1 jz) z.1).1 z.2).2.1 0 62 = nI n from hN3) hn2) rfl rfl (Nat.le_of_ble_eq_true rfl) ?_
      refine gf_pop dX12_claims_115 rfl ?_
      refine gf_iinc (1) dX12_claims_116 rfl rfl (Nat.le_of_ble_eq_true rfl) ?_
      refine gf_goto 76 dX12_claims_119 rfl ?_
      rw [show clsB n z jz = ((inrS n (nI jz) 2 ((bypS n (nI jz) ((inrS n (nI jz) 0 (mloV z.1 jz) z.1).2) (inrS n (nI jz) 0 (mloV z.1 jz) z.1).1 z.2).1) (bypS n (nI jz) ((inrS n (nI jz) 0 (mloV z.1 jz) z.1).2) (inrS n (nI jz) 0 (mloV z.1 jz) z.1).1 z.2).2.1).1, (bypS n (nI jz) ((inrS n (nI jz) 0 (mloV z.1 jz) z.1).2) (inrS n (nI jz) 0 (mloV z.1 jz) z.1).1 z.2).2.2) from if_neg zc90] at ih1
      exact gf_lw ih1 ⟨rfl, lvE (nI_1 jz), trivial⟩
def clZ (n s w g : Nat) (z : qS) : qS := itN (clmB n s w g) z 201
def clF (n s w g : Nat) (z : qS) (N : mN) : mM × mN := itN (clsB n) (goM (clZ n s w g z), goN N (clZ n s w g z)) (w * g)
theorem e_X12_claims (E : gE) {d : Nat} (hd : 7 ≤ d) {n s w g : Nat} (h : hp_T) (hG : gr h) (M : mM) (N : mN) (I : refI M n s w g) (W : tW) (hwl : ∀ c, c < 120 → ∃ k, k < 4 ∧ M 31 c = nI k) (hls : ∀ c, c < w * g → 0 ≤ mloV M c) (hi0 : ∀ (c : Int32) (left : Int32) (Z : mM), (∀ r, r ≠ 64 → Z r = (goM (clZ n s w g (M, W))) r) → 0 ≤ left → 0 ≤ (inrS n c 0 left Z).2) : ev E mX12_claims d [.ref (E.1 + 247)] (sP h M N W) none (hm h (clF n s w g (M, W) N).1 (clF n s w g (M, W) N).2) := by
  refine ev_of rfl (fun q => absurd q (by decide)) (Nat.le_of_ble_eq_true rfl) ?_
  have hn2 := I.1.2.1
  have hr : ∀ {r : Nat}, r ≠ 0 → r ≠ 63 → r ≠ 64 → r ≠ 65 → r ≠ 66 → (goM (clZ n s w g (M, W))) r = M r := fun h0 h3 h4 h5 h6 => (up2_row h0).trans (clm_row (z := (M, W)) h0 h3 h4 h5 h6 201)
  have hq : ∀ {k : Nat}, k ≠ 70 → k ≠ 71 → k ≠ 72 → k ≠ 73 → k ≠ 74 → (goM (clZ n s w g (M, W))) 0 k = M 0 k := fun h0 h1 h2 h3 h4 => (up2_k (clZ n s w g (M, W)).1 _ h0).trans (clm_0 (z := (M, W)) h1 h2 h3 h4 201)
  have hC : mcty (goM (clZ n s w g (M, W))) w g := ⟨I.2.1.1, (hq (by decide) (by decide) (by decide) (by decide) (by decide)).trans I.2.1.2.1, (hq (by decide) (by decide) (by decide) (by decide) (by decide)).trans I.2.1.2.2⟩
  have hN : (goM (clZ n s w g (M, W))) 0 62 = nI n := (hq (by decide) (by decide) (by decide) (by decide) (by decide)).trans I.1.1
  have hw3 : ∀ c, c < 120 → ∃ k, k < 4 ∧ (goM (clZ n s w g (M, W))) 31 c = nI k := by rw [hr (by decide) (by decide) (by decide) (by decide) (by decide)]; exact hwl
  have hls : ∀ c, c < w * g → 0 ≤ mloV (goM (clZ n s w g (M, W))) c := fun c hc => by
    have e : mloV (goM (clZ n s w g (M, W))) c = mloV M c := by unfold mloV fuW; rw [hr (by decide) (by decide) (by decide) (by decide) (by decide), hr (by decide) (by decide) (by decide) (by decide) (by decide), hr (by decide) (by decide) (by decide) (by decide) (by decide), hr (by decide) (by decide) (by decide) (by decide) (by decide)]
    rw [e]
    exact hls c hc
  refine gf_iconst (0) dX12_claims_0 rfl ?_
  refine gf_istore_n 1 dX12_claims_1 rfl (Nat.le_of_ble_eq_true rfl) ?_
  refine gf_lw (l_clm E (by omega) h hG M N I W hwl ?_ 201 0 (by omega)) ⟨rfl, rfl, trivial⟩
  change gf _ _ _ _ _ _ (hm h (goM (clZ n s w g (M, W))) (goN N (clZ n s w g (M, W)))) _ _
  refine gf_iconst (0) dX12_claims_74 rfl ?_
  refine gf_istore_n 1 dX12_claims_75 rfl (Nat.le_of_ble_eq_true rfl) ?_
  refine gf_lw (l_cls E (by omega) (n := n) (w := w) (g := g) h hG (goM (clZ n s w g (M, W))) (goN N (clZ n s w g (M, W))) hC hN hn2 hw3 hls hi0 ?_ (w * g) 0 (by omega)) ⟨rfl, rfl, trivial⟩
  exact gf_vretE dX12_claims_122 rfl (rfl)
