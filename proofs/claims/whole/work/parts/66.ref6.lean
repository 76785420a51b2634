/-! ===== the reference's fire: growing, pouring ===== -/
def mgrF (M : mM) (c : Nat) : mM := if M 55 c < 9 then up2 M 55 c (M 55 c + 1) else M
def mgrB (M : mM) (c : Nat) : mM := if M 53 c = 1 then (if M 56 c + 1 < fuW (M 31) c then up2 (mgrF M c) 56 c (M 56 c + 1) else up2 (up2 (up2 (mgrF M c) 56 c (M 56 c + 1)) 53 c 2) 55 c 0) else M
theorem mgrF_row (M : mM) (c : Nat) {r : Nat} (h5 : r ≠ 55) : mgrF M c r = M r := by
  unfold mgrF
  split
  · exact up2_row h5
  · rfl
theorem mgrB_row (M : mM) (c : Nat) {r : Nat} (h3 : r ≠ 53) (h5 : r ≠ 55) (h6 : r ≠ 56) : mgrB M c r = M r := by
  unfold mgrB
  split
  · split
    · rw [up2_row h6, mgrF_row M c h5]
    · rw [up2_row h5, up2_row h3, up2_row h6, mgrF_row M c h5]
  · rfl
theorem mgr_row (M : mM) {r : Nat} (h3 : r ≠ 53) (h5 : r ≠ 55) (h6 : r ≠ 56) : ∀ n, itN mgrB M n r = M r
  | 0 => rfl
  | n + 1 => (mgrB_row _ n h3 h5 h6).trans (mgr_row M h3 h5 h6 n)
theorem l_X12_grows (E : gE) {d : Nat} (hd : 2 ≤ d) {w g : Nat} (h : hp_T) (hG : gr h) (M : mM) (N : mN) (C : mcty M w g) (hwl : ∀ c, c < 120 → ∃ k, k < 4 ∧ M 31 c = nI k) : ∀ (kz jz : Nat), jz + kz = w * g → gf E mX12_grows d 2 [(0, .ref (E.1 + 247)), (1, .int (nI jz))] [] (hm h (itN mgrB M (jz)) N) none (hm h (itN mgrB M (w * g)) N) := by
  obtain ⟨w1, w2, g1, g2⟩ := C.1
  have hn : w * g ≤ 120 := Nat.le_trans (Nat.mul_le_mul w2 g2) (by decide)
  intro kz
  induction kz with
  | zero =>
    intro jz hj
    have hj : w * g = jz := by omega
    rw [hj]
    have Cz : mcty (itN mgrB M (jz)) w g := by unfold mcty; rw [mgr_row M (by decide) (by decide) (by decide)]; exact C
    refine gf_iload_n 1 dX12_grows_2 rfl rfl ?_
    refine gf_aload_n 0 dX12_grows_3 rfl rfl ?_
    refine gf_callV cmX12_cells lkX12_409 imX12_cells seX12_cells ⟨rfl, by decide⟩ dX12_grows_4 (d1 := d - 1) (by omega) (gt_247 hG) (e_X12_cells E (by omega) (hm h (itN mgrB M (jz)) N) hG) rfl rfl (Nat.le_of_ble_eq_true rfl) ?_
    rw [show hp_i (hm h (itN mgrB M (jz)) N) 247 42 * hp_i (hm h (itN mgrB M (jz)) N) 247 43 = nI (w * g) from by rw [show hp_i (hm h (itN mgrB M (jz)) N) 247 42 = nI w from Cz.2.1, show hp_i (hm h (itN mgrB M (jz)) N) 247 43 = nI g from Cz.2.2, pk_mul]]
    refine gf_icmp_ge 95 dX12_grows_7 rfl (fun _ => ?_) (fun q => absurd (nI_le (by omega) (by omega)) q)
    exact gf_vretE dX12_grows_95 rfl (rfl)
  | succ kz ih =>
    intro jz hj
    have Cz : mcty (itN mgrB M (jz)) w g := by unfold mcty; rw [mgr_row M (by decide) (by decide) (by decide)]; exact C
    obtain ⟨kw, hk4, hkw0⟩ := hwl jz (by omega)
    have hkw : (itN mgrB M (jz)) 31 jz = nI kw := by rw [mgr_row M (by decide) (by decide) (by decide)]; exact hkw0
    have ih1 := ih (jz + 1) (by omega)
    rw [show (itN mgrB M (jz + 1)) = mgrB (itN mgrB M (jz)) jz from rfl] at ih1
    generalize (itN mgrB M (jz)) = z at ih1 Cz hkw ⊢
    refine gf_iload_n 1 dX12_grows_2 rfl rfl ?_
    refine gf_aload_n 0 dX12_grows_3 rfl rfl ?_
    refine gf_callV cmX12_cells lkX12_409 imX12_cells seX12_cells ⟨rfl, by decide⟩ dX12_grows_4 (d1 := d - 1) (by omega) (gt_247 hG) (e_X12_cells E (by omega) (hm h z N) hG) rfl rfl (Nat.le_of_ble_eq_true rfl) ?_
    rw [show hp_i (hm h z N) 247 42 * hp_i (hm h z N) 247 43 = nI (w * g) from by rw [show hp_i (hm h z N) 247 42 = nI w from Cz.2.1, show hp_i (hm h z N) 247 43 = nI g from Cz.2.2, pk_mul]]
    refine gf_icmp_ge 95 dX12_grows_7 rfl (fun q => absurd q (nI_ge (by omega) (by omega))) (fun _ => ?_)
    refine gf_aload_n 0 dX12_grows_10 rfl rfl ?_
    refine gf_getR flX12_183 rfl dX12_grows_11 (gt_247 hG) (gp_247_75 hG) ?_
    refine gf_iload_n 1 dX12_grows_14 rfl rfl ?_
    refine gf_iald 120 dX12_grows_15 (gt_300 hG) (gl_300 hG) rfl (by omega) (by decide) ?_
    rw [show hp_i (hm h z N) 300 jz = z 53 jz from rfl]
    refine gf_iconst (1) dX12_grows_16 rfl ?_
    refine gf_icmp_eq 23 dX12_grows_17 rfl (fun zc17 => ?_) (fun zc17 => ?_)
    · refine gf_aload_n 0 dX12_grows_23 rfl rfl ?_
      refine gf_getR flX12_189 rfl dX12_grows_24 (gt_247 hG) (gp_247_77 hG) ?_
      refine gf_iload_n 1 dX12_grows_27 rfl rfl ?_
      refine gf_iald 120 dX12_grows_28 (gt_302 hG) (gl_302 hG) rfl (by omega) (by decide) ?_
      rw [show hp_i (hm h z N) 302 jz = z 55 jz from rfl]
      refine gf_bipush (9) dX12_grows_29 rfl ?_
      refine gf_icmp_ge 44 dX12_grows_31 rfl (fun zc31 => ?_) (fun zc31 => ?_)
      · have h9 : ¬ z 55 jz < 9 := fun q => by have w9 := zc31; rw [fa_le] at w9; rw [fa_lt] at q; omega
        refine gf_aload_n 0 dX12_grows_44 rfl rfl ?_
        refine gf_getR flX12_192 rfl dX12_grows_45 (gt_247 hG) (gp_247_78 hG) ?_
        refine gf_iload_n 1 dX12_grows_48 rfl rfl ?_
        refine gf_dup2 dX12_grows_49 rfl rfl ?_
        refine gf_iald 120 dX12_grows_50 (gt_303 hG) (gl_303 hG) rfl (by omega) (by decide) ?_
        rw [show hp_i (hm h z N) 303 jz = z 56 jz from rfl]
        refine gf_iconst (1) dX12_grows_51 rfl ?_
        refine gf_iadd dX12_grows_52 ?_
        refine gf_iast 120 dX12_grows_53 (gt_303 hG) (gl_303 hG) rfl (by omega) (by decide) ?_
        rw [mI_56]
        refine gf_aload_n 0 dX12_grows_54 rfl rfl ?_
        refine gf_getR flX12_192 rfl dX12_grows_55 (gt_247 hG) (gp_247_78 hG) ?_
        refine gf_iload_n 1 dX12_grows_58 rfl rfl ?_
        refine gf_iald 120 dX12_grows_59 (gt_303 hG) (gl_303 hG) rfl (by omega) (by decide) ?_
        rw [show hp_i (hm h (up2 z 56 jz (z 56 jz + 1)) N) 303 jz = z 56 jz + 1 from up2_s z 56 jz _]
        refine gf_aload_n 0 dX12_grows_60 rfl rfl ?_
        refine gf_getR flX12_112 rfl dX12_grows_61 (gt_247 hG) (gp_247_44 hG) ?_
        refine gf_iload_n 1 dX12_grows_64 rfl rfl ?_
        refine gf_iald 120 dX12_grows_65 (gt_278 hG) (gl_278 hG) rfl (by omega) (by decide) ?_
        rw [show hp_i (hm h (up2 z 56 jz (z 56 jz + 1)) N) 278 jz = nI kw from hkw]
        refine gf_callS cmX12_fuel lkX12_577 stX12_fuel dX12_grows_66 (d1 := d - 1) (by omega) (e_X12_fuel E (by omega) hk4 _) rfl rfl (Nat.le_of_ble_eq_true rfl) ?_
        refine gf_icmp_ge 75 dX12_grows_69 rfl (fun zc69 => ?_) (fun zc69 => ?_)
        · have hfu : ¬ z 56 jz + 1 < fuW (z 31) jz := fun q => by rw [show fuW (z 31) jz = (gf_sc 3).getD kw 0 from (by unfold fuW; rw [hkw, nI_clamp (by omega)])] at q; have w9 := zc69; rw [fa_le] at w9; rw [fa_lt] at q; omega
          refine gf_aload_n 0 dX12_grows_75 rfl rfl ?_
          refine gf_getR flX12_183 rfl dX12_grows_76 (gt_247 hG) (gp_247_75 hG) ?_
          refine gf_iload_n 1 dX12_grows_79 rfl rfl ?_
          refine gf_iconst (2) dX12_grows_80 rfl ?_
          refine gf_iast 120 dX12_grows_81 (gt_300 hG) (gl_300 hG) rfl (by omega) (by decide) ?_
          rw [mI_53]
          refine gf_aload_n 0 dX12_grows_82 rfl rfl ?_
          refine gf_getR flX12_189 rfl dX12_grows_83 (gt_247 hG) (gp_247_77 hG) ?_
          refine gf_iload_n 1 dX12_grows_86 rfl rfl ?_
          refine gf_iconst (0) dX12_grows_87 rfl ?_
          refine gf_iast 120 dX12_grows_88 (gt_302 hG) (gl_302 hG) rfl (by omega) (by decide) ?_
          rw [mI_55]
          refine gf_iinc (1) dX12_grows_89 rfl rfl (Nat.le_of_ble_eq_true rfl) ?_
          refine gf_goto 2 dX12_grows_92 rfl ?_
          rw [show mgrB z jz = up2 (up2 (up2 z 56 jz (z 56 jz + 1)) 53 jz 2) 55 jz 0 from (if_pos zc17).trans ((if_neg hfu).trans (by rw [show mgrF z jz = z from if_neg h9]))] at ih1
          exact gf_lw ih1 ⟨rfl, lvE (nI_1 jz), trivial⟩
        · have hfu : z 56 jz + 1 < fuW (z 31) jz := by rw [show fuW (z 31) jz = (gf_sc 3).getD kw 0 from (by unfold fuW; rw [hkw, nI_clamp (by omega)])]; have w9 := zc69; rw [fa_le] at w9; rw [fa_lt]; omega
          refine gf_goto 89 dX12_grows_72 rfl ?_
          refine gf_iinc (1) dX12_grows_89 rfl rfl (Nat.le_of_ble_eq_true rfl) ?_
          refine gf_goto 2 dX12_grows_92 rfl ?_
          rw [show mgrB z jz = up2 z 56 jz (z 56 jz + 1) from (if_pos zc17).trans ((if_pos hfu).trans (by rw [show mgrF z jz = z from if_neg h9]))] at ih1
          exact gf_lw ih1 ⟨rfl, lvE (nI_1 jz), trivial⟩
      · have h9 : z 55 jz < 9 := by have w9 := zc31; rw [fa_le] at w9; rw [fa_lt]; omega
        refine gf_aload_n 0 dX12_grows_34 rfl rfl ?_
        refine gf_getR flX12_189 rfl dX12_grows_35 (gt_247 hG) (gp_247_77 hG) ?_
        refine gf_iload_n 1 dX12_grows_38 rfl rfl ?_
        refine gf_dup2 dX12_grows_39 rfl rfl ?_
        refine gf_iald 120 dX12_grows_40 (gt_302 hG) (gl_302 hG) rfl (by omega) (by decide) ?_
        rw [show hp_i (hm h z N) 302 jz = z 55 jz from rfl]
        refine gf_iconst (1) dX12_grows_41 rfl ?_
        refine gf_iadd dX12_grows_42 ?_
        refine gf_iast 120 dX12_grows_43 (gt_302 hG) (gl_302 hG) rfl (by omega) (by decide) ?_
        rw [mI_55]
        refine gf_aload_n 0 dX12_grows_44 rfl rfl ?_
        refine gf_getR flX12_192 rfl dX12_grows_45 (gt_247 hG) (gp_247_78 hG) ?_
        refine gf_iload_n 1 dX12_grows_48 rfl rfl ?_
        refine gf_dup2 dX12_grows_49 rfl rfl ?_
        refine gf_iald 120 dX12_grows_50 (gt_303 hG) (gl_303 hG) rfl (by omega) (by decide) ?_
        rw [show hp_i (hm h (up2 z 55 jz (z 55 jz + 1)) N) 303 jz = z 56 jz from rfl]
        refine gf_iconst (1) dX12_grows_51 rfl ?_
        refine gf_iadd dX12_grows_52 ?_
        refine gf_iast 120 dX12_grows_53 (gt_303 hG) (gl_303 hG) rfl (by omega) (by decide) ?_
        rw [mI_56]
        refine gf_aload_n 0 dX12_grows_54 rfl rfl ?_
        refine gf_getR flX12_192 rfl dX12_grows_55 (gt_247 hG) (gp_247_78 hG) ?_
        refine gf_iload_n 1 dX12_grows_58 rfl rfl ?_
        refine gf_iald 120 dX12_grows_59 (gt_303 hG) (gl_303 hG) rfl (by omega) (by decide) ?_
        rw [show hp_i (hm h (up2 (up2 z 55 jz (z 55 jz + 1)) 56 jz (z 56 jz + 1)) N) 303 jz = z 56 jz + 1 from up2_s (up2 z 55 jz (z 55 jz + 1)) 56 jz _]
        refine gf_aload_n 0 dX12_grows_60 rfl rfl ?_
        refine gf_getR flX12_112 rfl dX12_grows_61 (gt_247 hG) (gp_247_44 hG) ?_
        refine gf_iload_n 1 dX12_grows_64 rfl rfl ?_
        refine gf_iald 120 dX12_grows_65 (gt_278 hG) (gl_278 hG) rfl (by omega) (by decide) ?_
        rw [show hp_i (hm h (up2 (up2 z 55 jz (z 55 jz + 1)) 56 jz (z 56 jz + 1)) N) 278 jz = nI kw from hkw]
        refine gf_callS cmX12_fuel lkX12_577 stX12_fuel dX12_grows_66 (d1 := d - 1) (by omega) (e_X12_fuel E (by omega) hk4 _) rfl rfl (Nat.le_of_ble_eq_true rfl) ?_
        refine gf_icmp_ge 75 dX12_grows_69 rfl (fun zc69 => ?_) (fun zc69 => ?_)
        · have hfu : ¬ z 56 jz + 1 < fuW (z 31) jz := fun q => by rw [show fuW (z 31) jz = (gf_sc 3).getD kw 0 from (by unfold fuW; rw [hkw, nI_clamp (by omega)])] at q; have w9 := zc69; rw [fa_le] at w9; rw [fa_lt] at q; omega
          refine gf_aload_n 0 dX12_grows_75 rfl rfl ?_
          refine gf_getR flX12_183 rfl dX12_grows_76 (gt_247 hG) (gp_247_75 hG) ?_
          refine gf_iload_n 1 dX12_grows_79 rfl rfl ?_
          refine gf_iconst (2) dX12_grows_80 rfl ?_
          refine gf_iast 120 dX12_grows_81 (gt_300 hG) (gl_300 hG) rfl (by omega) (by decide) ?_
          rw [mI_53]
          refine gf_aload_n 0 dX12_grows_82 rfl rfl ?_
          refine gf_getR flX12_189 rfl dX12_grows_83 (gt_247 hG) (gp_247_77 hG) ?_
          refine gf_iload_n 1 dX12_grows_86 rfl rfl ?_
          refine gf_iconst (0) dX12_grows_87 rfl ?_
          refine gf_iast 120 dX12_grows_88 (gt_302 hG) (gl_302 hG) rfl (by omega) (by decide) ?_
          rw [mI_55]
          refine gf_iinc (1) dX12_grows_89 rfl rfl (Nat.le_of_ble_eq_true rfl) ?_
          refine gf_goto 2 dX12_grows_92 rfl ?_
          rw [show mgrB z jz = up2 (up2 (up2 (up2 z 55 jz (z 55 jz + 1)) 56 jz (z 56 jz + 1)) 53 jz 2) 55 jz 0 from (if_pos zc17).trans ((if_neg hfu).trans (by rw [show mgrF z jz = (up2 z 55 jz (z 55 jz + 1)) from if_pos h9]))] at ih1
          exact gf_lw ih1 ⟨rfl, lvE (nI_1 jz), trivial⟩
        · have hfu : z 56 jz + 1 < fuW (z 31) jz := by rw [show fuW (z 31) jz = (gf_sc 3).getD kw 0 from (by unfold fuW; rw [hkw, nI_clamp (by omega)])]; have w9 := zc69; rw [fa_le] at w9; rw [fa_lt]; omega
          refine gf_goto 89 dX12_grows_72 rfl ?_
          refine gf_iinc (1) dX12_grows_89 rfl rfl (Nat.le_of_ble_eq_true rfl) ?_
          refine gf_goto 2 dX12_grows_92 rfl ?_
          rw [show mgrB z jz = up2 (up2 z 55 jz (z 55 jz + 1)) 56 jz (z 56 jz + 1) from (if_pos zc17).trans ((if_pos hfu).trans (by rw [show mgrF z jz = (up2 z 55 jz (z 55 jz + 1)) from if_pos h9]))] at ih1
          exact gf_lw ih1 ⟨rfl, lvE (nI_1 jz), trivial⟩
    · refine gf_goto 89 dX12_grows_20 rfl ?_
      refine gf_iinc (1) dX12_grows_89 rfl rfl (Nat.le_of_ble_eq_true rfl) ?_
      refine gf_goto 2 dX12_grows_92 rfl ?_
      rw [show mgrB z jz = z from if_neg zc17] at ih1
      exact gf_lw ih1 ⟨rfl, lvE (nI_1 jz), trivial⟩
theorem e_X12_grows (E : gE) {d : Nat} (hd : 2 ≤ d) {w g : Nat} (h : hp_T) (hG : gr h) (M : mM) (N : mN) (C : mcty M w g) (hwl : ∀ c, c < 120 → ∃ k, k < 4 ∧ M 31 c = nI k) : ev E mX12_grows d [.ref (E.1 + 247)] (hm h M N) none (hm h (itN mgrB M (w * g)) N) := by
  refine ev_of rfl (fun q => absurd q (by decide)) (Nat.le_of_ble_eq_true rfl) ?_
  refine gf_iconst (0) dX12_grows_0 rfl ?_
  refine gf_istore_n 1 dX12_grows_1 rfl (Nat.le_of_ble_eq_true rfl) ?_
  exact gf_lw (l_X12_grows E hd h hG M N C hwl (w * g) 0 (by omega)) ⟨rfl, rfl, trivial⟩
/-- water on the cell c by the engine e at the minute t -/
def mpoA (M : mM) (e : Nat) (t : Int32) : mM := if M 62 e = -1 then up2 M 62 e t else M
def mpoV (M : mM) (w g e c : Nat) : Int32 := if anyb (plN (M 35) w c) (w * g) = true then M 44 e else M 44 e / 2
def mpoX (M : mM) (w g e c : Nat) (t : Int32) : mM := if 0 < M 55 c - mpoV M w g e c then up2 (mpoA M e t) 55 c (M 55 c - mpoV M w g e c) else up2 (up2 (up2 (up2 (mpoA M e t) 55 c (M 55 c - mpoV M w g e c)) 53 c 0) 55 c 0) 54 c 0
theorem e_X12_pours (E : gE) {d : Nat} (hd : 3 ≤ d) {w g e c : Nat} (t : Int32) (h : hp_T) (hG : gr h) (M : mM) (N : mN) (C : mcty M w g) (he : e < 12) (hc : c < w * g) (hx : M 61 e = nI c) : ev E mX12_pours d [.ref (E.1 + 247), .int (nI e), .int t] (hm h M N) (none) (hm h (mpoX M w g e c t) N) := by
  obtain ⟨w1, w2, g1, g2⟩ := C.1
  have hn : w * g ≤ 120 := Nat.le_trans (Nat.mul_le_mul w2 g2) (by decide)
  refine ev_of rfl (fun q => absurd q (by decide)) (Nat.le_of_ble_eq_true rfl) ?_
  refine gf_aload_n 0 dX12_pours_0 rfl rfl ?_
  refine gf_getR flX12_207 rfl dX12_pours_1 (gt_247 hG) (gp_247_83 hG) ?_
  refine gf_iload_n 1 dX12_pours_4 rfl rfl ?_
  refine gf_iald 12 dX12_pours_5 (gt_308 hG) (gl_308 hG) rfl (by omega) (by decide) ?_
  rw [show hp_i (hm h M N) 308 e = nI c from hx]
  refine gf_istore_n 3 dX12_pours_6 rfl (Nat.le_of_ble_eq_true rfl) ?_
  refine gf_aload_n 0 dX12_pours_7 rfl rfl ?_
  refine gf_getR flX12_210 rfl dX12_pours_8 (gt_247 hG) (gp_247_84 hG) ?_
  refine gf_iload_n 1 dX12_pours_11 rfl rfl ?_
  refine gf_iald 12 dX12_pours_12 (gt_309 hG) (gl_309 hG) rfl (by omega) (by decide) ?_
  rw [show hp_i (hm h M N) 309 e = M 62 e from rfl]
  refine gf_iconst (-1) dX12_pours_13 rfl ?_
  refine gf_icmp_ne 24 dX12_pours_14 rfl (fun zc14 => ?_) (fun zc14 => ?_)
  · refine gf_aload_n 0 dX12_pours_24 rfl rfl ?_
    refine gf_getR flX12_189 rfl dX12_pours_25 (gt_247 hG) (gp_247_77 hG) ?_
    refine gf_iload_n 3 dX12_pours_28 rfl rfl ?_
    refine gf_dup2 dX12_pours_29 rfl rfl ?_
    refine gf_iald 120 dX12_pours_30 (gt_302 hG) (gl_302 hG) rfl (by omega) (by decide) ?_
    rw [show hp_i (hm h M N) 302 c = M 55 c from rfl]
    refine gf_aload_n 0 dX12_pours_31 rfl rfl ?_
    refine gf_iload_n 3 dX12_pours_32 rfl rfl ?_
    refine gf_callV cmX12_hasPlugNear lkX12_592 imX12_hasPlugNear seX12_hasPlugNear ⟨rfl, by decide⟩ dX12_pours_33 (d1 := d - 1) (by omega) (gt_247 hG) (e_X12_hasPlugNear E (by omega) h hG M N (w := w) (g := g) C hc) rfl rfl (Nat.le_of_ble_eq_true rfl) ?_
    rw [show anyb (plN (M 35) w c) (w * g) = anyb (plN (M 35) w c) (w * g) from rfl]
    refine gf_if_eq 48 dX12_pours_36 rfl (fun zc36 => ?_) (fun zc36 => ?_)
    · refine gf_aload_n 0 dX12_pours_48 rfl rfl ?_
      refine gf_getR flX12_152 rfl dX12_pours_49 (gt_247 hG) (gp_247_58 hG) ?_
      refine gf_iload_n 1 dX12_pours_52 rfl rfl ?_
      refine gf_iald 12 dX12_pours_53 (gt_291 hG) (gl_291 hG) rfl (by omega) (by decide) ?_
      rw [show hp_i (hm h M N) 291 e = M 44 e from rfl]
      refine gf_iconst (2) dX12_pours_54 rfl ?_
      refine gf_idiv dX12_pours_55 (by decide) ?_
      refine gf_isub dX12_pours_56 ?_
      refine gf_iast 120 dX12_pours_57 (gt_302 hG) (gl_302 hG) rfl (by omega) (by decide) ?_
      rw [mI_55]
      refine gf_aload_n 0 dX12_pours_58 rfl rfl ?_
      refine gf_getR flX12_189 rfl dX12_pours_59 (gt_247 hG) (gp_247_77 hG) ?_
      refine gf_iload_n 3 dX12_pours_62 rfl rfl ?_
      refine gf_iald 120 dX12_pours_63 (gt_302 hG) (gl_302 hG) rfl (by omega) (by decide) ?_
      rw [show hp_i (hm h (up2 M 55 c (M 55 c - (M 44 e / 2))) N) 302 c = M 55 c - (M 44 e / 2) from up2_s M 55 c _]
      refine gf_if_le 68 dX12_pours_64 rfl (fun zc64 => ?_) (fun zc64 => ?_)
      · have hp0 : ¬ 0 < M 55 c - mpoV M w g e c := fun q => by first | (rw [show mpoV M w g e c = M 44 e from if_pos (bI_t zc36)] at q; have w9 := zc64; rw [fa_le] at w9; rw [fa_lt] at q; omega) | (rw [show mpoV M w g e c = M 44 e / 2 from if_neg (by rw [bI_f zc36]; decide)] at q; have w9 := zc64; rw [fa_le] at w9; rw [fa_lt] at q; omega)
        refine gf_aload_n 0 dX12_pours_68 rfl rfl ?_
        refine gf_getR flX12_183 rfl dX12_pours_69 (gt_247 hG) (gp_247_75 hG) ?_
        refine gf_iload_n 3 dX12_pours_72 rfl rfl ?_
        refine gf_iconst (0) dX12_pours_73 rfl ?_
        refine gf_iast 120 dX12_pours_74 (gt_300 hG) (gl_300 hG) rfl (by omega) (by decide) ?_
        rw [mI_53]
        refine gf_aload_n 0 dX12_pours_75 rfl rfl ?_
        refine gf_getR flX12_189 rfl dX12_pours_76 (gt_247 hG) (gp_247_77 hG) ?_
        refine gf_iload_n 3 dX12_pours_79 rfl rfl ?_
        refine gf_iconst (0) dX12_pours_80 rfl ?_
        refine gf_iast 120 dX12_pours_81 (gt_302 hG) (gl_302 hG) rfl (by omega) (by decide) ?_
        rw [mI_55]
        refine gf_aload_n 0 dX12_pours_82 rfl rfl ?_
        refine gf_getR flX12_186 rfl dX12_pours_83 (gt_247 hG) (gp_247_76 hG) ?_
        refine gf_iload_n 3 dX12_pours_86 rfl rfl ?_
        refine gf_iconst (0) dX12_pours_87 rfl ?_
        refine gf_iast 120 dX12_pours_88 (gt_301 hG) (gl_301 hG) rfl (by omega) (by decide) ?_
        rw [mI_54]
        exact gf_vretE dX12_pours_89 rfl (by rw [show mpoX M w g e c t = _ from if_neg hp0, show mpoA M e t = M from if_neg zc14, show mpoV M w g e c = (M 44 e / 2) from if_neg (by rw [bI_f zc36]; decide)])
      · have hp0 : 0 < M 55 c - mpoV M w g e c := by first | (rw [show mpoV M w g e c = M 44 e from if_pos (bI_t zc36)]; have w9 := zc64; rw [fa_le] at w9; rw [fa_lt]; omega) | (rw [show mpoV M w g e c = M 44 e / 2 from if_neg (by rw [bI_f zc36]; decide)]; have w9 := zc64; rw [fa_le] at w9; rw [fa_lt]; omega)
        exact gf_vretE dX12_pours_67 rfl (by rw [show mpoX M w g e c t = _ from if_pos hp0, show mpoA M e t = M from if_neg zc14, show mpoV M w g e c = (M 44 e / 2) from if_neg (by rw [bI_f zc36]; decide)])
    · refine gf_aload_n 0 dX12_pours_39 rfl rfl ?_
      refine gf_getR flX12_152 rfl dX12_pours_40 (gt_247 hG) (gp_247_58 hG) ?_
      refine gf_iload_n 1 dX12_pours_43 rfl rfl ?_
      refine gf_iald 12 dX12_pours_44 (gt_291 hG) (gl_291 hG) rfl (by omega) (by decide) ?_
      rw [show hp_i (hm h M N) 291 e = M 44 e from rfl]
      refine gf_goto 56 dX12_pours_45 rfl ?_
      refine gf_isub dX12_pours_56 ?_
      refine gf_iast 120 dX12_pours_57 (gt_302 hG) (gl_302 hG) rfl (by omega) (by decide) ?_
      rw [mI_55]
      refine gf_aload_n 0 dX12_pours_58 rfl rfl ?_
      refine gf_getR flX12_189 rfl dX12_pours_59 (gt_247 hG) (gp_247_77 hG) ?_
      refine gf_iload_n 3 dX12_pours_62 rfl rfl ?_
      refine gf_iald 120 dX12_pours_63 (gt_302 hG) (gl_302 hG) rfl (by omega) (by decide) ?_
      rw [show hp_i (hm h (up2 M 55 c (M 55 c - (M 44 e))) N) 302 c = M 55 c - (M 44 e) from up2_s M 55 c _]
      refine gf_if_le 68 dX12_pours_64 rfl (fun zc64 => ?_) (fun zc64 => ?_)
      · have hp0 : ¬ 0 < M 55 c - mpoV M w g e c := fun q => by first | (rw [show mpoV M w g e c = M 44 e from if_pos (bI_t zc36)] at q; have w9 := zc64; rw [fa_le] at w9; rw [fa_lt] at q; omega) | (rw [show mpoV M w g e c = M 44 e / 2 from if_neg (by rw [bI_f zc36]; decide)] at q; have w9 := zc64; rw [fa_le] at w9; rw [fa_lt] at q; omega)
        refine gf_aload_n 0 dX12_pours_68 rfl rfl ?_
        refine gf_getR flX12_183 rfl dX12_pours_69 (gt_247 hG) (gp_247_75 hG) ?_
        refine gf_iload_n 3 dX12_pours_72 rfl rfl ?_
        refine gf_iconst (0) dX12_pours_73 rfl ?_
        refine gf_iast 120 dX12_pours_74 (gt_300 hG) (gl_300 hG) rfl (by omega) (by decide) ?_
        rw [mI_53]
        refine gf_aload_n 0 dX12_pours_75 rfl rfl ?_
        refine gf_getR flX12_189 rfl dX12_pours_76 (gt_247 hG) (gp_247_77 hG) ?_
        refine gf_iload_n 3 dX12_pours_79 rfl rfl ?_
        refine gf_iconst (0) dX12_pours_80 rfl ?_
        refine gf_iast 120 dX12_pours_81 (gt_302 hG) (gl_302 hG) rfl (by omega) (by decide) ?_
        rw [mI_55]
        refine gf_aload_n 0 dX12_pours_82 rfl rfl ?_
        refine gf_getR flX12_186 rfl dX12_pours_83 (gt_247 hG) (gp_247_76 hG) ?_
        refine gf_iload_n 3 dX12_pours_86 rfl rfl ?_
        refine gf_iconst (0) dX12_pours_87 rfl ?_
        refine gf_iast 120 dX12_pours_88 (gt_301 hG) (gl_301 hG) rfl (by omega) (by decide) ?_
        rw [mI_54]
        exact gf_vretE dX12_pours_89 rfl (by rw [show mpoX M w g e c t = _ from if_neg hp0, show mpoA M e t = M from if_neg zc14, show mpoV M w g e c = (M 44 e) from if_pos (bI_t zc36)])
      · have hp0 : 0 < M 55 c - mpoV M w g e c := by first | (rw [show mpoV M w g e c = M 44 e from if_pos (bI_t zc36)]; have w9 := zc64; rw [fa_le] at w9; rw [fa_lt]; omega) | (rw [show mpoV M w g e c = M 44 e / 2 from if_neg (by rw [bI_f zc36]; decide)]; have w9 := zc64; rw [fa_le] at w9; rw [fa_lt]; omega)
        exact gf_vretE dX12_pours_67 rfl (by rw [show mpoX M w g e c t = _ from if_pos hp0, show mpoA M e t = M from if_neg zc14, show mpoV M w g e c = (M 44 e) from if_pos (bI_t zc36)])
  · refine gf_aload_n 0 dX12_pours_17 rfl rfl ?_
    refine gf_getR flX12_210 rfl dX12_pours_18 (gt_247 hG) (gp_247_84 hG) ?_
    refine gf_iload_n 1 dX12_pours_21 rfl rfl ?_
    refine gf_iload_n 2 dX12_pours_22 rfl rfl ?_
    refine gf_iast 12 dX12_pours_23 (gt_309 hG) (gl_309 hG) rfl (by omega) (by decide) ?_
    rw [mI_62]
    refine gf_aload_n 0 dX12_pours_24 rfl rfl ?_
    refine gf_getR flX12_189 rfl dX12_pours_25 (gt_247 hG) (gp_247_77 hG) ?_
    refine gf_iload_n 3 dX12_pours_28 rfl rfl ?_
    refine gf_dup2 dX12_pours_29 rfl rfl ?_
    refine gf_iald 120 dX12_pours_30 (gt_302 hG) (gl_302 hG) rfl (by omega) (by decide) ?_
    rw [show hp_i (hm h (up2 M 62 e t) N) 302 c = M 55 c from rfl]
    refine gf_aload_n 0 dX12_pours_31 rfl rfl ?_
    refine gf_iload_n 3 dX12_pours_32 rfl rfl ?_
    refine gf_callV cmX12_hasPlugNear lkX12_592 imX12_hasPlugNear seX12_hasPlugNear ⟨rfl, by decide⟩ dX12_pours_33 (d1 := d - 1) (by omega) (gt_247 hG) (e_X12_hasPlugNear E (by omega) h hG (up2 M 62 e t) N (w := w) (g := g) C hc) rfl rfl (Nat.le_of_ble_eq_true rfl) ?_
    rw [show anyb (plN ((up2 M 62 e t) 35) w c) (w * g) = anyb (plN (M 35) w c) (w * g) from rfl]
    refine gf_if_eq 48 dX12_pours_36 rfl (fun zc36 => ?_) (fun zc36 => ?_)
    · refine gf_aload_n 0 dX12_pours_48 rfl rfl ?_
      refine gf_getR flX12_152 rfl dX12_pours_49 (gt_247 hG) (gp_247_58 hG) ?_
      refine gf_iload_n 1 dX12_pours_52 rfl rfl ?_
      refine gf_iald 12 dX12_pours_53 (gt_291 hG) (gl_291 hG) rfl (by omega) (by decide) ?_
      rw [show hp_i (hm h (up2 M 62 e t) N) 291 e = M 44 e from rfl]
      refine gf_iconst (2) dX12_pours_54 rfl ?_
      refine gf_idiv dX12_pours_55 (by decide) ?_
      refine gf_isub dX12_pours_56 ?_
      refine gf_iast 120 dX12_pours_57 (gt_302 hG) (gl_302 hG) rfl (by omega) (by decide) ?_
      rw [mI_55]
      refine gf_aload_n 0 dX12_pours_58 rfl rfl ?_
      refine gf_getR flX12_189 rfl dX12_pours_59 (gt_247 hG) (gp_247_77 hG) ?_
      refine gf_iload_n 3 dX12_pours_62 rfl rfl ?_
      refine gf_iald 120 dX12_pours_63 (gt_302 hG) (gl_302 hG) rfl (by omega) (by decide) ?_
      rw [show hp_i (hm h (up2 (up2 M 62 e t) 55 c (M 55 c - (M 44 e / 2))) N) 302 c = M 55 c - (M 44 e / 2) from up2_s (up2 M 62 e t) 55 c _]
      refine gf_if_le 68 dX12_pours_64 rfl (fun zc64 => ?_) (fun zc64 => ?_)
      · have hp0 : ¬ 0 < M 55 c - mpoV M w g e c := fun q => by first | (rw [show mpoV M w g e c = M 44 e from if_pos (bI_t zc36)] at q; have w9 := zc64; rw [fa_le] at w9; rw [fa_lt] at q; omega) | (rw [show mpoV M w g e c = M 44 e / 2 from if_neg (by rw [bI_f zc36]; decide)] at q; have w9 := zc64; rw [fa_le] at w9; rw [fa_lt] at q; omega)
        refine gf_aload_n 0 dX12_pours_68 rfl rfl ?_
        refine gf_getR flX12_183 rfl dX12_pours_69 (gt_247 hG) (gp_247_75 hG) ?_
        refine gf_iload_n 3 dX12_pours_72 rfl rfl ?_
        refine gf_iconst (0) dX12_pours_73 rfl ?_
        refine gf_iast 120 dX12_pours_74 (gt_300 hG) (gl_300 hG) rfl (by omega) (by decide) ?_
        rw [mI_53]
        refine gf_aload_n 0 dX12_pours_75 rfl rfl ?_
        refine gf_getR flX12_189 rfl dX12_pours_76 (gt_247 hG) (gp_247_77 hG) ?_
        refine gf_iload_n 3 dX12_pours_79 rfl rfl ?_
        refine gf_iconst (0) dX12_pours_80 rfl ?_
        refine gf_iast 120 dX12_pours_81 (gt_302 hG) (gl_302 hG) rfl (by omega) (by decide) ?_
        rw [mI_55]
        refine gf_aload_n 0 dX12_pours_82 rfl rfl ?_
        refine gf_getR flX12_186 rfl dX12_pours_83 (gt_247 hG) (gp_247_76 hG) ?_
        refine gf_iload_n 3 dX12_pours_86 rfl rfl ?_
        refine gf_iconst (0) dX12_pours_87 rfl ?_
        refine gf_iast 120 dX12_pours_88 (gt_301 hG) (gl_301 hG) rfl (by omega) (by decide) ?_
        rw [mI_54]
        exact gf_vretE dX12_pours_89 rfl (by rw [show mpoX M w g e c t = _ from if_neg hp0, show mpoA M e t = (up2 M 62 e t) from if_pos zc14, show mpoV M w g e c = (M 44 e / 2) from if_neg (by rw [bI_f zc36]; decide)])
      · have hp0 : 0 < M 55 c - mpoV M w g e c := by first | (rw [show mpoV M w g e c = M 44 e from if_pos (bI_t zc36)]; have w9 := zc64; rw [fa_le] at w9; rw [fa_lt]; omega) | (rw [show mpoV M w g e c = M 44 e / 2 from if_neg (by rw [bI_f zc36]; decide)]; have w9 := zc64; rw [fa_le] at w9; rw [fa_lt]; omega)
        exact gf_vretE dX12_pours_67 rfl (by rw [show mpoX M w g e c t = _ from if_pos hp0, show mpoA M e t = (up2 M 62 e t) from if_pos zc14, show mpoV M w g e c = (M 44 e / 2) from if_neg (by rw [bI_f zc36]; decide)])
    · refine gf_aload_n 0 dX12_pours_39 rfl rfl ?_
      refine gf_getR flX12_152 rfl dX12_pours_40 (gt_247 hG) (gp_247_58 hG) ?_
      refine gf_iload_n 1 dX12_pours_43 rfl rfl ?_
      refine gf_iald 12 dX12_pours_44 (gt_291 hG) (gl_291 hG) rfl (by omega) (by decide) ?_
      rw [show hp_i (hm h (up2 M 62 e t) N) 291 e = M 44 e from rfl]
      refine gf_goto 56 dX12_pours_45 rfl ?_
      refine gf_isub dX12_pours_56 ?_
      refine gf_iast 120 dX12_pours_57 (gt_302 hG) (gl_302 hG) rfl (by omega) (by decide) ?_
      rw [mI_55]
      refine gf_aload_n 0 dX12_pours_58 rfl rfl ?_
      refine gf_getR flX12_189 rfl dX12_pours_59 (gt_247 hG) (gp_247_77 hG) ?_
      refine gf_iload_n 3 dX12_pours_62 rfl rfl ?_
      refine gf_iald 120 dX12_pours_63 (gt_302 hG) (gl_302 hG) rfl (by omega) (by decide) ?_
      rw [show hp_i (hm h (up2 (up2 M 62 e t) 55 c (M 55 c - (M 44 e))) N) 302 c = M 55 c - (M 44 e) from up2_s (up2 M 62 e t) 55 c _]
      refine gf_if_le 68 dX12_pours_64 rfl (fun zc64 => ?_) (fun zc64 => ?_)
      · have hp0 : ¬ 0 < M 55 c - mpoV M w g e c := fun q => by first | (rw [show mpoV M w g e c = M 44 e from if_pos (bI_t zc36)] at q; have w9 := zc64; rw [fa_le] at w9; rw [fa_lt] at q; omega) | (rw [show mpoV M w g e c = M 44 e / 2 from if_neg (by rw [bI_f zc36]; decide)] at q; have w9 := zc64; rw [fa_le] at w9; rw [fa_lt] at q; omega)
        refine gf_aload_n 0 dX12_pours_68 rfl rfl ?_
        refine gf_getR flX12_183 rfl dX12_pours_69 (gt_247 hG) (gp_247_75 hG) ?_
        refine gf_iload_n 3 dX12_pours_72 rfl rfl ?_
        refine gf_iconst (0) dX12_pours_73 rfl ?_
        refine gf_iast 120 dX12_pours_74 (gt_300 hG) (gl_300 hG) rfl (by omega) (by decide) ?_
        rw [mI_53]
        refine gf_aload_n 0 dX12_pours_75 rfl rfl ?_
        refine gf_getR flX12_189 rfl dX12_pours_76 (gt_247 hG) (gp_247_77 hG) ?_
        refine gf_iload_n 3 dX12_pours_79 rfl rfl ?_
        refine gf_iconst (0) dX12_pours_80 rfl ?_
        refine gf_iast 120 dX12_pours_81 (gt_302 hG) (gl_302 hG) rfl (by omega) (by decide) ?_
        rw [mI_55]
        refine gf_aload_n 0 dX12_pours_82 rfl rfl ?_
        refine gf_getR flX12_186 rfl dX12_pours_83 (gt_247 hG) (gp_247_76 hG) ?_
        refine gf_iload_n 3 dX12_pours_86 rfl rfl ?_
        refine gf_iconst (0) dX12_pours_87 rfl ?_
        refine gf_iast 120 dX12_pours_88 (gt_301 hG) (gl_301 hG) rfl (by omega) (by decide) ?_
        rw [mI_54]
        exact gf_vretE dX12_pours_89 rfl (by rw [show mpoX M w g e c t = _ from if_neg hp0, show mpoA M e t = (up2 M 62 e t) from if_pos zc14, show mpoV M w g e c = (M 44 e) from if_pos (bI_t zc36)])
      · have hp0 : 0 < M 55 c - mpoV M w g e c := by first | (rw [show mpoV M w g e c = M 44 e from if_pos (bI_t zc36)]; have w9 := zc64; rw [fa_le] at w9; rw [fa_lt]; omega) | (rw [show mpoV M w g e c = M 44 e / 2 from if_neg (by rw [bI_f zc36]; decide)]; have w9 := zc64; rw [fa_le] at w9; rw [fa_lt]; omega)
        exact gf_vretE dX12_pours_67 rfl (by rw [show mpoX M w g e c t = _ from if_pos hp0, show mpoA M e t = (up2 M 62 e t) from if_pos zc14, show mpoV M w g e c = (M 44 e) from if_pos (bI_t zc36)])
