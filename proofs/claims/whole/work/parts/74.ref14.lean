/-! ===== the reference's fire: an engine drives ===== -/
theorem e_apW (E : gE) {d : Nat} (hd : 1 ≤ d) {w g : Nat} {x y : Int32} (h : hp_T) (hG : gr h) (M : mM) (N : mN) (C : mcty M w g) (hx : ∃ a, a < w * g ∧ x = nI a) (hy : ∃ a, a < w * g ∧ y = nI a) : ev E mX12_apart d [.ref (E.1 + 247), .int x, .int y] (hm h M N) (some (.int (nI (apN w x.toNatClampNeg y.toNatClampNeg)))) (hm h M N) := by
  obtain ⟨a, ha, rfl⟩ := hx
  obtain ⟨b, hb, rfl⟩ := hy
  have hn : w * g ≤ 120 := Nat.le_trans (Nat.mul_le_mul C.1.2.1 C.1.2.2.2) (by decide)
  rw [nI_clamp (by omega), nI_clamp (by omega)]
  exact e_X12_apart E hd h hG M N C ha hb
theorem ax_ix {x : Int32} {n : Nat} (h : ∃ a, a < n ∧ x = nI a) (hn : n ≤ 120) : x = nI x.toNatClampNeg ∧ x.toNatClampNeg < n := by
  obtain ⟨a, ha, rfl⟩ := h
  rw [nI_clamp (by omega)]
  exact ⟨rfl, ha⟩
/-- from x towards y, k steps at most: the steps left, the place -/
def mgoX : Nat → Int32 → Int32 → Nat × Int32
  | 0, x, _ => (0, x)
  | k + 1, x, y => if x = y then (k + 1, x) else mgoX k (x + (if y ≤ x then -1 else 1)) y
theorem l_gox (E : gE) {d : Nat} {e : Nat} (t yy gx gy : Int32) (h : hp_T) {v : Option Value} {hz : hp_T} : ∀ (kz : Nat) (x : Int32), kz ≤ 9 → gf E mX12_drives d 239 [(0, .ref (E.1 + 247)), (1, .int (nI e)), (2, .int t), (3, .int (nI (mgoX kz x gx).1)), (4, .int (mgoX kz x gx).2), (5, .int yy), (6, .int gx), (7, .int gy)] [] h v hz → gf E mX12_drives d 205 [(0, .ref (E.1 + 247)), (1, .int (nI e)), (2, .int t), (3, .int (nI kz)), (4, .int x), (5, .int yy), (6, .int gx), (7, .int gy)] [] h v hz := by
  intro kz
  induction kz with
  | zero =>
    intro x _ K
    refine gf_iload_n 3 dX12_drives_205 rfl rfl ?_
    refine gf_if_le 239 dX12_drives_206 rfl (fun _ => ?_) (fun q => absurd (Int32.le_refl _) q)
    exact gf_lw K ⟨rfl, rfl, rfl, rfl, rfl, rfl, rfl, rfl, trivial⟩
  | succ kz ih =>
    intro x hk K
    refine gf_iload_n 3 dX12_drives_205 rfl rfl ?_
    refine gf_if_le 239 dX12_drives_206 rfl (fun q => absurd q (nI_nle (by omega) (by omega))) (fun _ => ?_)
    refine gf_iload dX12_drives_209 rfl ?_
    refine gf_iload dX12_drives_211 rfl ?_
    refine gf_icmp_eq 239 dX12_drives_213 rfl (fun zc213 => ?_) (fun zc213 => ?_)
    · rw [show mgoX (kz + 1) x gx = (kz + 1, x) from if_pos zc213] at K
      exact gf_lw K ⟨rfl, rfl, rfl, rfl, rfl, rfl, rfl, rfl, trivial⟩
    · refine gf_iload dX12_drives_216 rfl ?_
      refine gf_iload dX12_drives_218 rfl ?_
      refine gf_iload dX12_drives_220 rfl ?_
      refine gf_icmp_ge 229 dX12_drives_222 rfl (fun zc222 => ?_) (fun zc222 => ?_)
      · refine gf_iconst (-1) dX12_drives_229 rfl ?_
        refine gf_iadd dX12_drives_230 ?_
        refine gf_istore dX12_drives_231 (Nat.le_of_ble_eq_true rfl) ?_
        refine gf_iinc (-1) dX12_drives_233 rfl rfl (Nat.le_of_ble_eq_true rfl) ?_
        refine gf_goto 205 dX12_drives_236 rfl ?_
        rw [show mgoX (kz + 1) x gx = mgoX kz (x + (-1)) gx from (if_neg zc213).trans (by rw [if_pos zc222])] at K
        exact gf_lw (ih (x + (-1)) (by omega) K) ⟨rfl, rfl, rfl, lvE (pk_m1 kz), rfl, rfl, rfl, rfl, trivial⟩
      · refine gf_iconst (1) dX12_drives_225 rfl ?_
        refine gf_goto 230 dX12_drives_226 rfl ?_
        refine gf_iadd dX12_drives_230 ?_
        refine gf_istore dX12_drives_231 (Nat.le_of_ble_eq_true rfl) ?_
        refine gf_iinc (-1) dX12_drives_233 rfl rfl (Nat.le_of_ble_eq_true rfl) ?_
        refine gf_goto 205 dX12_drives_236 rfl ?_
        rw [show mgoX (kz + 1) x gx = mgoX kz (x + 1) gx from (if_neg zc213).trans (by rw [if_neg zc222])] at K
        exact gf_lw (ih (x + 1) (by omega) K) ⟨rfl, rfl, rfl, lvE (pk_m1 kz), rfl, rfl, rfl, rfl, trivial⟩
theorem l_goy (E : gE) {d : Nat} {e : Nat} (t x gx gy : Int32) (h : hp_T) {v : Option Value} {hz : hp_T} : ∀ (kz : Nat) (yy : Int32), kz ≤ 9 → gf E mX12_drives d 273 [(0, .ref (E.1 + 247)), (1, .int (nI e)), (2, .int t), (3, .int (nI (mgoX kz yy gy).1)), (4, .int x), (5, .int (mgoX kz yy gy).2), (6, .int gx), (7, .int gy)] [] h v hz → gf E mX12_drives d 239 [(0, .ref (E.1 + 247)), (1, .int (nI e)), (2, .int t), (3, .int (nI kz)), (4, .int x), (5, .int yy), (6, .int gx), (7, .int gy)] [] h v hz := by
  intro kz
  induction kz with
  | zero =>
    intro yy _ K
    refine gf_iload_n 3 dX12_drives_239 rfl rfl ?_
    refine gf_if_le 273 dX12_drives_240 rfl (fun _ => ?_) (fun q => absurd (Int32.le_refl _) q)
    exact gf_lw K ⟨rfl, rfl, rfl, rfl, rfl, rfl, rfl, rfl, trivial⟩
  | succ kz ih =>
    intro yy hk K
    refine gf_iload_n 3 dX12_drives_239 rfl rfl ?_
    refine gf_if_le 273 dX12_drives_240 rfl (fun q => absurd q (nI_nle (by omega) (by omega))) (fun _ => ?_)
    refine gf_iload dX12_drives_243 rfl ?_
    refine gf_iload dX12_drives_245 rfl ?_
    refine gf_icmp_eq 273 dX12_drives_247 rfl (fun zc247 => ?_) (fun zc247 => ?_)
    · rw [show mgoX (kz + 1) yy gy = (kz + 1, yy) from if_pos zc247] at K
      exact gf_lw K ⟨rfl, rfl, rfl, rfl, rfl, rfl, rfl, rfl, trivial⟩
    · refine gf_iload dX12_drives_250 rfl ?_
      refine gf_iload dX12_drives_252 rfl ?_
      refine gf_iload dX12_drives_254 rfl ?_
      refine gf_icmp_ge 263 dX12_drives_256 rfl (fun zc256 => ?_) (fun zc256 => ?_)
      · refine gf_iconst (-1) dX12_drives_263 rfl ?_
        refine gf_iadd dX12_drives_264 ?_
        refine gf_istore dX12_drives_265 (Nat.le_of_ble_eq_true rfl) ?_
        refine gf_iinc (-1) dX12_drives_267 rfl rfl (Nat.le_of_ble_eq_true rfl) ?_
        refine gf_goto 239 dX12_drives_270 rfl ?_
        rw [show mgoX (kz + 1) yy gy = mgoX kz (yy + (-1)) gy from (if_neg zc247).trans (by rw [if_pos zc256])] at K
        exact gf_lw (ih (yy + (-1)) (by omega) K) ⟨rfl, rfl, rfl, lvE (pk_m1 kz), rfl, rfl, rfl, rfl, trivial⟩
      · refine gf_iconst (1) dX12_drives_259 rfl ?_
        refine gf_goto 264 dX12_drives_260 rfl ?_
        refine gf_iadd dX12_drives_264 ?_
        refine gf_istore dX12_drives_265 (Nat.le_of_ble_eq_true rfl) ?_
        refine gf_iinc (-1) dX12_drives_267 rfl rfl (Nat.le_of_ble_eq_true rfl) ?_
        refine gf_goto 239 dX12_drives_270 rfl ?_
        rw [show mgoX (kz + 1) yy gy = mgoX kz (yy + 1) gy from (if_neg zc247).trans (by rw [if_neg zc256])] at K
        exact gf_lw (ih (yy + 1) (by omega) K) ⟨rfl, rfl, rfl, lvE (pk_m1 kz), rfl, rfl, rfl, rfl, trivial⟩
/-- the engine e drives on to its aim -/
def mdrX (M : mM) (e : Nat) : Nat × Int32 := mgoX (M 43 e).toNatClampNeg (M 60 e - M 60 e / M 0 42 * M 0 42) (M 61 e - M 61 e / M 0 42 * M 0 42)
def mdrY (M : mM) (e : Nat) : Nat × Int32 := mgoX (mdrX M e).1 (M 60 e / M 0 42) (M 61 e / M 0 42)
def mdrS (M : mM) (e : Nat) : Int32 := (mdrY M e).2 * M 0 42 + (mdrX M e).2
theorem mgo_le : ∀ (k : Nat) (x y : Int32), (mgoX k x y).1 ≤ k
  | 0, _, _ => Nat.le_refl _
  | k + 1, x, y => by
    unfold mgoX
    split
    · exact Nat.le_refl _
    · exact Nat.le_succ_of_le (mgo_le k _ y)
def mdr2 (w g e : Nat) (t : Int32) (M : mM) : mM := (if (M 61 e) = (-1) then M else (if ((up2 M 60 e (((mdrY M e).2 * (M 0 42)) + (mdrX M e).2)) 60 e) = ((up2 M 60 e (((mdrY M e).2 * (M 0 42)) + (mdrX M e).2)) 61 e) then (mpoX (up2 M 60 e (((mdrY M e).2 * (M 0 42)) + (mdrX M e).2)) w g e (M 61 e).toNatClampNeg t) else (up2 M 60 e (((mdrY M e).2 * (M 0 42)) + (mdrX M e).2))))
theorem l_drv2 (E : gE) {d : Nat} (hd : 4 ≤ d) {w g e : Nat} (t : Int32) (h : hp_T) (hG : gr h) (M : mM) (N : mN) (I : mfi M w g) (he : e < 12) (hg : ∃ q, q ≤ 9 ∧ M 43 e = nI q) (hA : aimOk (w * g) (M 61 e)) : gf E mX12_drives d 135 [(0, .ref (E.1 + 247)), (1, .int (nI e)), (2, .int t)] [] (hm h M N) none (hm h (mdr2 w g e t M) N) := by
  obtain ⟨w1, w2, g1, g2⟩ := I.1.1
  have hn : w * g ≤ 120 := Nat.le_trans (Nat.mul_le_mul w2 g2) (by decide)
  refine gf_aload_n 0 dX12_drives_135 rfl rfl ?_
  refine gf_getR flX12_207 rfl dX12_drives_136 (gt_247 hG) (gp_247_83 hG) ?_
  refine gf_iload_n 1 dX12_drives_139 rfl rfl ?_
  refine gf_iald 12 dX12_drives_140 (gt_308 hG) (gl_308 hG) rfl (by omega) (by decide) ?_
  refine gf_iconst (-1) dX12_drives_141 rfl ?_
  refine gf_icmp_ne 146 dX12_drives_142 rfl (fun zc142 => ?_) (fun zc142 => ?_)
  · have hai := ax_ix (hA.resolve_left zc142) hn
    refine gf_aload_n 0 dX12_drives_146 rfl rfl ?_
    refine gf_getR flX12_149 rfl dX12_drives_147 (gt_247 hG) (gp_247_57 hG) ?_
    refine gf_iload_n 1 dX12_drives_150 rfl rfl ?_
    refine gf_iald 12 dX12_drives_151 (gt_290 hG) (gl_290 hG) rfl (by omega) (by decide) ?_
    refine gf_istore_n 3 dX12_drives_152 rfl (Nat.le_of_ble_eq_true rfl) ?_
    have hgo : hp_i (hm h M N) 290 e = nI (M 43 e).toNatClampNeg := by show M 43 e = _; obtain ⟨q, hq, eq9⟩ := hg; rw [eq9, nI_clamp (by omega)]
    have hgo9 : (M 43 e).toNatClampNeg ≤ 9 := by obtain ⟨q, hq, eq9⟩ := hg; rw [eq9, nI_clamp (by omega)]; exact hq
    refine gf_aload_n 0 dX12_drives_153 rfl rfl ?_
    refine gf_getR flX12_204 rfl dX12_drives_154 (gt_247 hG) (gp_247_82 hG) ?_
    refine gf_iload_n 1 dX12_drives_157 rfl rfl ?_
    refine gf_iald 12 dX12_drives_158 (gt_307 hG) (gl_307 hG) rfl (by omega) (by decide) ?_
    refine gf_aload_n 0 dX12_drives_159 rfl rfl ?_
    refine gf_getI flX12_106 rfl dX12_drives_160 (gt_247 hG) ?_
    refine gf_irem dX12_drives_163 (by show ¬ M 0 42 = 0; rw [I.1.2.1]; exact nI_ne0 (by omega) (by omega)) ?_
    refine gf_istore dX12_drives_164 (Nat.le_of_ble_eq_true rfl) ?_
    refine gf_aload_n 0 dX12_drives_166 rfl rfl ?_
    refine gf_getR flX12_204 rfl dX12_drives_167 (gt_247 hG) (gp_247_82 hG) ?_
    refine gf_iload_n 1 dX12_drives_170 rfl rfl ?_
    refine gf_iald 12 dX12_drives_171 (gt_307 hG) (gl_307 hG) rfl (by omega) (by decide) ?_
    refine gf_aload_n 0 dX12_drives_172 rfl rfl ?_
    refine gf_getI flX12_106 rfl dX12_drives_173 (gt_247 hG) ?_
    refine gf_idiv dX12_drives_176 (by show ¬ M 0 42 = 0; rw [I.1.2.1]; exact nI_ne0 (by omega) (by omega)) ?_
    refine gf_istore dX12_drives_177 (Nat.le_of_ble_eq_true rfl) ?_
    refine gf_aload_n 0 dX12_drives_179 rfl rfl ?_
    refine gf_getR flX12_207 rfl dX12_drives_180 (gt_247 hG) (gp_247_83 hG) ?_
    refine gf_iload_n 1 dX12_drives_183 rfl rfl ?_
    refine gf_iald 12 dX12_drives_184 (gt_308 hG) (gl_308 hG) rfl (by omega) (by decide) ?_
    refine gf_aload_n 0 dX12_drives_185 rfl rfl ?_
    refine gf_getI flX12_106 rfl dX12_drives_186 (gt_247 hG) ?_
    refine gf_irem dX12_drives_189 (by show ¬ M 0 42 = 0; rw [I.1.2.1]; exact nI_ne0 (by omega) (by omega)) ?_
    refine gf_istore dX12_drives_190 (Nat.le_of_ble_eq_true rfl) ?_
    refine gf_aload_n 0 dX12_drives_192 rfl rfl ?_
    refine gf_getR flX12_207 rfl dX12_drives_193 (gt_247 hG) (gp_247_83 hG) ?_
    refine gf_iload_n 1 dX12_drives_196 rfl rfl ?_
    refine gf_iald 12 dX12_drives_197 (gt_308 hG) (gl_308 hG) rfl (by omega) (by decide) ?_
    refine gf_aload_n 0 dX12_drives_198 rfl rfl ?_
    refine gf_getI flX12_106 rfl dX12_drives_199 (gt_247 hG) ?_
    refine gf_idiv dX12_drives_202 (by show ¬ M 0 42 = 0; rw [I.1.2.1]; exact nI_ne0 (by omega) (by omega)) ?_
    refine gf_istore dX12_drives_203 (Nat.le_of_ble_eq_true rfl) ?_
    rw [hgo]
    refine gf_lw (l_gox E t _ _ _ (hm h M N) (M 43 e).toNatClampNeg _ hgo9 ?_) ⟨rfl, rfl, rfl, rfl, rfl, rfl, rfl, rfl, trivial⟩
    change gf _ _ _ _ _ _ _ _ _
    refine gf_lw (l_goy E t _ _ _ (hm h M N) (mdrX M e).1 _ (Nat.le_trans (mgo_le _ _ _) hgo9) ?_) ⟨rfl, rfl, rfl, rfl, rfl, rfl, rfl, rfl, trivial⟩
    refine gf_aload_n 0 dX12_drives_273 rfl rfl ?_
    refine gf_getR flX12_204 rfl dX12_drives_274 (gt_247 hG) (gp_247_82 hG) ?_
    refine gf_iload_n 1 dX12_drives_277 rfl rfl ?_
    refine gf_iload dX12_drives_278 rfl ?_
    refine gf_aload_n 0 dX12_drives_280 rfl rfl ?_
    refine gf_getI flX12_106 rfl dX12_drives_281 (gt_247 hG) ?_
    refine gf_imul dX12_drives_284 ?_
    refine gf_iload dX12_drives_285 rfl ?_
    refine gf_iadd dX12_drives_287 ?_
    refine gf_iast 12 dX12_drives_288 (gt_307 hG) (gl_307 hG) rfl (by omega) (by decide) ?_
    rw [mI_60]
    refine gf_aload_n 0 dX12_drives_289 rfl rfl ?_
    refine gf_getR flX12_204 rfl dX12_drives_290 (gt_247 hG) (gp_247_82 hG) ?_
    refine gf_iload_n 1 dX12_drives_293 rfl rfl ?_
    refine gf_iald 12 dX12_drives_294 (gt_307 hG) (gl_307 hG) rfl (by omega) (by decide) ?_
    refine gf_aload_n 0 dX12_drives_295 rfl rfl ?_
    refine gf_getR flX12_207 rfl dX12_drives_296 (gt_247 hG) (gp_247_83 hG) ?_
    refine gf_iload_n 1 dX12_drives_299 rfl rfl ?_
    refine gf_iald 12 dX12_drives_300 (gt_308 hG) (gl_308 hG) rfl (by omega) (by decide) ?_
    refine gf_icmp_ne 310 dX12_drives_301 rfl (fun zc301 => ?_) (fun zc301 => ?_)
    · exact gf_vretE dX12_drives_310 rfl (by rw [show mdr2 w g e t M = (up2 M 60 e (((mdrY M e).2 * (M 0 42)) + (mdrX M e).2)) from (if_neg zc142).trans (if_neg zc301)]; first | done | rfl)
    · refine gf_aload_n 0 dX12_drives_304 rfl rfl ?_
      refine gf_iload_n 1 dX12_drives_305 rfl rfl ?_
      refine gf_iload_n 2 dX12_drives_306 rfl rfl ?_
      refine gf_callV cmX12_pours lkX12_589 imX12_pours seX12_pours ⟨rfl, by decide⟩ dX12_drives_307 (d1 := d - 1) (by omega) (gt_247 hG) (e_X12_pours E (by omega) t h hG (up2 M 60 e (((mdrY M e).2 * (M 0 42)) + (mdrX M e).2)) N (w := w) (g := g) (e := e) (c := (M 61 e).toNatClampNeg) (show mcty M w g from I.1) he hai.2 (show M 61 e = nI (M 61 e).toNatClampNeg from hai.1)) rfl rfl (Nat.le_of_ble_eq_true rfl) ?_
      exact gf_vretE dX12_drives_310 rfl (by rw [show mdr2 w g e t M = (mpoX (up2 M 60 e (((mdrY M e).2 * (M 0 42)) + (mdrX M e).2)) w g e (M 61 e).toNatClampNeg t) from (if_neg zc142).trans (if_pos zc301)]; first | done | rfl)
  · exact gf_vretE dX12_drives_145 rfl (by rw [show mdr2 w g e t M = M from if_pos zc142]; first | done | rfl)
def mneB (w g e : Nat) (z : mM) (jz : Nat) : mM := (if (z 34 jz) = 0 then z else (if (z 53 jz) = 1 then (if (((z 59 jz) >>> ((z 41 e) &&& 31)) &&& 1) = 0 then z else (if (z 61 e) = (-1) then (up2 z 61 e (nI jz)) else (if (nI (apN w ((z 60 e)).toNatClampNeg ((z 61 e)).toNatClampNeg)) ≤ (nI (apN w ((z 60 e)).toNatClampNeg ((nI jz)).toNatClampNeg)) then z else (up2 z 61 e (nI jz))))) else z))
theorem mneB_row {w g e : Nat} (z : mM) (jz : Nat) {r : Nat} (h1 : r ≠ 61) : mneB w g e z jz r = z r := by
  unfold mneB
  repeat' split
  all_goals first | rfl | rw [up2_row h1]
theorem mneB_at {w g e : Nat} (z : mM) (jz : Nat) : mneB w g e z jz 61 e = z 61 e ∨ mneB w g e z jz 61 e = nI jz := by
  unfold mneB
  repeat' split
  all_goals first | exact Or.inl rfl | exact Or.inr (up2_s z 61 e _)
theorem mne_I {w g e n : Nat} {M : mM} (I : mfi M w g) (hs : ∃ a, a < w * g ∧ M 60 e = nI a) (hA : aimOk (w * g) (M 61 e)) (hn : n ≤ w * g) : ∀ j, j ≤ n → mfi (itN (mneB w g e) M j) w g ∧ (∃ a, a < w * g ∧ itN (mneB w g e) M j 60 e = nI a) ∧ aimOk (w * g) (itN (mneB w g e) M j 61 e) := by
  intro j hj
  have hr : ∀ {r : Nat}, r ≠ 61 → itN (mneB w g e) M j r = M r := fun h1 => itN_row (fun z j => mneB_row z j h1) M j
  refine ⟨mfi_of (hr (by decide)) (hr (by decide)) (hr (by decide)) I, by rw [hr (by decide)]; exact hs, ?_⟩
  clear hr
  induction j with
  | zero => exact hA
  | succ j ih =>
    rcases mneB_at (w := w) (g := g) (e := e) (itN (mneB w g e) M j) j with q | q
    · show aimOk _ (mneB w g e (itN (mneB w g e) M j) j 61 e)
      rw [q]
      exact ih (by omega)
    · show aimOk _ (mneB w g e (itN (mneB w g e) M j) j 61 e)
      rw [q]
      exact Or.inr ⟨j, by omega, rfl⟩
theorem l_mne (E : gE) {d : Nat} (hd : 2 ≤ d) {w g e : Nat} (t : Int32) (h : hp_T) (hG : gr h) (M : mM) (N : mN) (I : mfi M w g) (he : e < 12) (hs : ∃ a, a < w * g ∧ M 60 e = nI a) (hA : aimOk (w * g) (M 61 e)) {v : Option Value} {hz : hp_T} (K : gf E mX12_drives d 135 [(0, .ref (E.1 + 247)), (1, .int (nI e)), (2, .int t)] [] (hm h (itN (mneB w g e) M (w * g)) N) v hz) : ∀ (kz jz : Nat), jz + kz = (w * g) → gf E mX12_drives d 34 [(0, .ref (E.1 + 247)), (1, .int (nI e)), (2, .int t), (3, .int (nI jz))] [] (hm h (itN (mneB w g e) M jz) N) v hz := by
  obtain ⟨w1, w2, g1, g2⟩ := I.1.1
  have hn : w * g ≤ 120 := Nat.le_trans (Nat.mul_le_mul w2 g2) (by decide)
  intro kz
  induction kz with
  | zero =>
    intro jz hj
    have hj : (w * g) = jz := by omega
    subst hj
    have Iz := mne_I I hs hA (Nat.le_refl _) (w * g) (by omega)
    generalize ez : (itN (mneB w g e) M (w * g)) = z at K Iz ⊢
    refine gf_iload_n 3 dX12_drives_34 rfl rfl ?_
    refine gf_aload_n 0 dX12_drives_35 rfl rfl ?_
    refine gf_callV cmX12_cells lkX12_409 imX12_cells seX12_cells ⟨rfl, by decide⟩ dX12_drives_36 (d1 := d - 1) (by omega) (gt_247 hG) (e_X12_cells E (by omega) (hm h z N) hG) rfl rfl (Nat.le_of_ble_eq_true rfl) ?_
    rw [show hp_i (hm h z N) 247 42 * hp_i (hm h z N) 247 43 = nI (w * g) from cel_e (M := z) Iz.1.1]
    refine gf_icmp_ge 135 dX12_drives_39 rfl (fun _ => ?_) (fun q => absurd (nI_le (by omega) (by omega)) q)
    exact gf_lw K ⟨rfl, rfl, rfl, trivial⟩
  | succ kz ih =>
    intro jz hj
    have ih1 := ih (jz + 1) (by omega)
    have Iz := mne_I I hs hA (Nat.le_refl _) jz (by omega)
    rw [show (itN (mneB w g e) M (jz + 1)) = mneB w g e (itN (mneB w g e) M jz) jz from itN_s _ _ _] at ih1
    generalize (itN (mneB w g e) M jz) = z at ih1 Iz ⊢
    refine gf_iload_n 3 dX12_drives_34 rfl rfl ?_
    refine gf_aload_n 0 dX12_drives_35 rfl rfl ?_
    refine gf_callV cmX12_cells lkX12_409 imX12_cells seX12_cells ⟨rfl, by decide⟩ dX12_drives_36 (d1 := d - 1) (by omega) (gt_247 hG) (e_X12_cells E (by omega) (hm h z N) hG) rfl rfl (Nat.le_of_ble_eq_true rfl) ?_
    rw [show hp_i (hm h z N) 247 42 * hp_i (hm h z N) 247 43 = nI (w * g) from cel_e (M := z) Iz.1.1]
    refine gf_icmp_ge 135 dX12_drives_39 rfl (fun q => absurd q (nI_ge (by omega) (by omega))) (fun _ => ?_)
    refine gf_aload_n 0 dX12_drives_42 rfl rfl ?_
    refine gf_getR flX12_121 rfl dX12_drives_43 (gt_247 hG) (gp_247_47 hG) ?_
    refine gf_iload_n 3 dX12_drives_46 rfl rfl ?_
    refine gf_zald 120 dX12_drives_47 (gt_281 hG) (gl_281 hG) rfl (by omega) (by decide) ?_
    refine gf_if_eq 129 dX12_drives_48 rfl (fun zc48 => ?_) (fun zc48 => ?_)
    · refine gf_iinc (1) dX12_drives_129 rfl rfl (Nat.le_of_ble_eq_true rfl) ?_
      refine gf_goto 34 dX12_drives_132 rfl ?_
      rw [show mneB w g e z jz = z from if_pos zc48] at ih1
      exact gf_lw ih1 ⟨rfl, rfl, rfl, lvE (nI_1 jz), trivial⟩
    · refine gf_aload_n 0 dX12_drives_51 rfl rfl ?_
      refine gf_getR flX12_183 rfl dX12_drives_52 (gt_247 hG) (gp_247_75 hG) ?_
      refine gf_iload_n 3 dX12_drives_55 rfl rfl ?_
      refine gf_iald 120 dX12_drives_56 (gt_300 hG) (gl_300 hG) rfl (by omega) (by decide) ?_
      refine gf_iconst (1) dX12_drives_57 rfl ?_
      refine gf_icmp_ne 129 dX12_drives_58 rfl (fun zc58 => ?_) (fun zc58 => ?_)
      · refine gf_iinc (1) dX12_drives_129 rfl rfl (Nat.le_of_ble_eq_true rfl) ?_
        refine gf_goto 34 dX12_drives_132 rfl ?_
        rw [show mneB w g e z jz = z from (if_neg zc48).trans (if_neg zc58)] at ih1
        exact gf_lw ih1 ⟨rfl, rfl, rfl, lvE (nI_1 jz), trivial⟩
      · refine gf_aload_n 0 dX12_drives_61 rfl rfl ?_
        refine gf_getR flX12_201 rfl dX12_drives_62 (gt_247 hG) (gp_247_81 hG) ?_
        refine gf_iload_n 3 dX12_drives_65 rfl rfl ?_
        refine gf_iald 120 dX12_drives_66 (gt_306 hG) (gl_306 hG) rfl (by omega) (by decide) ?_
        refine gf_aload_n 0 dX12_drives_67 rfl rfl ?_
        refine gf_getR flX12_143 rfl dX12_drives_68 (gt_247 hG) (gp_247_55 hG) ?_
        refine gf_iload_n 1 dX12_drives_71 rfl rfl ?_
        refine gf_iald 12 dX12_drives_72 (gt_288 hG) (gl_288 hG) rfl (by omega) (by decide) ?_
        refine gf_ishr dX12_drives_73 ?_
        refine gf_iconst (1) dX12_drives_74 rfl ?_
        refine gf_iand dX12_drives_75 ?_
        refine gf_if_ne 82 dX12_drives_76 rfl (fun zc76 => ?_) (fun zc76 => ?_)
        · refine gf_aload_n 0 dX12_drives_82 rfl rfl ?_
          refine gf_getR flX12_207 rfl dX12_drives_83 (gt_247 hG) (gp_247_83 hG) ?_
          refine gf_iload_n 1 dX12_drives_86 rfl rfl ?_
          refine gf_iald 12 dX12_drives_87 (gt_308 hG) (gl_308 hG) rfl (by omega) (by decide) ?_
          refine gf_iconst (-1) dX12_drives_88 rfl ?_
          refine gf_icmp_eq 122 dX12_drives_89 rfl (fun zc89 => ?_) (fun zc89 => ?_)
          · refine gf_aload_n 0 dX12_drives_122 rfl rfl ?_
            refine gf_getR flX12_207 rfl dX12_drives_123 (gt_247 hG) (gp_247_83 hG) ?_
            refine gf_iload_n 1 dX12_drives_126 rfl rfl ?_
            refine gf_iload_n 3 dX12_drives_127 rfl rfl ?_
            refine gf_iast 12 dX12_drives_128 (gt_308 hG) (gl_308 hG) rfl (by omega) (by decide) ?_
            rw [mI_61]
            refine gf_iinc (1) dX12_drives_129 rfl rfl (Nat.le_of_ble_eq_true rfl) ?_
            refine gf_goto 34 dX12_drives_132 rfl ?_
            rw [show mneB w g e z jz = (up2 z 61 e (nI jz)) from (if_neg zc48).trans ((if_pos zc58).trans ((if_neg zc76).trans (if_pos zc89)))] at ih1
            exact gf_lw ih1 ⟨rfl, rfl, rfl, lvE (nI_1 jz), trivial⟩
          · refine gf_aload_n 0 dX12_drives_92 rfl rfl ?_
            refine gf_aload_n 0 dX12_drives_93 rfl rfl ?_
            refine gf_getR flX12_204 rfl dX12_drives_94 (gt_247 hG) (gp_247_82 hG) ?_
            refine gf_iload_n 1 dX12_drives_97 rfl rfl ?_
            refine gf_iald 12 dX12_drives_98 (gt_307 hG) (gl_307 hG) rfl (by omega) (by decide) ?_
            refine gf_iload_n 3 dX12_drives_99 rfl rfl ?_
            refine gf_callV cmX12_apart lkX12_586 imX12_apart seX12_apart ⟨rfl, by decide⟩ dX12_drives_100 (d1 := d - 1) (by omega) (gt_247 hG) (e_apW E (by omega) h hG z N Iz.1.1 Iz.2.1 ⟨jz, by omega, rfl⟩) rfl rfl (Nat.le_of_ble_eq_true rfl) ?_
            refine gf_aload_n 0 dX12_drives_103 rfl rfl ?_
            refine gf_aload_n 0 dX12_drives_104 rfl rfl ?_
            refine gf_getR flX12_204 rfl dX12_drives_105 (gt_247 hG) (gp_247_82 hG) ?_
            refine gf_iload_n 1 dX12_drives_108 rfl rfl ?_
            refine gf_iald 12 dX12_drives_109 (gt_307 hG) (gl_307 hG) rfl (by omega) (by decide) ?_
            refine gf_aload_n 0 dX12_drives_110 rfl rfl ?_
            refine gf_getR flX12_207 rfl dX12_drives_111 (gt_247 hG) (gp_247_83 hG) ?_
            refine gf_iload_n 1 dX12_drives_114 rfl rfl ?_
            refine gf_iald 12 dX12_drives_115 (gt_308 hG) (gl_308 hG) rfl (by omega) (by decide) ?_
            refine gf_callV cmX12_apart lkX12_586 imX12_apart seX12_apart ⟨rfl, by decide⟩ dX12_drives_116 (d1 := d - 1) (by omega) (gt_247 hG) (e_apW E (by omega) h hG z N Iz.1.1 Iz.2.1 (Iz.2.2.resolve_left zc89)) rfl rfl (Nat.le_of_ble_eq_true rfl) ?_
            refine gf_icmp_ge 129 dX12_drives_119 rfl (fun zc119 => ?_) (fun zc119 => ?_)
            · refine gf_iinc (1) dX12_drives_129 rfl rfl (Nat.le_of_ble_eq_true rfl) ?_
              refine gf_goto 34 dX12_drives_132 rfl ?_
              rw [show mneB w g e z jz = z from (if_neg zc48).trans ((if_pos zc58).trans ((if_neg zc76).trans ((if_neg zc89).trans (if_pos zc119))))] at ih1
              exact gf_lw ih1 ⟨rfl, rfl, rfl, lvE (nI_1 jz), trivial⟩
            · refine gf_aload_n 0 dX12_drives_122 rfl rfl ?_
              refine gf_getR flX12_207 rfl dX12_drives_123 (gt_247 hG) (gp_247_83 hG) ?_
              refine gf_iload_n 1 dX12_drives_126 rfl rfl ?_
              refine gf_iload_n 3 dX12_drives_127 rfl rfl ?_
              refine gf_iast 12 dX12_drives_128 (gt_308 hG) (gl_308 hG) rfl (by omega) (by decide) ?_
              rw [mI_61]
              refine gf_iinc (1) dX12_drives_129 rfl rfl (Nat.le_of_ble_eq_true rfl) ?_
              refine gf_goto 34 dX12_drives_132 rfl ?_
              rw [show mneB w g e z jz = (up2 z 61 e (nI jz)) from (if_neg zc48).trans ((if_pos zc58).trans ((if_neg zc76).trans ((if_neg zc89).trans (if_neg zc119))))] at ih1
              exact gf_lw ih1 ⟨rfl, rfl, rfl, lvE (nI_1 jz), trivial⟩
        · refine gf_goto 129 dX12_drives_79 rfl ?_
          refine gf_iinc (1) dX12_drives_129 rfl rfl (Nat.le_of_ble_eq_true rfl) ?_
          refine gf_goto 34 dX12_drives_132 rfl ?_
          rw [show mneB w g e z jz = z from (if_neg zc48).trans ((if_pos zc58).trans (if_pos zc76))] at ih1
          exact gf_lw ih1 ⟨rfl, rfl, rfl, lvE (nI_1 jz), trivial⟩
def mne0 (M : mM) (e : Nat) : mM := up2 M 61 e (-1)
def mneX (w g e : Nat) (M : mM) : mM := itN (mneB w g e) (mne0 M e) (w * g)
def mdrV (w g e : Nat) (t : Int32) (M : mM) : mM := (if (M 61 e) = (-1) then mdr2 w g e t (mneX w g e M) else (if (M 53 ((M 61 e).toNatClampNeg)) = 1 then mdr2 w g e t M else mdr2 w g e t (mneX w g e M)))
theorem e_X12_drives (E : gE) {d : Nat} (hd : 4 ≤ d) {w g e : Nat} (t : Int32) (h : hp_T) (hG : gr h) (M : mM) (N : mN) (I : mfi M w g) (he : e < 12) (hg : ∃ q, q ≤ 9 ∧ M 43 e = nI q) (hs : ∃ a, a < w * g ∧ M 60 e = nI a) (hA : aimOk (w * g) (M 61 e)) : ev E mX12_drives d [.ref (E.1 + 247), .int (nI e), .int t] (hm h M N) none (hm h (mdrV w g e t M) N) := by
  refine ev_of rfl (fun q => absurd q (by decide)) (Nat.le_of_ble_eq_true rfl) ?_
  obtain ⟨w1, w2, g1, g2⟩ := I.1.1
  have hn : w * g ≤ 120 := Nat.le_trans (Nat.mul_le_mul w2 g2) (by decide)
  refine gf_aload_n 0 dX12_drives_0 rfl rfl ?_
  refine gf_getR flX12_207 rfl dX12_drives_1 (gt_247 hG) (gp_247_83 hG) ?_
  refine gf_iload_n 1 dX12_drives_4 rfl rfl ?_
  refine gf_iald 12 dX12_drives_5 (gt_308 hG) (gl_308 hG) rfl (by omega) (by decide) ?_
  refine gf_iconst (-1) dX12_drives_6 rfl ?_
  refine gf_icmp_eq 25 dX12_drives_7 rfl (fun zc7 => ?_) (fun zc7 => ?_)
  · refine gf_aload_n 0 dX12_drives_25 rfl rfl ?_
    refine gf_getR flX12_207 rfl dX12_drives_26 (gt_247 hG) (gp_247_83 hG) ?_
    refine gf_iload_n 1 dX12_drives_29 rfl rfl ?_
    refine gf_iconst (-1) dX12_drives_30 rfl ?_
    refine gf_iast 12 dX12_drives_31 (gt_308 hG) (gl_308 hG) rfl (by omega) (by decide) ?_
    rw [mI_61]
    refine gf_iconst (0) dX12_drives_32 rfl ?_
    refine gf_istore_n 3 dX12_drives_33 rfl (Nat.le_of_ble_eq_true rfl) ?_
    rw [show mdrV w g e t M = mdr2 w g e t (mneX w g e M) from if_pos zc7]
    refine gf_lw (l_mne E (by omega) t h hG (mne0 M e) N (show mfi (mne0 M e) w g from I) he (show ∃ a, a < w * g ∧ mne0 M e 60 e = nI a from hs) (Or.inl (up2_s M 61 e _)) ?_ (w * g) 0 (by omega)) ⟨rfl, rfl, rfl, rfl, trivial⟩
    exact gf_lw (l_drv2 E hd t h hG (mneX w g e M) N (mne_I (show mfi (mne0 M e) w g from I) (show ∃ a, a < w * g ∧ mne0 M e 60 e = nI a from hs) (Or.inl (up2_s M 61 e _)) (Nat.le_refl _) (w * g) (Nat.le_refl _)).1 he (by rw [show mneX w g e M 43 = M 43 from (itN_row (fun z j => mneB_row z j (by decide)) (mne0 M e) (w * g))]; exact hg) (mne_I (show mfi (mne0 M e) w g from I) (show ∃ a, a < w * g ∧ mne0 M e 60 e = nI a from hs) (Or.inl (up2_s M 61 e _)) (Nat.le_refl _) (w * g) (Nat.le_refl _)).2.2) ⟨rfl, rfl, rfl, trivial⟩
  · have hai := ax_ix (hA.resolve_left zc7) hn
    refine gf_aload_n 0 dX12_drives_10 rfl rfl ?_
    refine gf_getR flX12_183 rfl dX12_drives_11 (gt_247 hG) (gp_247_75 hG) ?_
    refine gf_aload_n 0 dX12_drives_14 rfl rfl ?_
    refine gf_getR flX12_207 rfl dX12_drives_15 (gt_247 hG) (gp_247_83 hG) ?_
    refine gf_iload_n 1 dX12_drives_18 rfl rfl ?_
    refine gf_iald 12 dX12_drives_19 (gt_308 hG) (gl_308 hG) rfl (by omega) (by decide) ?_
    refine gf_iald 120 dX12_drives_20 (gt_300 hG) (gl_300 hG) hai.1 (by omega) (by decide) ?_
    refine gf_iconst (1) dX12_drives_21 rfl ?_
    refine gf_icmp_eq 135 dX12_drives_22 rfl (fun zc22 => ?_) (fun zc22 => ?_)
    · rw [show mdrV w g e t M = mdr2 w g e t M from (if_neg zc7).trans (if_pos zc22)]
      exact gf_lw (l_drv2 E hd t h hG M N I he hg hA) ⟨rfl, rfl, rfl, trivial⟩
    · refine gf_aload_n 0 dX12_drives_25 rfl rfl ?_
      refine gf_getR flX12_207 rfl dX12_drives_26 (gt_247 hG) (gp_247_83 hG) ?_
      refine gf_iload_n 1 dX12_drives_29 rfl rfl ?_
      refine gf_iconst (-1) dX12_drives_30 rfl ?_
      refine gf_iast 12 dX12_drives_31 (gt_308 hG) (gl_308 hG) rfl (by omega) (by decide) ?_
      rw [mI_61]
      refine gf_iconst (0) dX12_drives_32 rfl ?_
      refine gf_istore_n 3 dX12_drives_33 rfl (Nat.le_of_ble_eq_true rfl) ?_
      rw [show mdrV w g e t M = mdr2 w g e t (mneX w g e M) from (if_neg zc7).trans (if_neg zc22)]
      refine gf_lw (l_mne E (by omega) t h hG (mne0 M e) N (show mfi (mne0 M e) w g from I) he (show ∃ a, a < w * g ∧ mne0 M e 60 e = nI a from hs) (Or.inl (up2_s M 61 e _)) ?_ (w * g) 0 (by omega)) ⟨rfl, rfl, rfl, rfl, trivial⟩
      exact gf_lw (l_drv2 E hd t h hG (mneX w g e M) N (mne_I (show mfi (mne0 M e) w g from I) (show ∃ a, a < w * g ∧ mne0 M e 60 e = nI a from hs) (Or.inl (up2_s M 61 e _)) (Nat.le_refl _) (w * g) (Nat.le_refl _)).1 he (by rw [show mneX w g e M 43 = M 43 from (itN_row (fun z j => mneB_row z j (by decide)) (mne0 M e) (w * g))]; exact hg) (mne_I (show mfi (mne0 M e) w g from I) (show ∃ a, a < w * g ∧ mne0 M e 60 e = nI a from hs) (Or.inl (up2_s M 61 e _)) (Nat.le_refl _) (w * g) (Nat.le_refl _)).2.2) ⟨rfl, rfl, rfl, trivial⟩
