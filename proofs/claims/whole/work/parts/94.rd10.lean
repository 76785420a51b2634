/-! ===== the reference's reader: statements ===== -/
theorem tsB_T {M : mM} {L : Nat} {q : pS} (hL6 : L ≤ 600) (I : rI L q) : okT L q (tsB M L q).2 ∧ ((tsB M L q).1 = true → (tsB M L q).2.2.2.1 = 0 → q.1 + 1 ≤ (tsB M L q).2.1) := by
  obtain ⟨aT, eN, bD, bP, cD, wT, oP, bS, cS, wS⟩ := q
  have hk : aT ≤ skb M L aT := (skb_le (M := M) (L := L) (a := aT)).1
  have hS : rI L (skb M L aT, eN, bD, bP, cD, wT, oP, bS, cS, wS) := skb_I (M := M) I
  unfold tsB
  dsimp only
  split
  · rename_i zt1
    have h9 := opn_T (v := 25) (p := nI (skb M L aT)) hS (lkV_lt (by decide) zt1)
    exact ⟨okT_t (skb_T I) h9.1, fun _ _ => Nat.le_trans (Nat.succ_le_succ hk) h9.2⟩
  · rename_i zt2
    split
    · rename_i zt3
      have h9 := tsC_T (M := M) (facS_T (M := M) hL6 hS).1
      exact ⟨okT_t (skb_T I) (okT_t (facS_T hL6 hS) h9.1), fun h _ => Nat.le_trans (Nat.succ_le_succ (Nat.le_trans hk (facS_T (M := M) hL6 hS).2.1)) (h9.2 h)⟩
    · rename_i zt4
      have h9 := not_T (v := 16) (p := nI (skb M L aT)) hS (bI_t zt4)
      exact ⟨okT_t (skb_T I) h9.1, fun _ h => Nat.le_trans (Nat.succ_le_succ hk) (h9.2 h)⟩
theorem tsF_T {M : mM} {L : Nat} (hL6 : L ≤ 600) : ∀ (k : Nat) {q : pS}, rI L q → okT L q (tsF M L k q)
  | 0, _, I => okT_r I
  | k + 1, q, I => by
    have h := tsB_T (M := M) hL6 I
    unfold tsF
    split
    · split
      · exact okT_t h.1 (tsF_T hL6 k h.1.1)
      · exact h.1
    · exact okT_r I
theorem tesS_T {M : mM} {L : Nat} {q : pS} (hL6 : L ≤ 600) (I : rI L q) : okT L q (tesS M L q) := okT_t (tsF_T hL6 700 I) (dtA_T (tsF_T (M := M) hL6 700 I).1)
theorem skF_c {M Z : mM} (h : Z 1 = M 1) : ∀ k a, skF Z k a = skF M k a
  | 0, _ => rfl
  | k + 1, a => by
    unfold skF bkP
    rw [h, skF_c h k]
theorem skb_c {M Z : mM} (h : Z 1 = M 1) (L a : Nat) : skb Z L a = skb M L a := skF_c h _ _
theorem pM_x {r : Nat} (h : 25 ≤ r ∧ r ≤ 28) (M : mM) (q : pS) (k : Nat) (v : Int32) : up2 (pM M q) r k v = pM (up2 M r k v) q := by
  funext x i
  by_cases h1 : x = r
  · subst h1
    by_cases h2 : i = k
    · subst h2
      rw [up2_s]
      unfold pM
      rw [if_neg (by omega), if_neg (by omega), if_neg (by omega), up2_s]
    · rw [up2_k _ _ h2]
      unfold pM
      rw [if_neg (by omega), if_neg (by omega), if_neg (by omega), if_neg (by omega), if_neg (by omega), if_neg (by omega), up2_k _ _ h2]
  · rw [up2_row h1]
    unfold pM
    by_cases h3 : x = 0
    · rw [if_pos h3, if_pos h3]
      rw [show up2 M r k v 0 i = M 0 i from congrFun (up2_row (by omega)) i]
    · rw [if_neg h3, if_neg h3, up2_row h1]
def stC (M : mM) (L j : Nat) (wh : Int32) : pS → mM × pS := fun (aT, eN, bD, bP, cD, wT, oP, bS, cS, wS) => (if (M 26 j) = 5 then ((up2 (up2 M 28 j wh) 25 0 (nI (j + 1))), (agS (up2 M 28 j wh) L (aT, eN, bD, bP, cD, wT, oP, bS, cS, wS) 59)) else ((up2 (up2 M 28 j (nI cD)) 25 0 (nI (j + 1))), (agS (up2 M 28 j (nI cD)) L (aT, eN, bD, bP, cD, wT, oP, bS, cS, wS) 59)))
theorem l_stC (E : gE) {d : Nat} (hd : 3 ≤ d) {L : Nat} (h : hp_T) (hG : gr h) (M : mM) (N : mN) (T : tpI M L) {j : Nat} (wh : Int32) (hj : M 25 0 = nI j) (hj24 : j < 24) (aT : Nat) (eN bD bP : Int32) (cD wT : Nat) (oP : Int32) (bS : Nat) (cS wS : Nat → Int32) (I0 : rI L (aT, eN, bD, bP, cD, wT, oP, bS, cS, wS)) : gf E mX12_statement d 276 [(0, .ref (E.1 + 247)), (1, .int (nI j)), (2, .int wh)] [] (hm h (pM M (aT, eN, bD, bP, cD, wT, oP, bS, cS, wS)) N) none (hm h (pM (stC M L j wh (aT, eN, bD, bP, cD, wT, oP, bS, cS, wS)).1 (stC M L j wh (aT, eN, bD, bP, cD, wT, oP, bS, cS, wS)).2) N) := by
  have hL6 := T.2.1
  have hA0 : aT ≤ L := I0.1
  have hB0 : cD + wT ≤ aT + 2 := I0.2
  refine gf_aload_n 0 dX12_statement_276 rfl rfl ?_
  refine gf_getR flX12_96 rfl dX12_statement_277 (gt_247 hG) (gp_247_35 hG) ?_
  refine gf_iload_n 1 dX12_statement_280 rfl rfl ?_
  refine gf_aload_n 0 dX12_statement_281 rfl rfl ?_
  refine gf_getR flX12_90 rfl dX12_statement_282 (gt_247 hG) (gp_247_33 hG) ?_
  refine gf_iload_n 1 dX12_statement_285 rfl rfl ?_
  refine gf_iald 4824 dX12_statement_286 (gt_273 hG) (gl_273 hG) rfl (by omega) (by decide) ?_
  refine gf_iconst (5) dX12_statement_287 rfl ?_
  refine gf_icmp_ne 295 dX12_statement_288 rfl (fun zc288 => ?_) (fun zc288 => ?_)
  · refine gf_aload_n 0 dX12_statement_295 rfl rfl ?_
    refine gf_getI flX12_329 rfl dX12_statement_296 (gt_247 hG) ?_
    rw [show hp_i (hm h (pM M (aT, eN, bD, bP, cD, wT, oP, bS, cS, wS)) N) 247 37 = (nI cD) from rfl]
    refine gf_iast 4824 dX12_statement_299 (gt_275 hG) (gl_275 hG) rfl (by omega) (by decide) ?_
    rw [mI_28, pM_x (show 25 ≤ 28 ∧ 28 ≤ 28 by decide)]
    refine gf_aload_n 0 dX12_statement_300 rfl rfl ?_
    refine gf_bipush (59) dX12_statement_301 rfl ?_
    refine gf_callV cmX12_asksSign lkX12_358 imX12_asksSign seX12_asksSign ⟨rfl, by decide⟩ dX12_statement_303 (d1 := d - 1) (by omega) (gt_247 hG) (e_X12_asksSign E (by omega) h hG (up2 M 28 j (nI cD)) N (show tpI (up2 M 28 j (nI cD)) L from T) aT eN bD bP cD wT oP bS cS wS 59 (by omega)) rfl rfl (Nat.le_of_ble_eq_true rfl) ?_
    refine gf_aload_n 0 dX12_statement_306 rfl rfl ?_
    refine gf_getR flX12_87 rfl dX12_statement_307 (gt_247 hG) (gp_247_32 hG) ?_
    refine gf_iconst (0) dX12_statement_310 rfl ?_
    refine gf_dup2 dX12_statement_311 rfl rfl ?_
    refine gf_iald 201 dX12_statement_312 (gt_272 hG) (gl_272 hG) (show (0 : Int32) = nI 0 from rfl) (by decide) (by decide) ?_
    rw [show hp_i (hm h (pM (up2 M 28 j (nI cD)) (agS (up2 M 28 j (nI cD)) L (aT, eN, bD, bP, cD, wT, oP, bS, cS, wS) 59)) N) 272 0 = nI j from hj]
    refine gf_iconst (1) dX12_statement_313 rfl ?_
    refine gf_iadd dX12_statement_314 ?_
    rw [nI_1 j]
    skip
    refine gf_iast 201 dX12_statement_315 (gt_272 hG) (gl_272 hG) (show (0 : Int32) = nI 0 from rfl) (by decide) (by decide) ?_
    rw [mI_25, pM_x (show 25 ≤ 25 ∧ 25 ≤ 28 by decide)]
    exact gf_vretE dX12_statement_316 rfl (by rw [show stC M L j wh (aT, eN, bD, bP, cD, wT, oP, bS, cS, wS) = ((up2 (up2 M 28 j (nI cD)) 25 0 (nI (j + 1))), (agS (up2 M 28 j (nI cD)) L (aT, eN, bD, bP, cD, wT, oP, bS, cS, wS) 59)) from if_neg zc288]; first | done | rfl)
  · refine gf_iload_n 2 dX12_statement_291 rfl rfl ?_
    refine gf_goto 299 dX12_statement_292 rfl ?_
    refine gf_iast 4824 dX12_statement_299 (gt_275 hG) (gl_275 hG) rfl (by omega) (by decide) ?_
    rw [mI_28, pM_x (show 25 ≤ 28 ∧ 28 ≤ 28 by decide)]
    refine gf_aload_n 0 dX12_statement_300 rfl rfl ?_
    refine gf_bipush (59) dX12_statement_301 rfl ?_
    refine gf_callV cmX12_asksSign lkX12_358 imX12_asksSign seX12_asksSign ⟨rfl, by decide⟩ dX12_statement_303 (d1 := d - 1) (by omega) (gt_247 hG) (e_X12_asksSign E (by omega) h hG (up2 M 28 j wh) N (show tpI (up2 M 28 j wh) L from T) aT eN bD bP cD wT oP bS cS wS 59 (by omega)) rfl rfl (Nat.le_of_ble_eq_true rfl) ?_
    refine gf_aload_n 0 dX12_statement_306 rfl rfl ?_
    refine gf_getR flX12_87 rfl dX12_statement_307 (gt_247 hG) (gp_247_32 hG) ?_
    refine gf_iconst (0) dX12_statement_310 rfl ?_
    refine gf_dup2 dX12_statement_311 rfl rfl ?_
    refine gf_iald 201 dX12_statement_312 (gt_272 hG) (gl_272 hG) (show (0 : Int32) = nI 0 from rfl) (by decide) (by decide) ?_
    rw [show hp_i (hm h (pM (up2 M 28 j wh) (agS (up2 M 28 j wh) L (aT, eN, bD, bP, cD, wT, oP, bS, cS, wS) 59)) N) 272 0 = nI j from hj]
    refine gf_iconst (1) dX12_statement_313 rfl ?_
    refine gf_iadd dX12_statement_314 ?_
    rw [nI_1 j]
    skip
    refine gf_iast 201 dX12_statement_315 (gt_272 hG) (gl_272 hG) (show (0 : Int32) = nI 0 from rfl) (by decide) (by decide) ?_
    rw [mI_25, pM_x (show 25 ≤ 25 ∧ 25 ≤ 28 by decide)]
    exact gf_vretE dX12_statement_316 rfl (by rw [show stC M L j wh (aT, eN, bD, bP, cD, wT, oP, bS, cS, wS) = ((up2 (up2 M 28 j wh) 25 0 (nI (j + 1))), (agS (up2 M 28 j wh) L (aT, eN, bD, bP, cD, wT, oP, bS, cS, wS) 59)) from if_pos zc288]; first | done | rfl)
def stB (M : mM) (L j : Nat) (sv : Int32) : pS → mM × pS := fun (aT, eN, bD, bP, cD, wT, oP, bS, cS, wS) => (if sv = (-1) then (stC (up2 M 26 j sv) L j (-1) (flS9 (aT, eN, bD, bP, cD, wT, oP, bS, cS, wS) 1 (nI aT))) else (if sv = 5 then (if (bI (hrQ (up2 M 26 j sv) L (aT, eN, bD, bP, cD, wT, oP, bS, cS, wS) 5 ((up2 M 26 j sv) 8))) = 0 then (if (bI (hrQ (up2 M 26 j sv) L ((skb (up2 M 26 j sv) L aT), eN, bD, bP, cD, wT, oP, bS, cS, wS) 5 ((up2 M 26 j sv) 9))) = 0 then (if (bI (hrQ (up2 M 26 j sv) L ((skb (up2 M 26 j sv) L aT), eN, bD, bP, cD, wT, oP, bS, cS, wS) 5 ((up2 M 26 j sv) 10))) = 0 then (stC (up2 M 26 j sv) L j (-1) (flS9 ((skb (up2 M 26 j sv) L aT), eN, bD, bP, cD, wT, oP, bS, cS, wS) 1 (nI (skb (up2 M 26 j sv) L aT)))) else (stC (up2 M 26 j sv) L j 2 (tkS9 (up2 M 26 j sv) L ((skb (up2 M 26 j sv) L aT), eN, bD, bP, cD, wT, oP, bS, cS, wS) 5 ((up2 M 26 j sv) 10)))) else (stC (up2 M 26 j sv) L j 1 (tkS9 (up2 M 26 j sv) L ((skb (up2 M 26 j sv) L aT), eN, bD, bP, cD, wT, oP, bS, cS, wS) 5 ((up2 M 26 j sv) 9)))) else (stC (up2 M 26 j sv) L j 0 (tkS9 (up2 M 26 j sv) L (aT, eN, bD, bP, cD, wT, oP, bS, cS, wS) 5 ((up2 M 26 j sv) 8)))) else (if 3 ≤ sv then (stC (up2 M 26 j sv) L j (-1) (sumS (up2 M 26 j sv) L (aT, eN, bD, bP, cD, wT, oP, bS, cS, wS))) else (stC (up2 M 26 j sv) L j (-1) (tesS (up2 M 26 j sv) L (aT, eN, bD, bP, cD, wT, oP, bS, cS, wS))))))
theorem l_stB (E : gE) {d : Nat} (hd : 8 ≤ d) {L : Nat} (h : hp_T) (hG : gr h) (M : mM) (N : mN) (T : tpI M L) {j : Nat} (sv : Int32) (hj : M 25 0 = nI j) (hj24 : j < 24) (aT : Nat) (eN bD bP : Int32) (cD wT : Nat) (oP : Int32) (bS : Nat) (cS wS : Nat → Int32) (I0 : rI L (aT, eN, bD, bP, cD, wT, oP, bS, cS, wS)) (hbs : bsQ (aT, eN, bD, bP, cD, wT, oP, bS, cS, wS) < 1000) (hb5 : sv = 5 → bD = 0) : gf E mX12_statement d 158 [(0, .ref (E.1 + 247)), (1, .int (nI j)), (2, .int (-1))] [.int sv, .int (nI j), .ref (E.1 + 273)] (hm h (pM M (aT, eN, bD, bP, cD, wT, oP, bS, cS, wS)) N) none (hm h (pM (stB M L j sv (aT, eN, bD, bP, cD, wT, oP, bS, cS, wS)).1 (stB M L j sv (aT, eN, bD, bP, cD, wT, oP, bS, cS, wS)).2) N) := by
  have hL6 := T.2.1
  have hA0 : aT ≤ L := I0.1
  have hB0 : cD + wT ≤ aT + 2 := I0.2
  refine gf_iast 4824 dX12_statement_158 (gt_273 hG) (gl_273 hG) rfl (by omega) (by decide) ?_
  rw [mI_26, pM_x (show 25 ≤ 26 ∧ 26 ≤ 28 by decide)]
  refine gf_aload_n 0 dX12_statement_159 rfl rfl ?_
  refine gf_getR flX12_90 rfl dX12_statement_160 (gt_247 hG) (gp_247_33 hG) ?_
  refine gf_iload_n 1 dX12_statement_163 rfl rfl ?_
  refine gf_iald 4824 dX12_statement_164 (gt_273 hG) (gl_273 hG) rfl (by omega) (by decide) ?_
  rw [show hp_i (hm h (pM (up2 M 26 j sv) (aT, eN, bD, bP, cD, wT, oP, bS, cS, wS)) N) 273 j = sv from up2_s M 26 j sv]
  refine gf_iconst (-1) dX12_statement_165 rfl ?_
  refine gf_icmp_ne 181 dX12_statement_166 rfl (fun zc166 => ?_) (fun zc166 => ?_)
  · refine gf_aload_n 0 dX12_statement_181 rfl rfl ?_
    refine gf_getR flX12_90 rfl dX12_statement_182 (gt_247 hG) (gp_247_33 hG) ?_
    refine gf_iload_n 1 dX12_statement_185 rfl rfl ?_
    refine gf_iald 4824 dX12_statement_186 (gt_273 hG) (gl_273 hG) rfl (by omega) (by decide) ?_
    rw [show hp_i (hm h (pM (up2 M 26 j sv) (aT, eN, bD, bP, cD, wT, oP, bS, cS, wS)) N) 273 j = sv from up2_s M 26 j sv]
    refine gf_iconst (5) dX12_statement_187 rfl ?_
    refine gf_icmp_ne 255 dX12_statement_188 rfl (fun zc188 => ?_) (fun zc188 => ?_)
    · refine gf_aload_n 0 dX12_statement_255 rfl rfl ?_
      refine gf_getR flX12_90 rfl dX12_statement_256 (gt_247 hG) (gp_247_33 hG) ?_
      refine gf_iload_n 1 dX12_statement_259 rfl rfl ?_
      refine gf_iald 4824 dX12_statement_260 (gt_273 hG) (gl_273 hG) rfl (by omega) (by decide) ?_
      rw [show hp_i (hm h (pM (up2 M 26 j sv) (aT, eN, bD, bP, cD, wT, oP, bS, cS, wS)) N) 273 j = sv from up2_s M 26 j sv]
      refine gf_iconst (3) dX12_statement_261 rfl ?_
      refine gf_icmp_ge 272 dX12_statement_262 rfl (fun zc262 => ?_) (fun zc262 => ?_)
      · refine gf_aload_n 0 dX12_statement_272 rfl rfl ?_
        refine gf_callV cmX12_sums lkX12_385 imX12_sums seX12_sums ⟨rfl, by decide⟩ dX12_statement_273 (d1 := d - 1) (by omega) (gt_247 hG) (e_X12_sums E (by omega) h hG (up2 M 26 j sv) N (show tpI (up2 M 26 j sv) L from T) (aT, eN, bD, bP, cD, wT, oP, bS, cS, wS) I0 hbs) rfl rfl (Nat.le_of_ble_eq_true rfl) ?_
        rw [show stB M L j sv (aT, eN, bD, bP, cD, wT, oP, bS, cS, wS) = (stC (up2 M 26 j sv) L j (-1) (sumS (up2 M 26 j sv) L (aT, eN, bD, bP, cD, wT, oP, bS, cS, wS))) from (if_neg zc166).trans ((if_neg zc188).trans (if_pos zc262))]
        exact gf_lw (l_stC E (by omega) h hG (up2 M 26 j sv) N (show tpI (up2 M 26 j sv) L from T) (-1) (show (up2 M 26 j sv) 25 0 = nI j from hj) hj24 _ _ _ _ _ _ _ _ _ _ (sumS_T T.2.1 I0).1) ⟨rfl, rfl, rfl, trivial⟩
      · refine gf_aload_n 0 dX12_statement_265 rfl rfl ?_
        refine gf_callV cmX12_test lkX12_400 imX12_test seX12_test ⟨rfl, by decide⟩ dX12_statement_266 (d1 := d - 1) (by omega) (gt_247 hG) (e_X12_test E (by omega) h hG (up2 M 26 j sv) N (show tpI (up2 M 26 j sv) L from T) (aT, eN, bD, bP, cD, wT, oP, bS, cS, wS) I0 hbs) rfl rfl (Nat.le_of_ble_eq_true rfl) ?_
        refine gf_goto 276 dX12_statement_269 rfl ?_
        rw [show stB M L j sv (aT, eN, bD, bP, cD, wT, oP, bS, cS, wS) = (stC (up2 M 26 j sv) L j (-1) (tesS (up2 M 26 j sv) L (aT, eN, bD, bP, cD, wT, oP, bS, cS, wS))) from (if_neg zc166).trans ((if_neg zc188).trans (if_neg zc262))]
        exact gf_lw (l_stC E (by omega) h hG (up2 M 26 j sv) N (show tpI (up2 M 26 j sv) L from T) (-1) (show (up2 M 26 j sv) 25 0 = nI j from hj) hj24 _ _ _ _ _ _ _ _ _ _ (tesS_T T.2.1 I0).1) ⟨rfl, rfl, rfl, trivial⟩
    · refine gf_aload_n 0 dX12_statement_191 rfl rfl ?_
      refine gf_aload_n 0 dX12_statement_192 rfl rfl ?_
      refine gf_getR flX12_36 rfl dX12_statement_193 (gt_247 hG) (gp_247_15 hG) ?_
      refine gf_callV cmX12_takes lkX12_312 imX12_takes seX12_takes ⟨rfl, by decide⟩ dX12_statement_196 (d1 := d - 1) (by omega) (gt_247 hG) (e_X12_takes E (by omega) h hG (up2 M 26 j sv) N (show tpI (up2 M 26 j sv) L from T) aT eN bD bP cD wT oP bS cS wS (A := 255) (l := 5) (f := (up2 M 26 j sv) 8) (gt_255 hG) (gl_255 hG) (fun q j => rfl) (by omega) (by omega)) rfl rfl (Nat.le_of_ble_eq_true rfl) ?_
      refine gf_if_eq 206 dX12_statement_199 rfl (fun zc199 => ?_) (fun zc199 => ?_)
      · rw [show (tkS9 (up2 M 26 j sv) L (aT, eN, bD, bP, cD, wT, oP, bS, cS, wS) 5 ((up2 M 26 j sv) 8)) = ((skb (up2 M 26 j sv) L aT), eN, bD, bP, cD, wT, oP, bS, cS, wS) from (if_neg (by rw [bI_f zc199]; decide)).trans (if_pos (hb5 zc188))]
        have Isk : rI L ((skb (up2 M 26 j sv) L aT), eN, bD, bP, cD, wT, oP, bS, cS, wS) := skb_I I0
        have hAsk : skb (up2 M 26 j sv) L aT ≤ L := Isk.1
        refine gf_aload_n 0 dX12_statement_206 rfl rfl ?_
        refine gf_aload_n 0 dX12_statement_207 rfl rfl ?_
        refine gf_getR flX12_39 rfl dX12_statement_208 (gt_247 hG) (gp_247_16 hG) ?_
        refine gf_callV cmX12_takes lkX12_312 imX12_takes seX12_takes ⟨rfl, by decide⟩ dX12_statement_211 (d1 := d - 1) (by omega) (gt_247 hG) (e_X12_takes E (by omega) h hG (up2 M 26 j sv) N (show tpI (up2 M 26 j sv) L from T) (skb (up2 M 26 j sv) L aT) eN bD bP cD wT oP bS cS wS (A := 256) (l := 5) (f := (up2 M 26 j sv) 9) (gt_256 hG) (gl_256 hG) (fun q j => rfl) (by omega) (by omega)) rfl rfl (Nat.le_of_ble_eq_true rfl) ?_
        refine gf_if_eq 221 dX12_statement_214 rfl (fun zc214 => ?_) (fun zc214 => ?_)
        · rw [show (tkS9 (up2 M 26 j sv) L ((skb (up2 M 26 j sv) L aT), eN, bD, bP, cD, wT, oP, bS, cS, wS) 5 ((up2 M 26 j sv) 9)) = ((skb (up2 M 26 j sv) L aT), eN, bD, bP, cD, wT, oP, bS, cS, wS) from (if_neg (by rw [bI_f zc214]; decide)).trans (hrS_sk (by omega))]
          refine gf_aload_n 0 dX12_statement_221 rfl rfl ?_
          refine gf_aload_n 0 dX12_statement_222 rfl rfl ?_
          refine gf_getR flX12_42 rfl dX12_statement_223 (gt_247 hG) (gp_247_17 hG) ?_
          refine gf_callV cmX12_takes lkX12_312 imX12_takes seX12_takes ⟨rfl, by decide⟩ dX12_statement_226 (d1 := d - 1) (by omega) (gt_247 hG) (e_X12_takes E (by omega) h hG (up2 M 26 j sv) N (show tpI (up2 M 26 j sv) L from T) (skb (up2 M 26 j sv) L aT) eN bD bP cD wT oP bS cS wS (A := 257) (l := 5) (f := (up2 M 26 j sv) 10) (gt_257 hG) (gl_257 hG) (fun q j => rfl) (by omega) (by omega)) rfl rfl (Nat.le_of_ble_eq_true rfl) ?_
          refine gf_if_eq 236 dX12_statement_229 rfl (fun zc229 => ?_) (fun zc229 => ?_)
          · rw [show (tkS9 (up2 M 26 j sv) L ((skb (up2 M 26 j sv) L aT), eN, bD, bP, cD, wT, oP, bS, cS, wS) 5 ((up2 M 26 j sv) 10)) = ((skb (up2 M 26 j sv) L aT), eN, bD, bP, cD, wT, oP, bS, cS, wS) from (if_neg (by rw [bI_f zc229]; decide)).trans (hrS_sk (by omega))]
            refine gf_iconst (-1) dX12_statement_236 rfl ?_
            refine gf_istore_n 2 dX12_statement_237 rfl (Nat.le_of_ble_eq_true rfl) ?_
            refine gf_iload_n 2 dX12_statement_238 rfl rfl ?_
            refine gf_iconst (-1) dX12_statement_239 rfl ?_
            refine gf_icmp_ne 276 dX12_statement_240 rfl (fun q => absurd (rfl) q) (fun _ => ?_)
            refine gf_aload_n 0 dX12_statement_243 rfl rfl ?_
            refine gf_iconst (1) dX12_statement_244 rfl ?_
            refine gf_aload_n 0 dX12_statement_245 rfl rfl ?_
            refine gf_getI flX12_291 rfl dX12_statement_246 (gt_247 hG) ?_
            rw [show hp_i (hm h (pM (up2 M 26 j sv) ((skb (up2 M 26 j sv) L aT), eN, bD, bP, cD, wT, oP, bS, cS, wS)) N) 247 2 = (nI (skb (up2 M 26 j sv) L aT)) from rfl]
            refine gf_callV cmX12_fail lkX12_315 imX12_fail seX12_fail ⟨rfl, by decide⟩ dX12_statement_249 (d1 := d - 1) (by omega) (gt_247 hG) (e_X12_fail E 1 (nI (skb (up2 M 26 j sv) L aT)) h hG (up2 M 26 j sv) N (skb (up2 M 26 j sv) L aT) eN bD bP cD wT oP bS cS wS) rfl rfl (Nat.le_of_ble_eq_true rfl) ?_
            refine gf_goto 276 dX12_statement_252 rfl ?_
            rw [show stB M L j sv (aT, eN, bD, bP, cD, wT, oP, bS, cS, wS) = (stC (up2 M 26 j sv) L j (-1) (flS9 ((skb (up2 M 26 j sv) L aT), eN, bD, bP, cD, wT, oP, bS, cS, wS) 1 (nI (skb (up2 M 26 j sv) L aT)))) from (if_neg zc166).trans ((if_pos zc188).trans ((if_pos zc199).trans ((if_pos zc214).trans (if_pos zc229))))]
            exact gf_lw (l_stC E (by omega) h hG (up2 M 26 j sv) N (show tpI (up2 M 26 j sv) L from T) (-1) (show (up2 M 26 j sv) 25 0 = nI j from hj) hj24 _ _ _ _ _ _ _ _ _ _ (flS_I Isk)) ⟨rfl, rfl, rfl, trivial⟩
          · have Ix : rI L (tkS9 (up2 M 26 j sv) L ((skb (up2 M 26 j sv) L aT), eN, bD, bP, cD, wT, oP, bS, cS, wS) 5 ((up2 M 26 j sv) 10)) := tkS_I Isk
            have hAx : (tkS9 (up2 M 26 j sv) L ((skb (up2 M 26 j sv) L aT), eN, bD, bP, cD, wT, oP, bS, cS, wS) 5 ((up2 M 26 j sv) 10)).1 ≤ L := Ix.1
            refine gf_iconst (2) dX12_statement_232 rfl ?_
            refine gf_goto 237 dX12_statement_233 rfl ?_
            refine gf_istore_n 2 dX12_statement_237 rfl (Nat.le_of_ble_eq_true rfl) ?_
            refine gf_iload_n 2 dX12_statement_238 rfl rfl ?_
            refine gf_iconst (-1) dX12_statement_239 rfl ?_
            refine gf_icmp_ne 276 dX12_statement_240 rfl (fun _ => ?_) (fun q => absurd q (by decide))
            rw [show stB M L j sv (aT, eN, bD, bP, cD, wT, oP, bS, cS, wS) = (stC (up2 M 26 j sv) L j 2 (tkS9 (up2 M 26 j sv) L ((skb (up2 M 26 j sv) L aT), eN, bD, bP, cD, wT, oP, bS, cS, wS) 5 ((up2 M 26 j sv) 10))) from (if_neg zc166).trans ((if_pos zc188).trans ((if_pos zc199).trans ((if_pos zc214).trans (if_neg zc229))))]
            exact gf_lw (l_stC E (by omega) h hG (up2 M 26 j sv) N (show tpI (up2 M 26 j sv) L from T) 2 (show (up2 M 26 j sv) 25 0 = nI j from hj) hj24 _ _ _ _ _ _ _ _ _ _ Ix) ⟨rfl, rfl, rfl, trivial⟩
        · have Ix : rI L (tkS9 (up2 M 26 j sv) L ((skb (up2 M 26 j sv) L aT), eN, bD, bP, cD, wT, oP, bS, cS, wS) 5 ((up2 M 26 j sv) 9)) := tkS_I Isk
          have hAx : (tkS9 (up2 M 26 j sv) L ((skb (up2 M 26 j sv) L aT), eN, bD, bP, cD, wT, oP, bS, cS, wS) 5 ((up2 M 26 j sv) 9)).1 ≤ L := Ix.1
          refine gf_iconst (1) dX12_statement_217 rfl ?_
          refine gf_goto 237 dX12_statement_218 rfl ?_
          refine gf_istore_n 2 dX12_statement_237 rfl (Nat.le_of_ble_eq_true rfl) ?_
          refine gf_iload_n 2 dX12_statement_238 rfl rfl ?_
          refine gf_iconst (-1) dX12_statement_239 rfl ?_
          refine gf_icmp_ne 276 dX12_statement_240 rfl (fun _ => ?_) (fun q => absurd q (by decide))
          rw [show stB M L j sv (aT, eN, bD, bP, cD, wT, oP, bS, cS, wS) = (stC (up2 M 26 j sv) L j 1 (tkS9 (up2 M 26 j sv) L ((skb (up2 M 26 j sv) L aT), eN, bD, bP, cD, wT, oP, bS, cS, wS) 5 ((up2 M 26 j sv) 9))) from (if_neg zc166).trans ((if_pos zc188).trans ((if_pos zc199).trans (if_neg zc214)))]
          exact gf_lw (l_stC E (by omega) h hG (up2 M 26 j sv) N (show tpI (up2 M 26 j sv) L from T) 1 (show (up2 M 26 j sv) 25 0 = nI j from hj) hj24 _ _ _ _ _ _ _ _ _ _ Ix) ⟨rfl, rfl, rfl, trivial⟩
      · have Ix : rI L (tkS9 (up2 M 26 j sv) L (aT, eN, bD, bP, cD, wT, oP, bS, cS, wS) 5 ((up2 M 26 j sv) 8)) := tkS_I I0
        have hAx : (tkS9 (up2 M 26 j sv) L (aT, eN, bD, bP, cD, wT, oP, bS, cS, wS) 5 ((up2 M 26 j sv) 8)).1 ≤ L := Ix.1
        refine gf_iconst (0) dX12_statement_202 rfl ?_
        refine gf_goto 237 dX12_statement_203 rfl ?_
        refine gf_istore_n 2 dX12_statement_237 rfl (Nat.le_of_ble_eq_true rfl) ?_
        refine gf_iload_n 2 dX12_statement_238 rfl rfl ?_
        refine gf_iconst (-1) dX12_statement_239 rfl ?_
        refine gf_icmp_ne 276 dX12_statement_240 rfl (fun _ => ?_) (fun q => absurd q (by decide))
        rw [show stB M L j sv (aT, eN, bD, bP, cD, wT, oP, bS, cS, wS) = (stC (up2 M 26 j sv) L j 0 (tkS9 (up2 M 26 j sv) L (aT, eN, bD, bP, cD, wT, oP, bS, cS, wS) 5 ((up2 M 26 j sv) 8))) from (if_neg zc166).trans ((if_pos zc188).trans (if_neg zc199))]
        exact gf_lw (l_stC E (by omega) h hG (up2 M 26 j sv) N (show tpI (up2 M 26 j sv) L from T) 0 (show (up2 M 26 j sv) 25 0 = nI j from hj) hj24 _ _ _ _ _ _ _ _ _ _ Ix) ⟨rfl, rfl, rfl, trivial⟩
  · refine gf_aload_n 0 dX12_statement_169 rfl rfl ?_
    refine gf_iconst (1) dX12_statement_170 rfl ?_
    refine gf_aload_n 0 dX12_statement_171 rfl rfl ?_
    refine gf_getI flX12_291 rfl dX12_statement_172 (gt_247 hG) ?_
    rw [show hp_i (hm h (pM (up2 M 26 j sv) (aT, eN, bD, bP, cD, wT, oP, bS, cS, wS)) N) 247 2 = (nI aT) from rfl]
    refine gf_callV cmX12_fail lkX12_315 imX12_fail seX12_fail ⟨rfl, by decide⟩ dX12_statement_175 (d1 := d - 1) (by omega) (gt_247 hG) (e_X12_fail E 1 (nI aT) h hG (up2 M 26 j sv) N aT eN bD bP cD wT oP bS cS wS) rfl rfl (Nat.le_of_ble_eq_true rfl) ?_
    refine gf_goto 276 dX12_statement_178 rfl ?_
    rw [show stB M L j sv (aT, eN, bD, bP, cD, wT, oP, bS, cS, wS) = (stC (up2 M 26 j sv) L j (-1) (flS9 (aT, eN, bD, bP, cD, wT, oP, bS, cS, wS) 1 (nI aT))) from if_pos zc166]
    exact gf_lw (l_stC E (by omega) h hG (up2 M 26 j sv) N (show tpI (up2 M 26 j sv) L from T) (-1) (show (up2 M 26 j sv) 25 0 = nI j from hj) hj24 _ _ _ _ _ _ _ _ _ _ (flS_I I0)) ⟨rfl, rfl, rfl, trivial⟩
def stA (M : mM) (L j : Nat) : pS → mM × pS := fun (aT, eN, bD, bP, cD, wT, oP, bS, cS, wS) => (if (bI (hrQ M L (aT, eN, bD, bP, cD, wT, oP, bS, cS, wS) 5 (M 2))) = 0 then (if (bI (hrQ M L (aT, eN, bD, bP, cD, wT, oP, bS, cS, wS) 4 (M 3))) = 0 then (if (bI (hrQ M L (aT, eN, bD, bP, cD, wT, oP, bS, cS, wS) 4 (M 4))) = 0 then (if (bI (hrQ M L (aT, eN, bD, bP, cD, wT, oP, bS, cS, wS) 3 (M 5))) = 0 then (if (bI (hrQ M L (aT, eN, bD, bP, cD, wT, oP, bS, cS, wS) 7 (M 6))) = 0 then (if (bI (hrQ M L (aT, eN, bD, bP, cD, wT, oP, bS, cS, wS) 6 (M 7))) = 0 then (stB M L j (-1) (aT, eN, bD, bP, cD, wT, oP, bS, cS, wS)) else (stB M L j 5 (tkS9 M L (aT, eN, bD, bP, cD, wT, oP, bS, cS, wS) 6 (M 7)))) else (stB M L j 4 (tkS9 M L (aT, eN, bD, bP, cD, wT, oP, bS, cS, wS) 7 (M 6)))) else (stB M L j 3 (tkS9 M L (aT, eN, bD, bP, cD, wT, oP, bS, cS, wS) 3 (M 5)))) else (stB M L j 2 (tkS9 M L (aT, eN, bD, bP, cD, wT, oP, bS, cS, wS) 4 (M 4)))) else (stB M L j 1 (tkS9 M L (aT, eN, bD, bP, cD, wT, oP, bS, cS, wS) 4 (M 3)))) else (stB M L j 0 (tkS9 M L (aT, eN, bD, bP, cD, wT, oP, bS, cS, wS) 5 (M 2))))
theorem l_stA (E : gE) {d : Nat} (hd : 8 ≤ d) {L : Nat} (h : hp_T) (hG : gr h) (M : mM) (N : mN) (T : tpI M L) {j : Nat} (hj : M 25 0 = nI j) (hj24 : j < 24) (aT : Nat) (eN bD bP : Int32) (cD wT : Nat) (oP : Int32) (bS : Nat) (cS wS : Nat → Int32) (I0 : rI L (aT, eN, bD, bP, cD, wT, oP, bS, cS, wS)) (hbs : bsQ (aT, eN, bD, bP, cD, wT, oP, bS, cS, wS) < 1000) (hs : skb M L aT = aT) (hb0 : bD = 0) : gf E mX12_statement d 62 [(0, .ref (E.1 + 247)), (1, .int (nI j)), (2, .int (-1))] [] (hm h (pM M (aT, eN, bD, bP, cD, wT, oP, bS, cS, wS)) N) none (hm h (pM (stA M L j (aT, eN, bD, bP, cD, wT, oP, bS, cS, wS)).1 (stA M L j (aT, eN, bD, bP, cD, wT, oP, bS, cS, wS)).2) N) := by
  have hL6 := T.2.1
  have hA0 : aT ≤ L := I0.1
  have hB0 : cD + wT ≤ aT + 2 := I0.2
  refine gf_aload_n 0 dX12_statement_62 rfl rfl ?_
  refine gf_getR flX12_90 rfl dX12_statement_63 (gt_247 hG) (gp_247_33 hG) ?_
  refine gf_iload_n 1 dX12_statement_66 rfl rfl ?_
  refine gf_aload_n 0 dX12_statement_67 rfl rfl ?_
  refine gf_aload_n 0 dX12_statement_68 rfl rfl ?_
  refine gf_getR flX12_17 rfl dX12_statement_69 (gt_247 hG) (gp_247_9 hG) ?_
  refine gf_callV cmX12_takes lkX12_312 imX12_takes seX12_takes ⟨rfl, by decide⟩ dX12_statement_72 (d1 := d - 1) (by omega) (gt_247 hG) (e_X12_takes E (by omega) h hG M N T aT eN bD bP cD wT oP bS cS wS (A := 249) (l := 5) (f := M 2) (gt_249 hG) (gl_249 hG) (fun q j => rfl) (by omega) (by omega)) rfl rfl (Nat.le_of_ble_eq_true rfl) ?_
  refine gf_if_eq 82 dX12_statement_75 rfl (fun zc75 => ?_) (fun zc75 => ?_)
  · rw [show (tkS9 M L (aT, eN, bD, bP, cD, wT, oP, bS, cS, wS) 5 (M 2)) = (aT, eN, bD, bP, cD, wT, oP, bS, cS, wS) from tkS_n hs (by rw [bI_f zc75]; decide)]
    refine gf_aload_n 0 dX12_statement_82 rfl rfl ?_
    refine gf_aload_n 0 dX12_statement_83 rfl rfl ?_
    refine gf_getR flX12_21 rfl dX12_statement_84 (gt_247 hG) (gp_247_10 hG) ?_
    refine gf_callV cmX12_takes lkX12_312 imX12_takes seX12_takes ⟨rfl, by decide⟩ dX12_statement_87 (d1 := d - 1) (by omega) (gt_247 hG) (e_X12_takes E (by omega) h hG M N T aT eN bD bP cD wT oP bS cS wS (A := 250) (l := 4) (f := M 3) (gt_250 hG) (gl_250 hG) (fun q j => rfl) (by omega) (by omega)) rfl rfl (Nat.le_of_ble_eq_true rfl) ?_
    refine gf_if_eq 97 dX12_statement_90 rfl (fun zc90 => ?_) (fun zc90 => ?_)
    · rw [show (tkS9 M L (aT, eN, bD, bP, cD, wT, oP, bS, cS, wS) 4 (M 3)) = (aT, eN, bD, bP, cD, wT, oP, bS, cS, wS) from tkS_n hs (by rw [bI_f zc90]; decide)]
      refine gf_aload_n 0 dX12_statement_97 rfl rfl ?_
      refine gf_aload_n 0 dX12_statement_98 rfl rfl ?_
      refine gf_getR flX12_24 rfl dX12_statement_99 (gt_247 hG) (gp_247_11 hG) ?_
      refine gf_callV cmX12_takes lkX12_312 imX12_takes seX12_takes ⟨rfl, by decide⟩ dX12_statement_102 (d1 := d - 1) (by omega) (gt_247 hG) (e_X12_takes E (by omega) h hG M N T aT eN bD bP cD wT oP bS cS wS (A := 251) (l := 4) (f := M 4) (gt_251 hG) (gl_251 hG) (fun q j => rfl) (by omega) (by omega)) rfl rfl (Nat.le_of_ble_eq_true rfl) ?_
      refine gf_if_eq 112 dX12_statement_105 rfl (fun zc105 => ?_) (fun zc105 => ?_)
      · rw [show (tkS9 M L (aT, eN, bD, bP, cD, wT, oP, bS, cS, wS) 4 (M 4)) = (aT, eN, bD, bP, cD, wT, oP, bS, cS, wS) from tkS_n hs (by rw [bI_f zc105]; decide)]
        refine gf_aload_n 0 dX12_statement_112 rfl rfl ?_
        refine gf_aload_n 0 dX12_statement_113 rfl rfl ?_
        refine gf_getR flX12_27 rfl dX12_statement_114 (gt_247 hG) (gp_247_12 hG) ?_
        refine gf_callV cmX12_takes lkX12_312 imX12_takes seX12_takes ⟨rfl, by decide⟩ dX12_statement_117 (d1 := d - 1) (by omega) (gt_247 hG) (e_X12_takes E (by omega) h hG M N T aT eN bD bP cD wT oP bS cS wS (A := 252) (l := 3) (f := M 5) (gt_252 hG) (gl_252 hG) (fun q j => rfl) (by omega) (by omega)) rfl rfl (Nat.le_of_ble_eq_true rfl) ?_
        refine gf_if_eq 127 dX12_statement_120 rfl (fun zc120 => ?_) (fun zc120 => ?_)
        · rw [show (tkS9 M L (aT, eN, bD, bP, cD, wT, oP, bS, cS, wS) 3 (M 5)) = (aT, eN, bD, bP, cD, wT, oP, bS, cS, wS) from tkS_n hs (by rw [bI_f zc120]; decide)]
          refine gf_aload_n 0 dX12_statement_127 rfl rfl ?_
          refine gf_aload_n 0 dX12_statement_128 rfl rfl ?_
          refine gf_getR flX12_30 rfl dX12_statement_129 (gt_247 hG) (gp_247_13 hG) ?_
          refine gf_callV cmX12_takes lkX12_312 imX12_takes seX12_takes ⟨rfl, by decide⟩ dX12_statement_132 (d1 := d - 1) (by omega) (gt_247 hG) (e_X12_takes E (by omega) h hG M N T aT eN bD bP cD wT oP bS cS wS (A := 253) (l := 7) (f := M 6) (gt_253 hG) (gl_253 hG) (fun q j => rfl) (by omega) (by omega)) rfl rfl (Nat.le_of_ble_eq_true rfl) ?_
          refine gf_if_eq 142 dX12_statement_135 rfl (fun zc135 => ?_) (fun zc135 => ?_)
          · rw [show (tkS9 M L (aT, eN, bD, bP, cD, wT, oP, bS, cS, wS) 7 (M 6)) = (aT, eN, bD, bP, cD, wT, oP, bS, cS, wS) from tkS_n hs (by rw [bI_f zc135]; decide)]
            refine gf_aload_n 0 dX12_statement_142 rfl rfl ?_
            refine gf_aload_n 0 dX12_statement_143 rfl rfl ?_
            refine gf_getR flX12_33 rfl dX12_statement_144 (gt_247 hG) (gp_247_14 hG) ?_
            refine gf_callV cmX12_takes lkX12_312 imX12_takes seX12_takes ⟨rfl, by decide⟩ dX12_statement_147 (d1 := d - 1) (by omega) (gt_247 hG) (e_X12_takes E (by omega) h hG M N T aT eN bD bP cD wT oP bS cS wS (A := 254) (l := 6) (f := M 7) (gt_254 hG) (gl_254 hG) (fun q j => rfl) (by omega) (by omega)) rfl rfl (Nat.le_of_ble_eq_true rfl) ?_
            refine gf_if_eq 157 dX12_statement_150 rfl (fun zc150 => ?_) (fun zc150 => ?_)
            · rw [show (tkS9 M L (aT, eN, bD, bP, cD, wT, oP, bS, cS, wS) 6 (M 7)) = (aT, eN, bD, bP, cD, wT, oP, bS, cS, wS) from tkS_n hs (by rw [bI_f zc150]; decide)]
              refine gf_iconst (-1) dX12_statement_157 rfl ?_
              rw [show stA M L j (aT, eN, bD, bP, cD, wT, oP, bS, cS, wS) = (stB M L j (-1) (aT, eN, bD, bP, cD, wT, oP, bS, cS, wS)) from (if_pos zc75).trans ((if_pos zc90).trans ((if_pos zc105).trans ((if_pos zc120).trans ((if_pos zc135).trans (if_pos zc150)))))]
              exact gf_lw (l_stB E hd h hG M N T (-1) hj hj24 _ _ _ _ _ _ _ _ _ _ I0 hbs (fun q => absurd q (by decide))) ⟨rfl, rfl, rfl, trivial⟩
            · refine gf_iconst (5) dX12_statement_153 rfl ?_
              refine gf_goto 158 dX12_statement_154 rfl ?_
              rw [show stA M L j (aT, eN, bD, bP, cD, wT, oP, bS, cS, wS) = (stB M L j 5 (tkS9 M L (aT, eN, bD, bP, cD, wT, oP, bS, cS, wS) 6 (M 7))) from (if_pos zc75).trans ((if_pos zc90).trans ((if_pos zc105).trans ((if_pos zc120).trans ((if_pos zc135).trans (if_neg zc150)))))]
              exact gf_lw (l_stB E hd h hG M N T 5 hj hj24 _ _ _ _ _ _ _ _ _ _ (tkS_I I0) (by show bsQ (tkS9 M L (aT, eN, bD, bP, cD, wT, oP, bS, cS, wS) 6 (M 7)) < 1000; rw [(tkS_T (M := M) I0).2.2.1]; exact hbs) (fun _ => by show (tkS9 _ _ _ _ _).2.2.1 = 0; rw [(tkS_P (bI_t zc150)).1]; exact hb0)) ⟨rfl, rfl, rfl, trivial⟩
          · refine gf_iconst (4) dX12_statement_138 rfl ?_
            refine gf_goto 158 dX12_statement_139 rfl ?_
            rw [show stA M L j (aT, eN, bD, bP, cD, wT, oP, bS, cS, wS) = (stB M L j 4 (tkS9 M L (aT, eN, bD, bP, cD, wT, oP, bS, cS, wS) 7 (M 6))) from (if_pos zc75).trans ((if_pos zc90).trans ((if_pos zc105).trans ((if_pos zc120).trans (if_neg zc135))))]
            exact gf_lw (l_stB E hd h hG M N T 4 hj hj24 _ _ _ _ _ _ _ _ _ _ (tkS_I I0) (by show bsQ (tkS9 M L (aT, eN, bD, bP, cD, wT, oP, bS, cS, wS) 7 (M 6)) < 1000; rw [(tkS_T (M := M) I0).2.2.1]; exact hbs) (fun q => absurd q (by decide))) ⟨rfl, rfl, rfl, trivial⟩
        · refine gf_iconst (3) dX12_statement_123 rfl ?_
          refine gf_goto 158 dX12_statement_124 rfl ?_
          rw [show stA M L j (aT, eN, bD, bP, cD, wT, oP, bS, cS, wS) = (stB M L j 3 (tkS9 M L (aT, eN, bD, bP, cD, wT, oP, bS, cS, wS) 3 (M 5))) from (if_pos zc75).trans ((if_pos zc90).trans ((if_pos zc105).trans (if_neg zc120)))]
          exact gf_lw (l_stB E hd h hG M N T 3 hj hj24 _ _ _ _ _ _ _ _ _ _ (tkS_I I0) (by show bsQ (tkS9 M L (aT, eN, bD, bP, cD, wT, oP, bS, cS, wS) 3 (M 5)) < 1000; rw [(tkS_T (M := M) I0).2.2.1]; exact hbs) (fun q => absurd q (by decide))) ⟨rfl, rfl, rfl, trivial⟩
      · refine gf_iconst (2) dX12_statement_108 rfl ?_
        refine gf_goto 158 dX12_statement_109 rfl ?_
        rw [show stA M L j (aT, eN, bD, bP, cD, wT, oP, bS, cS, wS) = (stB M L j 2 (tkS9 M L (aT, eN, bD, bP, cD, wT, oP, bS, cS, wS) 4 (M 4))) from (if_pos zc75).trans ((if_pos zc90).trans (if_neg zc105))]
        exact gf_lw (l_stB E hd h hG M N T 2 hj hj24 _ _ _ _ _ _ _ _ _ _ (tkS_I I0) (by show bsQ (tkS9 M L (aT, eN, bD, bP, cD, wT, oP, bS, cS, wS) 4 (M 4)) < 1000; rw [(tkS_T (M := M) I0).2.2.1]; exact hbs) (fun q => absurd q (by decide))) ⟨rfl, rfl, rfl, trivial⟩
    · refine gf_iconst (1) dX12_statement_93 rfl ?_
      refine gf_goto 158 dX12_statement_94 rfl ?_
      rw [show stA M L j (aT, eN, bD, bP, cD, wT, oP, bS, cS, wS) = (stB M L j 1 (tkS9 M L (aT, eN, bD, bP, cD, wT, oP, bS, cS, wS) 4 (M 3))) from (if_pos zc75).trans (if_neg zc90)]
      exact gf_lw (l_stB E hd h hG M N T 1 hj hj24 _ _ _ _ _ _ _ _ _ _ (tkS_I I0) (by show bsQ (tkS9 M L (aT, eN, bD, bP, cD, wT, oP, bS, cS, wS) 4 (M 3)) < 1000; rw [(tkS_T (M := M) I0).2.2.1]; exact hbs) (fun q => absurd q (by decide))) ⟨rfl, rfl, rfl, trivial⟩
  · refine gf_iconst (0) dX12_statement_78 rfl ?_
    refine gf_goto 158 dX12_statement_79 rfl ?_
    rw [show stA M L j (aT, eN, bD, bP, cD, wT, oP, bS, cS, wS) = (stB M L j 0 (tkS9 M L (aT, eN, bD, bP, cD, wT, oP, bS, cS, wS) 5 (M 2))) from if_neg zc75]
    exact gf_lw (l_stB E hd h hG M N T 0 hj hj24 _ _ _ _ _ _ _ _ _ _ (tkS_I I0) (by show bsQ (tkS9 M L (aT, eN, bD, bP, cD, wT, oP, bS, cS, wS) 5 (M 2)) < 1000; rw [(tkS_T (M := M) I0).2.2.1]; exact hbs) (fun q => absurd q (by decide))) ⟨rfl, rfl, rfl, trivial⟩
def staS9 (M : mM) (L j : Nat) : pS → mM × pS := fun (aT, eN, bD, bP, cD, wT, oP, bS, cS, wS) => (if (nI j) = 24 then (M, (flS9 ((skb M L aT), eN, bD, bP, cD, wT, oP, bS, cS, wS) 4 (nI (skb M L aT)))) else (stA (up2 M 27 j (nI cD)) L j ((skb M L aT), eN, bD, bP, cD, 0, 0, 0, cS, wS)))
theorem l_sta9 (E : gE) {d : Nat} (hd : 8 ≤ d) {L : Nat} (h : hp_T) (hG : gr h) (M : mM) (N : mN) (T : tpI M L) {j : Nat} (hj : M 25 0 = nI j) (hj24 : j ≤ 24) (aT : Nat) (eN bD bP : Int32) (cD wT : Nat) (oP : Int32) (bS : Nat) (cS wS : Nat → Int32) (I0 : aT ≤ L ∧ cD ≤ aT + 2) (hb0 : bD = 0) : ev E mX12_statement d [.ref (E.1 + 247)] (hm h (pM M (aT, eN, bD, bP, cD, wT, oP, bS, cS, wS)) N) none (hm h (pM (staS9 M L j (aT, eN, bD, bP, cD, wT, oP, bS, cS, wS)).1 (staS9 M L j (aT, eN, bD, bP, cD, wT, oP, bS, cS, wS)).2) N) := by
  refine ev_of rfl (fun q => absurd q (by decide)) (Nat.le_of_ble_eq_true rfl) ?_
  have hL6 := T.2.1
  have hA0 : aT ≤ L := I0.1
  have hB0 : cD ≤ aT + 2 := I0.2
  have hsk := skb_le (M := M) (L := L) (a := aT)
  have hj23 : ¬ nI j = 24 → j < 24 := fun q => by
    rcases Nat.lt_or_ge j 24 with w9 | w9
    · exact w9
    · exact absurd (by rw [show j = 24 by omega]; rfl) q
  refine gf_iconst (0) dX12_statement_0 rfl ?_
  refine gf_aload_n 0 dX12_statement_1 rfl rfl ?_
  refine gf_getR flX12_87 rfl dX12_statement_2 (gt_247 hG) (gp_247_32 hG) ?_
  refine gf_iconst (0) dX12_statement_5 rfl ?_
  refine gf_iald 201 dX12_statement_6 (gt_272 hG) (gl_272 hG) (show (0 : Int32) = nI 0 from rfl) (by decide) (by decide) ?_
  rw [show hp_i (hm h (pM M (aT, eN, bD, bP, cD, wT, oP, bS, cS, wS)) N) 272 0 = nI j from hj]
  refine gf_iadd dX12_statement_7 ?_
  rw [show (0 : Int32) + nI j = nI j from Int32.zero_add _]
  refine gf_istore_n 1 dX12_statement_8 rfl (Nat.le_of_ble_eq_true rfl) ?_
  refine gf_aload_n 0 dX12_statement_9 rfl rfl ?_
  refine gf_callV cmX12_look lkX12_297 imX12_look seX12_look ⟨rfl, by decide⟩ dX12_statement_10 (d1 := d - 1) (by omega) (gt_247 hG) (e_X12_look E h hG M N T aT eN bD bP cD wT oP bS cS wS (by omega)) rfl rfl (Nat.le_of_ble_eq_true rfl) ?_
  refine gf_pop dX12_statement_13 rfl ?_
  refine gf_aload_n 0 dX12_statement_14 rfl rfl ?_
  refine gf_getR flX12_87 rfl dX12_statement_15 (gt_247 hG) (gp_247_32 hG) ?_
  refine gf_iconst (0) dX12_statement_18 rfl ?_
  refine gf_iald 201 dX12_statement_19 (gt_272 hG) (gl_272 hG) (show (0 : Int32) = nI 0 from rfl) (by decide) (by decide) ?_
  rw [show hp_i (hm h (pM M ((skb M L aT), eN, bD, bP, cD, wT, oP, bS, cS, wS)) N) 272 0 = nI j from hj]
  refine gf_bipush (24) dX12_statement_20 rfl ?_
  refine gf_icmp_ne 35 dX12_statement_22 rfl (fun zc22 => ?_) (fun zc22 => ?_)
  · refine gf_aload_n 0 dX12_statement_35 rfl rfl ?_
    refine gf_getR flX12_93 rfl dX12_statement_36 (gt_247 hG) (gp_247_34 hG) ?_
    refine gf_iload_n 1 dX12_statement_39 rfl rfl ?_
    refine gf_aload_n 0 dX12_statement_40 rfl rfl ?_
    refine gf_getI flX12_329 rfl dX12_statement_41 (gt_247 hG) ?_
    rw [show hp_i (hm h (pM M ((skb M L aT), eN, bD, bP, cD, wT, oP, bS, cS, wS)) N) 247 37 = (nI cD) from rfl]
    refine gf_iast 4824 dX12_statement_44 (gt_274 hG) (gl_274 hG) rfl (by omega) (by decide) ?_
    rw [mI_27, pM_x (show 25 ≤ 27 ∧ 27 ≤ 28 by decide)]
    refine gf_aload_n 0 dX12_statement_45 rfl rfl ?_
    refine gf_iconst (0) dX12_statement_46 rfl ?_
    refine gf_putI flX12_335 rfl rfl dX12_statement_47 (gt_247 hG) ⟨rfl, rfl⟩ ?_
    rw [mI_0]
    rw [show up2 (pM (up2 M 27 j (nI cD)) ((skb M L aT), eN, bD, bP, cD, wT, oP, bS, cS, wS)) 0 39 0 = pM (up2 M 27 j (nI cD)) ((skb M L aT), eN, bD, bP, cD, 0, oP, bS, cS, wS) from pM_39 (up2 M 27 j (nI cD)) _ _]
    refine gf_aload_n 0 dX12_statement_50 rfl rfl ?_
    refine gf_iconst (0) dX12_statement_51 rfl ?_
    refine gf_putI flX12_332 rfl rfl dX12_statement_52 (gt_247 hG) ⟨rfl, rfl⟩ ?_
    rw [mI_0, pM_40]
    refine gf_aload_n 0 dX12_statement_55 rfl rfl ?_
    refine gf_iconst (0) dX12_statement_56 rfl ?_
    refine gf_putI flX12_342 rfl rfl dX12_statement_57 (gt_247 hG) ⟨rfl, rfl⟩ ?_
    rw [mI_0]
    rw [show up2 (pM (up2 M 27 j (nI cD)) ((skb M L aT), eN, bD, bP, cD, 0, 0, bS, cS, wS)) 0 41 0 = pM (up2 M 27 j (nI cD)) ((skb M L aT), eN, bD, bP, cD, 0, 0, 0, cS, wS) from pM_41 (up2 M 27 j (nI cD)) _ _]
    refine gf_iconst (-1) dX12_statement_60 rfl ?_
    refine gf_istore_n 2 dX12_statement_61 rfl (Nat.le_of_ble_eq_true rfl) ?_
    rw [show staS9 M L j (aT, eN, bD, bP, cD, wT, oP, bS, cS, wS) = (stA (up2 M 27 j (nI cD)) L j ((skb M L aT), eN, bD, bP, cD, 0, 0, 0, cS, wS)) from if_neg zc22]
    have Is : rI L ((skb M L aT), eN, bD, bP, cD, 0, 0, 0, cS, wS) := ⟨hsk.2 hA0, by show cD + 0 ≤ skb M L aT + 2; omega⟩
    exact gf_lw (l_stA E hd h hG (up2 M 27 j (nI cD)) N (show tpI (up2 M 27 j (nI cD)) L from T) (show (up2 M 27 j (nI cD)) 25 0 = nI j from hj) (hj23 zc22) _ _ _ _ _ _ _ _ _ _ Is (by show 0 < 1000; decide) (by rw [skb_c (show (up2 M 27 j (nI cD)) 1 = M 1 from up2_row (by decide))]; exact skb_skb hA0) hb0) ⟨rfl, rfl, rfl, trivial⟩
  · refine gf_aload_n 0 dX12_statement_25 rfl rfl ?_
    refine gf_iconst (4) dX12_statement_26 rfl ?_
    refine gf_aload_n 0 dX12_statement_27 rfl rfl ?_
    refine gf_getI flX12_291 rfl dX12_statement_28 (gt_247 hG) ?_
    rw [show hp_i (hm h (pM M ((skb M L aT), eN, bD, bP, cD, wT, oP, bS, cS, wS)) N) 247 2 = (nI (skb M L aT)) from rfl]
    refine gf_callV cmX12_fail lkX12_315 imX12_fail seX12_fail ⟨rfl, by decide⟩ dX12_statement_31 (d1 := d - 1) (by omega) (gt_247 hG) (e_X12_fail E 4 (nI (skb M L aT)) h hG M N (skb M L aT) eN bD bP cD wT oP bS cS wS) rfl rfl (Nat.le_of_ble_eq_true rfl) ?_
    exact gf_vretE dX12_statement_34 rfl (by rw [show staS9 M L j (aT, eN, bD, bP, cD, wT, oP, bS, cS, wS) = (M, (flS9 ((skb M L aT), eN, bD, bP, cD, wT, oP, bS, cS, wS) 4 (nI (skb M L aT)))) from if_pos zc22]; first | done | rfl)
theorem e_X12_statement (E : gE) {d : Nat} (hd : 8 ≤ d) {L : Nat} (h : hp_T) (hG : gr h) (M : mM) (N : mN) (T : tpI M L) {j : Nat} (hj : M 25 0 = nI j) (hj24 : j ≤ 24) (q : pS) (I0 : q.1 ≤ L ∧ q.2.2.2.2.1 ≤ q.1 + 2) (hb0 : q.2.2.1 = 0) : ev E mX12_statement d [.ref (E.1 + 247)] (hm h (pM M q) N) none (hm h (pM (staS9 M L j q).1 (staS9 M L j q).2) N) := l_sta9 E hd h hG M N T hj hj24 _ _ _ _ _ _ _ _ _ _ I0 hb0
