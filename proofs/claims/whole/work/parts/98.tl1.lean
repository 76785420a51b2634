/-! ===== the law: its cases ===== -/
def mL9 : gM := (yL_law, cL_law, 4, some .boolean, false)
theorem ix_1 (i : Nat) : nI i + (1 : Int32) = nI (i + 1) := nI_add i 1
theorem ix_2 (i : Nat) : nI i + (2 : Int32) = nI (i + 2) := nI_add i 2
theorem ix_3 (i : Nat) : nI i + (3 : Int32) = nI (i + 3) := nI_add i 3
theorem ix_4 (i : Nat) : nI i + (4 : Int32) = nI (i + 4) := nI_add i 4
theorem ix_5 (i : Nat) : nI i + (5 : Int32) = nI (i + 5) := nI_add i 5
theorem ix_6 (i : Nat) : nI i + (6 : Int32) = nI (i + 6) := nI_add i 6
theorem ix_7 (i : Nat) : nI i + (7 : Int32) = nI (i + 7) := nI_add i 7
theorem rel_gr {H : hp_T} (R : rel9 H) : gr H := by
  obtain ⟨M, N, w, g, m, n, p, L, R1⟩ := R
  exact R1.1
theorem lgc_z (x : Int64) : lg_cmp x x = 0 := by
  unfold lg_cmp
  rw [if_neg (show ¬ x > x from Int64.lt_irrefl), if_pos rfl]
theorem gy_eq {X : State → Prop} {E : gE} {M : gM} {d pc : Nat} {lv : List (Nat × Value)} {h : hp_T} {v : Option Value} {Q : hp_T → Prop} {x : Int32} {off : Int} (tgt : Nat) (hdg : decode M.2.1 pc = .ok (.if_icmp .eq off, 3)) (ht : (pc : Int) + off = (tgt : Int)) (k : gy X E M d tgt lv [] h v Q) : gy X E M d pc lv [.int x, .int x] h v Q := gy_st (f := fun _ kk => gx_icmp_eq tgt hdg ht (fun _ => kk) (fun q => absurd rfl q)) k
theorem la_0 (E : gE) {b n i : Nat} {f : Nat → Int32} (hn : n < 4000) (hi : i + 7 ≤ n) {H : hp_T} (R : rel9 H) {Q : hp_T → Prop} (K : ∀ H2, rel9 H2 → hp_n H2 ≤ hp_n H + 4 → hp_s H2 ≤ hp_s H + 700 → gy (scX E b n f) E mL9 200 1194 [(0, .ref b), (1, .ref (E.1 + 0)), (2, .ref (E.1 + 247)), (3, .int (nI i))] [] H2 (some (.int 1)) Q) : gy (scX E b n f) E mL9 200 172 [(0, .ref b), (1, .ref (E.1 + 0)), (2, .ref (E.1 + 247)), (3, .int (nI i))] [] H (some (.int 1)) Q := by
  have G : gr H := rel_gr R
  obtain ⟨v, H1, H2, k1, k2, R2, c2, s2, hv, G1⟩ := cal_feed E R (f (i + 1)) (f (i + 2)) (f (i + 3)) (f (i + 4)) (f (i + 5))
  obtain ⟨x, rfl⟩ := hv.2 (by decide)
  refine gy_st (f := fun _ kk => gx_aload_n 1 dL_law_172 rfl rfl kk) ?_
  refine gy_st (f := fun _ kk => gx_aload_n 0 dL_law_173 rfl rfl kk) ?_
  refine gy_st (f := fun _ kk => gx_iload_n 3 dL_law_174 rfl rfl kk) ?_
  refine gy_st (f := fun _ kk => gx_iconst (1) dL_law_175 rfl kk) ?_
  refine gy_st (f := fun _ kk => gx_iadd dL_law_176 kk) ?_
  refine gy_st (f := fun _ kk => gx_xald (j := i + 1) dL_law_177 (ix_1 i) (by omega) (by omega) kk) ?_
  refine gy_st (f := fun _ kk => gx_aload_n 0 dL_law_178 rfl rfl kk) ?_
  refine gy_st (f := fun _ kk => gx_iload_n 3 dL_law_179 rfl rfl kk) ?_
  refine gy_st (f := fun _ kk => gx_iconst (2) dL_law_180 rfl kk) ?_
  refine gy_st (f := fun _ kk => gx_iadd dL_law_181 kk) ?_
  refine gy_st (f := fun _ kk => gx_xald (j := i + 2) dL_law_182 (ix_2 i) (by omega) (by omega) kk) ?_
  refine gy_st (f := fun _ kk => gx_aload_n 0 dL_law_183 rfl rfl kk) ?_
  refine gy_st (f := fun _ kk => gx_iload_n 3 dL_law_184 rfl rfl kk) ?_
  refine gy_st (f := fun _ kk => gx_iconst (3) dL_law_185 rfl kk) ?_
  refine gy_st (f := fun _ kk => gx_iadd dL_law_186 kk) ?_
  refine gy_st (f := fun _ kk => gx_xald (j := i + 3) dL_law_187 (ix_3 i) (by omega) (by omega) kk) ?_
  refine gy_st (f := fun _ kk => gx_aload_n 0 dL_law_188 rfl rfl kk) ?_
  refine gy_st (f := fun _ kk => gx_iload_n 3 dL_law_189 rfl rfl kk) ?_
  refine gy_st (f := fun _ kk => gx_iconst (4) dL_law_190 rfl kk) ?_
  refine gy_st (f := fun _ kk => gx_iadd dL_law_191 kk) ?_
  refine gy_st (f := fun _ kk => gx_xald (j := i + 4) dL_law_192 (ix_4 i) (by omega) (by omega) kk) ?_
  refine gy_st (f := fun _ kk => gx_aload_n 0 dL_law_193 rfl rfl kk) ?_
  refine gy_st (f := fun _ kk => gx_iload_n 3 dL_law_194 rfl rfl kk) ?_
  refine gy_st (f := fun _ kk => gx_iconst (5) dL_law_195 rfl kk) ?_
  refine gy_st (f := fun _ kk => gx_iadd dL_law_196 kk) ?_
  refine gy_st (f := fun _ kk => gx_xald (j := i + 5) dL_law_197 (ix_5 i) (by omega) (by omega) kk) ?_
  refine gy_st (f := fun _ kk => gx_callV cmX11_feed lkL_13 imX11_feed seX11_feed ⟨rfl, by decide⟩ dL_law_198 (d1 := 100) (by omega) (gt_0 G) k1 rfl rfl (Nat.le_of_ble_eq_true rfl) kk) ?_
  refine gy_st (f := fun _ kk => gx_aload_n 2 dL_law_201 rfl rfl kk) ?_
  refine gy_st (f := fun _ kk => gx_aload_n 0 dL_law_202 rfl rfl kk) ?_
  refine gy_st (f := fun _ kk => gx_iload_n 3 dL_law_203 rfl rfl kk) ?_
  refine gy_st (f := fun _ kk => gx_iconst (1) dL_law_204 rfl kk) ?_
  refine gy_st (f := fun _ kk => gx_iadd dL_law_205 kk) ?_
  refine gy_st (f := fun _ kk => gx_xald (j := i + 1) dL_law_206 (ix_1 i) (by omega) (by omega) kk) ?_
  refine gy_st (f := fun _ kk => gx_aload_n 0 dL_law_207 rfl rfl kk) ?_
  refine gy_st (f := fun _ kk => gx_iload_n 3 dL_law_208 rfl rfl kk) ?_
  refine gy_st (f := fun _ kk => gx_iconst (2) dL_law_209 rfl kk) ?_
  refine gy_st (f := fun _ kk => gx_iadd dL_law_210 kk) ?_
  refine gy_st (f := fun _ kk => gx_xald (j := i + 2) dL_law_211 (ix_2 i) (by omega) (by omega) kk) ?_
  refine gy_st (f := fun _ kk => gx_aload_n 0 dL_law_212 rfl rfl kk) ?_
  refine gy_st (f := fun _ kk => gx_iload_n 3 dL_law_213 rfl rfl kk) ?_
  refine gy_st (f := fun _ kk => gx_iconst (3) dL_law_214 rfl kk) ?_
  refine gy_st (f := fun _ kk => gx_iadd dL_law_215 kk) ?_
  refine gy_st (f := fun _ kk => gx_xald (j := i + 3) dL_law_216 (ix_3 i) (by omega) (by omega) kk) ?_
  refine gy_st (f := fun _ kk => gx_aload_n 0 dL_law_217 rfl rfl kk) ?_
  refine gy_st (f := fun _ kk => gx_iload_n 3 dL_law_218 rfl rfl kk) ?_
  refine gy_st (f := fun _ kk => gx_iconst (4) dL_law_219 rfl kk) ?_
  refine gy_st (f := fun _ kk => gx_iadd dL_law_220 kk) ?_
  refine gy_st (f := fun _ kk => gx_xald (j := i + 4) dL_law_221 (ix_4 i) (by omega) (by omega) kk) ?_
  refine gy_st (f := fun _ kk => gx_aload_n 0 dL_law_222 rfl rfl kk) ?_
  refine gy_st (f := fun _ kk => gx_iload_n 3 dL_law_223 rfl rfl kk) ?_
  refine gy_st (f := fun _ kk => gx_iconst (5) dL_law_224 rfl kk) ?_
  refine gy_st (f := fun _ kk => gx_iadd dL_law_225 kk) ?_
  refine gy_st (f := fun _ kk => gx_xald (j := i + 5) dL_law_226 (ix_5 i) (by omega) (by omega) kk) ?_
  refine gy_st (f := fun _ kk => gx_callV cmX12_feed lkL_17 imX12_feed seX12_feed ⟨rfl, by decide⟩ dL_law_227 (d1 := 100) (by omega) (gt_247 G1) k2 rfl rfl (Nat.le_of_ble_eq_true rfl) kk) ?_
  exact gy_eq 1194 dL_law_230 rfl (K H2 R2 c2 s2)
theorem la_1 (E : gE) {b n i : Nat} {f : Nat → Int32} (hn : n < 4000) (hi : i + 7 ≤ n) {H : hp_T} (R : rel9 H) {Q : hp_T → Prop} (K : ∀ H2, rel9 H2 → hp_n H2 ≤ hp_n H + 4 → hp_s H2 ≤ hp_s H + 700 → gy (scX E b n f) E mL9 200 1194 [(0, .ref b), (1, .ref (E.1 + 0)), (2, .ref (E.1 + 247)), (3, .int (nI i))] [] H2 (some (.int 1)) Q) : gy (scX E b n f) E mL9 200 235 [(0, .ref b), (1, .ref (E.1 + 0)), (2, .ref (E.1 + 247)), (3, .int (nI i))] [] H (some (.int 1)) Q := by
  have G : gr H := rel_gr R
  obtain ⟨v, H1, H2, k1, k2, R2, c2, s2, hv, G1⟩ := cal_end E R (f (i + 1))
  obtain ⟨x, rfl⟩ := hv.2 (by decide)
  refine gy_st (f := fun _ kk => gx_aload_n 1 dL_law_235 rfl rfl kk) ?_
  refine gy_st (f := fun _ kk => gx_aload_n 0 dL_law_236 rfl rfl kk) ?_
  refine gy_st (f := fun _ kk => gx_iload_n 3 dL_law_237 rfl rfl kk) ?_
  refine gy_st (f := fun _ kk => gx_iconst (1) dL_law_238 rfl kk) ?_
  refine gy_st (f := fun _ kk => gx_iadd dL_law_239 kk) ?_
  refine gy_st (f := fun _ kk => gx_xald (j := i + 1) dL_law_240 (ix_1 i) (by omega) (by omega) kk) ?_
  refine gy_st (f := fun _ kk => gx_callV cmX11_end lkL_18 imX11_end seX11_end ⟨rfl, by decide⟩ dL_law_241 (d1 := 100) (by omega) (gt_0 G) k1 rfl rfl (Nat.le_of_ble_eq_true rfl) kk) ?_
  refine gy_st (f := fun _ kk => gx_aload_n 2 dL_law_244 rfl rfl kk) ?_
  refine gy_st (f := fun _ kk => gx_aload_n 0 dL_law_245 rfl rfl kk) ?_
  refine gy_st (f := fun _ kk => gx_iload_n 3 dL_law_246 rfl rfl kk) ?_
  refine gy_st (f := fun _ kk => gx_iconst (1) dL_law_247 rfl kk) ?_
  refine gy_st (f := fun _ kk => gx_iadd dL_law_248 kk) ?_
  refine gy_st (f := fun _ kk => gx_xald (j := i + 1) dL_law_249 (ix_1 i) (by omega) (by omega) kk) ?_
  refine gy_st (f := fun _ kk => gx_callV cmX12_end lkL_22 imX12_end seX12_end ⟨rfl, by decide⟩ dL_law_250 (d1 := 100) (by omega) (gt_247 G1) k2 rfl rfl (Nat.le_of_ble_eq_true rfl) kk) ?_
  exact gy_eq 1194 dL_law_253 rfl (K H2 R2 c2 s2)
theorem la_2 (E : gE) {b n i : Nat} {f : Nat → Int32} (hn : n < 4000) (hi : i + 7 ≤ n) {H : hp_T} (R : rel9 H) {Q : hp_T → Prop} (K : ∀ H2, rel9 H2 → hp_n H2 ≤ hp_n H + 4 → hp_s H2 ≤ hp_s H + 700 → gy (scX E b n f) E mL9 200 1194 [(0, .ref b), (1, .ref (E.1 + 0)), (2, .ref (E.1 + 247)), (3, .int (nI i))] [] H2 (some (.int 1)) Q) : gy (scX E b n f) E mL9 200 258 [(0, .ref b), (1, .ref (E.1 + 0)), (2, .ref (E.1 + 247)), (3, .int (nI i))] [] H (some (.int 1)) Q := by
  have G : gr H := rel_gr R
  obtain ⟨v, H1, H2, k1, k2, R2, c2, s2, hv, G1⟩ := cal_city E R (f (i + 1)) (f (i + 2))
  obtain ⟨x, rfl⟩ := hv.2 (by decide)
  refine gy_st (f := fun _ kk => gx_aload_n 1 dL_law_258 rfl rfl kk) ?_
  refine gy_st (f := fun _ kk => gx_aload_n 0 dL_law_259 rfl rfl kk) ?_
  refine gy_st (f := fun _ kk => gx_iload_n 3 dL_law_260 rfl rfl kk) ?_
  refine gy_st (f := fun _ kk => gx_iconst (1) dL_law_261 rfl kk) ?_
  refine gy_st (f := fun _ kk => gx_iadd dL_law_262 kk) ?_
  refine gy_st (f := fun _ kk => gx_xald (j := i + 1) dL_law_263 (ix_1 i) (by omega) (by omega) kk) ?_
  refine gy_st (f := fun _ kk => gx_aload_n 0 dL_law_264 rfl rfl kk) ?_
  refine gy_st (f := fun _ kk => gx_iload_n 3 dL_law_265 rfl rfl kk) ?_
  refine gy_st (f := fun _ kk => gx_iconst (2) dL_law_266 rfl kk) ?_
  refine gy_st (f := fun _ kk => gx_iadd dL_law_267 kk) ?_
  refine gy_st (f := fun _ kk => gx_xald (j := i + 2) dL_law_268 (ix_2 i) (by omega) (by omega) kk) ?_
  refine gy_st (f := fun _ kk => gx_callV cmX11_city lkL_23 imX11_city seX11_city ⟨rfl, by decide⟩ dL_law_269 (d1 := 100) (by omega) (gt_0 G) k1 rfl rfl (Nat.le_of_ble_eq_true rfl) kk) ?_
  refine gy_st (f := fun _ kk => gx_aload_n 2 dL_law_272 rfl rfl kk) ?_
  refine gy_st (f := fun _ kk => gx_aload_n 0 dL_law_273 rfl rfl kk) ?_
  refine gy_st (f := fun _ kk => gx_iload_n 3 dL_law_274 rfl rfl kk) ?_
  refine gy_st (f := fun _ kk => gx_iconst (1) dL_law_275 rfl kk) ?_
  refine gy_st (f := fun _ kk => gx_iadd dL_law_276 kk) ?_
  refine gy_st (f := fun _ kk => gx_xald (j := i + 1) dL_law_277 (ix_1 i) (by omega) (by omega) kk) ?_
  refine gy_st (f := fun _ kk => gx_aload_n 0 dL_law_278 rfl rfl kk) ?_
  refine gy_st (f := fun _ kk => gx_iload_n 3 dL_law_279 rfl rfl kk) ?_
  refine gy_st (f := fun _ kk => gx_iconst (2) dL_law_280 rfl kk) ?_
  refine gy_st (f := fun _ kk => gx_iadd dL_law_281 kk) ?_
  refine gy_st (f := fun _ kk => gx_xald (j := i + 2) dL_law_282 (ix_2 i) (by omega) (by omega) kk) ?_
  refine gy_st (f := fun _ kk => gx_callV cmX12_city lkL_27 imX12_city seX12_city ⟨rfl, by decide⟩ dL_law_283 (d1 := 100) (by omega) (gt_247 G1) k2 rfl rfl (Nat.le_of_ble_eq_true rfl) kk) ?_
  exact gy_eq 1194 dL_law_286 rfl (K H2 R2 c2 s2)
theorem la_3 (E : gE) {b n i : Nat} {f : Nat → Int32} (hn : n < 4000) (hi : i + 7 ≤ n) {H : hp_T} (R : rel9 H) {Q : hp_T → Prop} (K : ∀ H2, rel9 H2 → hp_n H2 ≤ hp_n H + 4 → hp_s H2 ≤ hp_s H + 700 → gy (scX E b n f) E mL9 200 1194 [(0, .ref b), (1, .ref (E.1 + 0)), (2, .ref (E.1 + 247)), (3, .int (nI i))] [] H2 (some (.int 1)) Q) : gy (scX E b n f) E mL9 200 291 [(0, .ref b), (1, .ref (E.1 + 0)), (2, .ref (E.1 + 247)), (3, .int (nI i))] [] H (some (.int 1)) Q := by
  have G : gr H := rel_gr R
  obtain ⟨v, H1, H2, k1, k2, R2, c2, s2, hv, G1⟩ := cal_house E R (f (i + 1)) (f (i + 2)) (f (i + 3)) (f (i + 4))
  obtain ⟨x, rfl⟩ := hv.2 (by decide)
  refine gy_st (f := fun _ kk => gx_aload_n 1 dL_law_291 rfl rfl kk) ?_
  refine gy_st (f := fun _ kk => gx_aload_n 0 dL_law_292 rfl rfl kk) ?_
  refine gy_st (f := fun _ kk => gx_iload_n 3 dL_law_293 rfl rfl kk) ?_
  refine gy_st (f := fun _ kk => gx_iconst (1) dL_law_294 rfl kk) ?_
  refine gy_st (f := fun _ kk => gx_iadd dL_law_295 kk) ?_
  refine gy_st (f := fun _ kk => gx_xald (j := i + 1) dL_law_296 (ix_1 i) (by omega) (by omega) kk) ?_
  refine gy_st (f := fun _ kk => gx_aload_n 0 dL_law_297 rfl rfl kk) ?_
  refine gy_st (f := fun _ kk => gx_iload_n 3 dL_law_298 rfl rfl kk) ?_
  refine gy_st (f := fun _ kk => gx_iconst (2) dL_law_299 rfl kk) ?_
  refine gy_st (f := fun _ kk => gx_iadd dL_law_300 kk) ?_
  refine gy_st (f := fun _ kk => gx_xald (j := i + 2) dL_law_301 (ix_2 i) (by omega) (by omega) kk) ?_
  refine gy_st (f := fun _ kk => gx_aload_n 0 dL_law_302 rfl rfl kk) ?_
  refine gy_st (f := fun _ kk => gx_iload_n 3 dL_law_303 rfl rfl kk) ?_
  refine gy_st (f := fun _ kk => gx_iconst (3) dL_law_304 rfl kk) ?_
  refine gy_st (f := fun _ kk => gx_iadd dL_law_305 kk) ?_
  refine gy_st (f := fun _ kk => gx_xald (j := i + 3) dL_law_306 (ix_3 i) (by omega) (by omega) kk) ?_
  refine gy_st (f := fun _ kk => gx_aload_n 0 dL_law_307 rfl rfl kk) ?_
  refine gy_st (f := fun _ kk => gx_iload_n 3 dL_law_308 rfl rfl kk) ?_
  refine gy_st (f := fun _ kk => gx_iconst (4) dL_law_309 rfl kk) ?_
  refine gy_st (f := fun _ kk => gx_iadd dL_law_310 kk) ?_
  refine gy_st (f := fun _ kk => gx_xald (j := i + 4) dL_law_311 (ix_4 i) (by omega) (by omega) kk) ?_
  refine gy_st (f := fun _ kk => gx_callV cmX11_house lkL_28 imX11_house seX11_house ⟨rfl, by decide⟩ dL_law_312 (d1 := 100) (by omega) (gt_0 G) k1 rfl rfl (Nat.le_of_ble_eq_true rfl) kk) ?_
  refine gy_st (f := fun _ kk => gx_aload_n 2 dL_law_315 rfl rfl kk) ?_
  refine gy_st (f := fun _ kk => gx_aload_n 0 dL_law_316 rfl rfl kk) ?_
  refine gy_st (f := fun _ kk => gx_iload_n 3 dL_law_317 rfl rfl kk) ?_
  refine gy_st (f := fun _ kk => gx_iconst (1) dL_law_318 rfl kk) ?_
  refine gy_st (f := fun _ kk => gx_iadd dL_law_319 kk) ?_
  refine gy_st (f := fun _ kk => gx_xald (j := i + 1) dL_law_320 (ix_1 i) (by omega) (by omega) kk) ?_
  refine gy_st (f := fun _ kk => gx_aload_n 0 dL_law_321 rfl rfl kk) ?_
  refine gy_st (f := fun _ kk => gx_iload_n 3 dL_law_322 rfl rfl kk) ?_
  refine gy_st (f := fun _ kk => gx_iconst (2) dL_law_323 rfl kk) ?_
  refine gy_st (f := fun _ kk => gx_iadd dL_law_324 kk) ?_
  refine gy_st (f := fun _ kk => gx_xald (j := i + 2) dL_law_325 (ix_2 i) (by omega) (by omega) kk) ?_
  refine gy_st (f := fun _ kk => gx_aload_n 0 dL_law_326 rfl rfl kk) ?_
  refine gy_st (f := fun _ kk => gx_iload_n 3 dL_law_327 rfl rfl kk) ?_
  refine gy_st (f := fun _ kk => gx_iconst (3) dL_law_328 rfl kk) ?_
  refine gy_st (f := fun _ kk => gx_iadd dL_law_329 kk) ?_
  refine gy_st (f := fun _ kk => gx_xald (j := i + 3) dL_law_330 (ix_3 i) (by omega) (by omega) kk) ?_
  refine gy_st (f := fun _ kk => gx_aload_n 0 dL_law_331 rfl rfl kk) ?_
  refine gy_st (f := fun _ kk => gx_iload_n 3 dL_law_332 rfl rfl kk) ?_
  refine gy_st (f := fun _ kk => gx_iconst (4) dL_law_333 rfl kk) ?_
  refine gy_st (f := fun _ kk => gx_iadd dL_law_334 kk) ?_
  refine gy_st (f := fun _ kk => gx_xald (j := i + 4) dL_law_335 (ix_4 i) (by omega) (by omega) kk) ?_
  refine gy_st (f := fun _ kk => gx_callV cmX12_house lkL_32 imX12_house seX12_house ⟨rfl, by decide⟩ dL_law_336 (d1 := 100) (by omega) (gt_247 G1) k2 rfl rfl (Nat.le_of_ble_eq_true rfl) kk) ?_
  exact gy_eq 1194 dL_law_339 rfl (K H2 R2 c2 s2)
theorem la_4 (E : gE) {b n i : Nat} {f : Nat → Int32} (hn : n < 4000) (hi : i + 7 ≤ n) {H : hp_T} (R : rel9 H) {Q : hp_T → Prop} (K : ∀ H2, rel9 H2 → hp_n H2 ≤ hp_n H + 4 → hp_s H2 ≤ hp_s H + 700 → gy (scX E b n f) E mL9 200 1194 [(0, .ref b), (1, .ref (E.1 + 0)), (2, .ref (E.1 + 247)), (3, .int (nI i))] [] H2 (some (.int 1)) Q) : gy (scX E b n f) E mL9 200 344 [(0, .ref b), (1, .ref (E.1 + 0)), (2, .ref (E.1 + 247)), (3, .int (nI i))] [] H (some (.int 1)) Q := by
  have G : gr H := rel_gr R
  by_cases q : f (i + 2) = 0
  · obtain ⟨v, H1, H2, k1, k2, R2, c2, s2, hv, G1⟩ := cal_plug E R (f (i + 1)) (0) (Or.inl rfl)
    obtain ⟨x, rfl⟩ := hv.2 (by decide)
    refine gy_st (f := fun _ kk => gx_aload_n 1 dL_law_344 rfl rfl kk) ?_
    refine gy_st (f := fun _ kk => gx_aload_n 0 dL_law_345 rfl rfl kk) ?_
    refine gy_st (f := fun _ kk => gx_iload_n 3 dL_law_346 rfl rfl kk) ?_
    refine gy_st (f := fun _ kk => gx_iconst (1) dL_law_347 rfl kk) ?_
    refine gy_st (f := fun _ kk => gx_iadd dL_law_348 kk) ?_
    refine gy_st (f := fun _ kk => gx_xald (j := i + 1) dL_law_349 (ix_1 i) (by omega) (by omega) kk) ?_
    refine gy_st (f := fun _ kk => gx_aload_n 0 dL_law_350 rfl rfl kk) ?_
    refine gy_st (f := fun _ kk => gx_iload_n 3 dL_law_351 rfl rfl kk) ?_
    refine gy_st (f := fun _ kk => gx_iconst (2) dL_law_352 rfl kk) ?_
    refine gy_st (f := fun _ kk => gx_iadd dL_law_353 kk) ?_
    refine gy_st (f := fun _ kk => gx_xald (j := i + 2) dL_law_354 (ix_2 i) (by omega) (by omega) kk) ?_
    refine gy_st (f := fun _ kk => gx_if_eq 362 dL_law_355 rfl (fun _ => kk) (fun z => absurd q z)) ?_
    refine gy_st (f := fun _ kk => gx_iconst (0) dL_law_362 rfl kk) ?_
    refine gy_st (f := fun _ kk => gx_callV cmX11_plug lkL_33 imX11_plug seX11_plug ⟨rfl, by decide⟩ dL_law_363 (d1 := 100) (by omega) (gt_0 G) k1 rfl rfl (Nat.le_of_ble_eq_true rfl) kk) ?_
    refine gy_st (f := fun _ kk => gx_aload_n 2 dL_law_366 rfl rfl kk) ?_
    refine gy_st (f := fun _ kk => gx_aload_n 0 dL_law_367 rfl rfl kk) ?_
    refine gy_st (f := fun _ kk => gx_iload_n 3 dL_law_368 rfl rfl kk) ?_
    refine gy_st (f := fun _ kk => gx_iconst (1) dL_law_369 rfl kk) ?_
    refine gy_st (f := fun _ kk => gx_iadd dL_law_370 kk) ?_
    refine gy_st (f := fun _ kk => gx_xald (j := i + 1) dL_law_371 (ix_1 i) (by omega) (by omega) kk) ?_
    refine gy_st (f := fun _ kk => gx_aload_n 0 dL_law_372 rfl rfl kk) ?_
    refine gy_st (f := fun _ kk => gx_iload_n 3 dL_law_373 rfl rfl kk) ?_
    refine gy_st (f := fun _ kk => gx_iconst (2) dL_law_374 rfl kk) ?_
    refine gy_st (f := fun _ kk => gx_iadd dL_law_375 kk) ?_
    refine gy_st (f := fun _ kk => gx_xald (j := i + 2) dL_law_376 (ix_2 i) (by omega) (by omega) kk) ?_
    refine gy_st (f := fun _ kk => gx_if_eq 384 dL_law_377 rfl (fun _ => kk) (fun z => absurd q z)) ?_
    refine gy_st (f := fun _ kk => gx_iconst (0) dL_law_384 rfl kk) ?_
    refine gy_st (f := fun _ kk => gx_callV cmX12_plug lkL_37 imX12_plug seX12_plug ⟨rfl, by decide⟩ dL_law_385 (d1 := 100) (by omega) (gt_247 G1) k2 rfl rfl (Nat.le_of_ble_eq_true rfl) kk) ?_
    exact gy_eq 1194 dL_law_388 rfl (K H2 R2 c2 s2)
  · obtain ⟨v, H1, H2, k1, k2, R2, c2, s2, hv, G1⟩ := cal_plug E R (f (i + 1)) (1) (Or.inr rfl)
    obtain ⟨x, rfl⟩ := hv.2 (by decide)
    refine gy_st (f := fun _ kk => gx_aload_n 1 dL_law_344 rfl rfl kk) ?_
    refine gy_st (f := fun _ kk => gx_aload_n 0 dL_law_345 rfl rfl kk) ?_
    refine gy_st (f := fun _ kk => gx_iload_n 3 dL_law_346 rfl rfl kk) ?_
    refine gy_st (f := fun _ kk => gx_iconst (1) dL_law_347 rfl kk) ?_
    refine gy_st (f := fun _ kk => gx_iadd dL_law_348 kk) ?_
    refine gy_st (f := fun _ kk => gx_xald (j := i + 1) dL_law_349 (ix_1 i) (by omega) (by omega) kk) ?_
    refine gy_st (f := fun _ kk => gx_aload_n 0 dL_law_350 rfl rfl kk) ?_
    refine gy_st (f := fun _ kk => gx_iload_n 3 dL_law_351 rfl rfl kk) ?_
    refine gy_st (f := fun _ kk => gx_iconst (2) dL_law_352 rfl kk) ?_
    refine gy_st (f := fun _ kk => gx_iadd dL_law_353 kk) ?_
    refine gy_st (f := fun _ kk => gx_xald (j := i + 2) dL_law_354 (ix_2 i) (by omega) (by omega) kk) ?_
    refine gy_st (f := fun _ kk => gx_if_eq 362 dL_law_355 rfl (fun z => absurd z q) (fun _ => kk)) ?_
    refine gy_st (f := fun _ kk => gx_iconst (1) dL_law_358 rfl kk) ?_
    refine gy_st (f := fun _ kk => gx_goto 363 dL_law_359 rfl kk) ?_
    refine gy_st (f := fun _ kk => gx_callV cmX11_plug lkL_33 imX11_plug seX11_plug ⟨rfl, by decide⟩ dL_law_363 (d1 := 100) (by omega) (gt_0 G) k1 rfl rfl (Nat.le_of_ble_eq_true rfl) kk) ?_
    refine gy_st (f := fun _ kk => gx_aload_n 2 dL_law_366 rfl rfl kk) ?_
    refine gy_st (f := fun _ kk => gx_aload_n 0 dL_law_367 rfl rfl kk) ?_
    refine gy_st (f := fun _ kk => gx_iload_n 3 dL_law_368 rfl rfl kk) ?_
    refine gy_st (f := fun _ kk => gx_iconst (1) dL_law_369 rfl kk) ?_
    refine gy_st (f := fun _ kk => gx_iadd dL_law_370 kk) ?_
    refine gy_st (f := fun _ kk => gx_xald (j := i + 1) dL_law_371 (ix_1 i) (by omega) (by omega) kk) ?_
    refine gy_st (f := fun _ kk => gx_aload_n 0 dL_law_372 rfl rfl kk) ?_
    refine gy_st (f := fun _ kk => gx_iload_n 3 dL_law_373 rfl rfl kk) ?_
    refine gy_st (f := fun _ kk => gx_iconst (2) dL_law_374 rfl kk) ?_
    refine gy_st (f := fun _ kk => gx_iadd dL_law_375 kk) ?_
    refine gy_st (f := fun _ kk => gx_xald (j := i + 2) dL_law_376 (ix_2 i) (by omega) (by omega) kk) ?_
    refine gy_st (f := fun _ kk => gx_if_eq 384 dL_law_377 rfl (fun z => absurd z q) (fun _ => kk)) ?_
    refine gy_st (f := fun _ kk => gx_iconst (1) dL_law_380 rfl kk) ?_
    refine gy_st (f := fun _ kk => gx_goto 385 dL_law_381 rfl kk) ?_
    refine gy_st (f := fun _ kk => gx_callV cmX12_plug lkL_37 imX12_plug seX12_plug ⟨rfl, by decide⟩ dL_law_385 (d1 := 100) (by omega) (gt_247 G1) k2 rfl rfl (Nat.le_of_ble_eq_true rfl) kk) ?_
    exact gy_eq 1194 dL_law_388 rfl (K H2 R2 c2 s2)
theorem la_5 (E : gE) {b n i : Nat} {f : Nat → Int32} (hn : n < 4000) (hi : i + 7 ≤ n) {H : hp_T} (R : rel9 H) {Q : hp_T → Prop} (K : ∀ H2, rel9 H2 → hp_n H2 ≤ hp_n H + 4 → hp_s H2 ≤ hp_s H + 700 → gy (scX E b n f) E mL9 200 1194 [(0, .ref b), (1, .ref (E.1 + 0)), (2, .ref (E.1 + 247)), (3, .int (nI i))] [] H2 (some (.int 1)) Q) : gy (scX E b n f) E mL9 200 393 [(0, .ref b), (1, .ref (E.1 + 0)), (2, .ref (E.1 + 247)), (3, .int (nI i))] [] H (some (.int 1)) Q := by
  have G : gr H := rel_gr R
  obtain ⟨v, H1, H2, k1, k2, R2, c2, s2, hv, G1⟩ := cal_hazard E R (f (i + 1)) (f (i + 2))
  obtain ⟨x, rfl⟩ := hv.2 (by decide)
  refine gy_st (f := fun _ kk => gx_aload_n 1 dL_law_393 rfl rfl kk) ?_
  refine gy_st (f := fun _ kk => gx_aload_n 0 dL_law_394 rfl rfl kk) ?_
  refine gy_st (f := fun _ kk => gx_iload_n 3 dL_law_395 rfl rfl kk) ?_
  refine gy_st (f := fun _ kk => gx_iconst (1) dL_law_396 rfl kk) ?_
  refine gy_st (f := fun _ kk => gx_iadd dL_law_397 kk) ?_
  refine gy_st (f := fun _ kk => gx_xald (j := i + 1) dL_law_398 (ix_1 i) (by omega) (by omega) kk) ?_
  refine gy_st (f := fun _ kk => gx_aload_n 0 dL_law_399 rfl rfl kk) ?_
  refine gy_st (f := fun _ kk => gx_iload_n 3 dL_law_400 rfl rfl kk) ?_
  refine gy_st (f := fun _ kk => gx_iconst (2) dL_law_401 rfl kk) ?_
  refine gy_st (f := fun _ kk => gx_iadd dL_law_402 kk) ?_
  refine gy_st (f := fun _ kk => gx_xald (j := i + 2) dL_law_403 (ix_2 i) (by omega) (by omega) kk) ?_
  refine gy_st (f := fun _ kk => gx_callV cmX11_hazard lkL_38 imX11_hazard seX11_hazard ⟨rfl, by decide⟩ dL_law_404 (d1 := 100) (by omega) (gt_0 G) k1 rfl rfl (Nat.le_of_ble_eq_true rfl) kk) ?_
  refine gy_st (f := fun _ kk => gx_aload_n 2 dL_law_407 rfl rfl kk) ?_
  refine gy_st (f := fun _ kk => gx_aload_n 0 dL_law_408 rfl rfl kk) ?_
  refine gy_st (f := fun _ kk => gx_iload_n 3 dL_law_409 rfl rfl kk) ?_
  refine gy_st (f := fun _ kk => gx_iconst (1) dL_law_410 rfl kk) ?_
  refine gy_st (f := fun _ kk => gx_iadd dL_law_411 kk) ?_
  refine gy_st (f := fun _ kk => gx_xald (j := i + 1) dL_law_412 (ix_1 i) (by omega) (by omega) kk) ?_
  refine gy_st (f := fun _ kk => gx_aload_n 0 dL_law_413 rfl rfl kk) ?_
  refine gy_st (f := fun _ kk => gx_iload_n 3 dL_law_414 rfl rfl kk) ?_
  refine gy_st (f := fun _ kk => gx_iconst (2) dL_law_415 rfl kk) ?_
  refine gy_st (f := fun _ kk => gx_iadd dL_law_416 kk) ?_
  refine gy_st (f := fun _ kk => gx_xald (j := i + 2) dL_law_417 (ix_2 i) (by omega) (by omega) kk) ?_
  refine gy_st (f := fun _ kk => gx_callV cmX12_hazard lkL_41 imX12_hazard seX12_hazard ⟨rfl, by decide⟩ dL_law_418 (d1 := 100) (by omega) (gt_247 G1) k2 rfl rfl (Nat.le_of_ble_eq_true rfl) kk) ?_
  exact gy_eq 1194 dL_law_421 rfl (K H2 R2 c2 s2)
theorem la_6 (E : gE) {b n i : Nat} {f : Nat → Int32} (hn : n < 4000) (hi : i + 7 ≤ n) {H : hp_T} (R : rel9 H) {Q : hp_T → Prop} (K : ∀ H2, rel9 H2 → hp_n H2 ≤ hp_n H + 4 → hp_s H2 ≤ hp_s H + 700 → gy (scX E b n f) E mL9 200 1194 [(0, .ref b), (1, .ref (E.1 + 0)), (2, .ref (E.1 + 247)), (3, .int (nI i))] [] H2 (some (.int 1)) Q) : gy (scX E b n f) E mL9 200 426 [(0, .ref b), (1, .ref (E.1 + 0)), (2, .ref (E.1 + 247)), (3, .int (nI i))] [] H (some (.int 1)) Q := by
  have G : gr H := rel_gr R
  obtain ⟨v, H1, H2, k1, k2, R2, c2, s2, hv, G1⟩ := cal_wind E R (f (i + 1)) (f (i + 2)) (f (i + 3))
  obtain ⟨x, rfl⟩ := hv.2 (by decide)
  refine gy_st (f := fun _ kk => gx_aload_n 1 dL_law_426 rfl rfl kk) ?_
  refine gy_st (f := fun _ kk => gx_aload_n 0 dL_law_427 rfl rfl kk) ?_
  refine gy_st (f := fun _ kk => gx_iload_n 3 dL_law_428 rfl rfl kk) ?_
  refine gy_st (f := fun _ kk => gx_iconst (1) dL_law_429 rfl kk) ?_
  refine gy_st (f := fun _ kk => gx_iadd dL_law_430 kk) ?_
  refine gy_st (f := fun _ kk => gx_xald (j := i + 1) dL_law_431 (ix_1 i) (by omega) (by omega) kk) ?_
  refine gy_st (f := fun _ kk => gx_aload_n 0 dL_law_432 rfl rfl kk) ?_
  refine gy_st (f := fun _ kk => gx_iload_n 3 dL_law_433 rfl rfl kk) ?_
  refine gy_st (f := fun _ kk => gx_iconst (2) dL_law_434 rfl kk) ?_
  refine gy_st (f := fun _ kk => gx_iadd dL_law_435 kk) ?_
  refine gy_st (f := fun _ kk => gx_xald (j := i + 2) dL_law_436 (ix_2 i) (by omega) (by omega) kk) ?_
  refine gy_st (f := fun _ kk => gx_aload_n 0 dL_law_437 rfl rfl kk) ?_
  refine gy_st (f := fun _ kk => gx_iload_n 3 dL_law_438 rfl rfl kk) ?_
  refine gy_st (f := fun _ kk => gx_iconst (3) dL_law_439 rfl kk) ?_
  refine gy_st (f := fun _ kk => gx_iadd dL_law_440 kk) ?_
  refine gy_st (f := fun _ kk => gx_xald (j := i + 3) dL_law_441 (ix_3 i) (by omega) (by omega) kk) ?_
  refine gy_st (f := fun _ kk => gx_callV cmX11_wind lkL_42 imX11_wind seX11_wind ⟨rfl, by decide⟩ dL_law_442 (d1 := 100) (by omega) (gt_0 G) k1 rfl rfl (Nat.le_of_ble_eq_true rfl) kk) ?_
  refine gy_st (f := fun _ kk => gx_aload_n 2 dL_law_445 rfl rfl kk) ?_
  refine gy_st (f := fun _ kk => gx_aload_n 0 dL_law_446 rfl rfl kk) ?_
  refine gy_st (f := fun _ kk => gx_iload_n 3 dL_law_447 rfl rfl kk) ?_
  refine gy_st (f := fun _ kk => gx_iconst (1) dL_law_448 rfl kk) ?_
  refine gy_st (f := fun _ kk => gx_iadd dL_law_449 kk) ?_
  refine gy_st (f := fun _ kk => gx_xald (j := i + 1) dL_law_450 (ix_1 i) (by omega) (by omega) kk) ?_
  refine gy_st (f := fun _ kk => gx_aload_n 0 dL_law_451 rfl rfl kk) ?_
  refine gy_st (f := fun _ kk => gx_iload_n 3 dL_law_452 rfl rfl kk) ?_
  refine gy_st (f := fun _ kk => gx_iconst (2) dL_law_453 rfl kk) ?_
  refine gy_st (f := fun _ kk => gx_iadd dL_law_454 kk) ?_
  refine gy_st (f := fun _ kk => gx_xald (j := i + 2) dL_law_455 (ix_2 i) (by omega) (by omega) kk) ?_
  refine gy_st (f := fun _ kk => gx_aload_n 0 dL_law_456 rfl rfl kk) ?_
  refine gy_st (f := fun _ kk => gx_iload_n 3 dL_law_457 rfl rfl kk) ?_
  refine gy_st (f := fun _ kk => gx_iconst (3) dL_law_458 rfl kk) ?_
  refine gy_st (f := fun _ kk => gx_iadd dL_law_459 kk) ?_
  refine gy_st (f := fun _ kk => gx_xald (j := i + 3) dL_law_460 (ix_3 i) (by omega) (by omega) kk) ?_
  refine gy_st (f := fun _ kk => gx_callV cmX12_wind lkL_46 imX12_wind seX12_wind ⟨rfl, by decide⟩ dL_law_461 (d1 := 100) (by omega) (gt_247 G1) k2 rfl rfl (Nat.le_of_ble_eq_true rfl) kk) ?_
  exact gy_eq 1194 dL_law_464 rfl (K H2 R2 c2 s2)
