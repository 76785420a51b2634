/-! ===== the reference: tells, holds ===== -/
abbrev opd (c : Int32) : Prop := 100 ≤ c ∨ c = 7 ∨ c = 8 ∨ c = 9 ∨ c = 10 ∨ c = 18 ∨ c = 19 ∨ c = 30 ∨ c = 17
/-- an operand's number -/
def mtV (M : mM) (n s w g cc : Nat) (c : Int32) : Int64 :=
  if 1000 ≤ c then (c - 1000).toInt64 else if 100 ≤ c then (if anyb (mhB M s (c - 100) (nI cc)) n = true then 1 else 0)
  else if c = 7 then (M 31 cc).toInt64 else if c = 8 then (M 32 cc).toInt64 else if c = 9 then (M 33 cc).toInt64
  else if c = 10 then (M 0 72).toInt64 else if c = 18 then (M 0 74).toInt64 else if c = 19 then (M 0 73).toInt64
  else if c = 30 then (nI (fa_cnt (hsN (M 34) w g cc) 8)).toInt64 else 1
abbrev tW : Type := Nat × (Nat → Int64)
def tlB (V : Int32 → Int64) (W : tW) (c : Int32) : tW := if opd c then (W.1 + 1, va_up W.2 W.1 (V c)) else if c = 16 then (W.1, va_up W.2 (W.1 - 1) (1 - W.2 (W.1 - 1))) else (W.1 - 1, va_up W.2 (W.1 - 2) (mjn c (W.2 (W.1 - 2)) (W.2 (W.1 - 1))))
def tlS (V : Int32 → Int64) (cd : Nat → Int32) (x : Nat) (Q : Nat → Int64) (m : Nat) : tW := itN (fun W j => tlB V W (cd (x + j))) (0, Q) m
def dpS (cd : Nat → Int32) (x : Nat) (m : Nat) : Nat := itN (fun p j => if opd (cd (x + j)) then p + 1 else if cd (x + j) = 16 then p else p - 1) 0 m
theorem tlS_1 (V : Int32 → Int64) (cd : Nat → Int32) (x : Nat) (Q : Nat → Int64) : ∀ m, (tlS V cd x Q m).1 = dpS cd x m
  | 0 => rfl
  | m + 1 => by
    have ih := tlS_1 V cd x Q m
    show (tlB V (tlS V cd x Q m) (cd (x + m))).1 = (if opd (cd (x + m)) then dpS cd x m + 1 else if cd (x + m) = 16 then dpS cd x m else dpS cd x m - 1)
    unfold tlB
    split
    · rw [← ih]
    · split
      · rw [← ih]
      · rw [← ih]
abbrev okc (p : Nat) (c : Int32) : Prop := if opd c then p < 700 else if c = 16 then 1 ≤ p ∧ p ≤ 700 else 2 ≤ p ∧ p ≤ 700
/-- a run of codes that can be worked out -/
def okS (cd : Nat → Int32) (x m : Nat) : Prop := ∀ j, j < m → okc (dpS cd x j) (cd (x + j))
theorem uprL_uprL (X : mN) (o : Nat) (f f' : Nat → Int64) : uprL (uprL X o f) o f' = uprL X o f' := by
  funext x
  unfold uprL
  split <;> rfl
theorem sP_sP (h : hp_T) (M : mM) (N : mN) (W W' : tW) : sP h (up2 M 0 70 (nI W.1)) (uprL N 52 W.2) W' = sP h M N W' := by
  unfold sP
  rw [up2_up2, uprL_uprL]
theorem l_X12_tells (E : gE) {d : Nat} (hd : 4 ≤ d) {n s w g cc a r x m : Nat} (h : hp_T) (hG : gr h) (M : mM) (N : mN) (A : macI M n s) (C : (1 ≤ w ∧ w ≤ 12 ∧ 1 ≤ g ∧ g ≤ 10) ∧ M 0 42 = nI w ∧ M 0 43 = nI g) (hcc : M 0 71 = nI cc) (hcw : cc < w * g) (ha : a ≤ 200) (hxm : x + m ≤ 640) (hok : okS (fun k => M 29 (640 * a + k)) x m) (Q : Nat → Int64) (hy : M 28 r = nI (x + m)) (hr : r < 4824) {v : Option Value} {hz : hp_T} (K : gf E mX12_tells d 306 [(0, .ref (E.1 + 247)), (1, .int (nI a)), (2, .int (nI r)), (3, .int (nI (x + (m))))] [] (sP h M N (tlS (mtV M n s w g cc) (fun k => M 29 (640 * a + k)) x Q (m))) v hz) : ∀ (kz jz : Nat), jz + kz = m → gf E mX12_tells d 12 [(0, .ref (E.1 + 247)), (1, .int (nI a)), (2, .int (nI r)), (3, .int (nI (x + (jz))))] [] (sP h M N (tlS (mtV M n s w g cc) (fun k => M 29 (640 * a + k)) x Q (jz))) v hz := by
  have hn : w * g ≤ 120 := Nat.le_trans (Nat.mul_le_mul C.1.2.1 C.1.2.2.2) (by decide)
  intro kz
  induction kz with
  | zero =>
    intro jz hj
    have hj : m = jz := by omega
    subst hj
    refine gf_iload_n 3 dX12_tells_12 rfl rfl ?_
    refine gf_aload_n 0 dX12_tells_13 rfl rfl ?_
    refine gf_getR flX12_96 rfl dX12_tells_14 (gt_247 hG) (gp_247_35 hG) ?_
    refine gf_iload_n 2 dX12_tells_17 rfl rfl ?_
    refine gf_iald 4824 dX12_tells_18 (gt_275 hG) (gl_275 hG) rfl hr (by decide) ?_
    rw [show hp_i (sP h M N (tlS (mtV M n s w g cc) (fun k => M 29 (640 * a + k)) x Q (m))) 275 r = nI (x + m) from hy]
    refine gf_icmp_ge 306 dX12_tells_19 rfl (fun _ => ?_) (fun q => absurd (Int32.le_refl _) q)
    exact gf_lw K ⟨rfl, rfl, rfl, rfl, trivial⟩
  | succ kz ih =>
    intro jz hj
    have ih1 := ih (jz + 1) (by omega)
    have hk := hok jz (by omega)
    have h1 := tlS_1 (mtV M n s w g cc) (fun k => M 29 (640 * a + k)) x Q jz
    rw [show (tlS (mtV M n s w g cc) (fun k => M 29 (640 * a + k)) x Q (jz + 1)) = tlB (mtV M n s w g cc) (tlS (mtV M n s w g cc) (fun k => M 29 (640 * a + k)) x Q (jz)) (M 29 (640 * a + (x + jz))) from rfl] at ih1
    generalize (tlS (mtV M n s w g cc) (fun k => M 29 (640 * a + k)) x Q (jz)) = W at ih1 h1 ⊢
    rw [← h1] at hk
    obtain ⟨p, Q2⟩ := W
    change okc p (M 29 (640 * a + (x + jz))) at hk
    have ec : ∀ z, hp_i (sP h M N z) 276 (640 * a + (x + jz)) = (M 29 (640 * a + (x + jz))) := fun z => rfl
    generalize hc : (M 29 (640 * a + (x + jz))) = c at hk ih1 ec
    refine gf_iload_n 3 dX12_tells_12 rfl rfl ?_
    refine gf_aload_n 0 dX12_tells_13 rfl rfl ?_
    refine gf_getR flX12_96 rfl dX12_tells_14 (gt_247 hG) (gp_247_35 hG) ?_
    refine gf_iload_n 2 dX12_tells_17 rfl rfl ?_
    refine gf_iald 4824 dX12_tells_18 (gt_275 hG) (gl_275 hG) rfl hr (by decide) ?_
    rw [show hp_i (sP h M N (p, Q2)) 275 r = nI (x + m) from hy]
    refine gf_icmp_ge 306 dX12_tells_19 rfl (fun q => absurd q (nI_ge (by omega) (by omega))) (fun _ => ?_)
    refine gf_aload_n 0 dX12_tells_22 rfl rfl ?_
    refine gf_getR flX12_100 rfl dX12_tells_23 (gt_247 hG) (gp_247_36 hG) ?_
    refine gf_sipush (640) dX12_tells_26 rfl ?_
    refine gf_iload_n 1 dX12_tells_29 rfl rfl ?_
    refine gf_imul dX12_tells_30 ?_
    refine gf_iload_n 3 dX12_tells_31 rfl rfl ?_
    refine gf_iadd dX12_tells_32 ?_
    refine gf_iald 128640 dX12_tells_33 (gt_276 hG) (gl_276 hG) (show (640 : Int32) * nI a + nI (x + jz) = nI (640 * a + (x + jz)) from by rw [show (640 : Int32) * nI a = nI (640 * a) from pk_mul 640 a, nI_add]) (by omega) (by decide) ?_
    rw [ec]
    refine gf_istore dX12_tells_34 (Nat.le_of_ble_eq_true rfl) ?_
    refine gf_iload dX12_tells_36 rfl ?_
    refine gf_sipush (1000) dX12_tells_38 rfl ?_
    refine gf_icmp_lt 58 dX12_tells_41 rfl (fun zc41 => ?_) (fun zc41 => ?_)
    · have k1000 : ¬ 1000 ≤ c := fun q => by have w2 := zc41; rw [fa_lt] at w2; rw [fa_le] at q; omega
      refine gf_iload dX12_tells_58 rfl ?_
      refine gf_bipush (100) dX12_tells_60 rfl ?_
      refine gf_icmp_lt 93 dX12_tells_62 rfl (fun zc62 => ?_) (fun zc62 => ?_)
      · have k100 : ¬ 100 ≤ c := fun q => by have w2 := zc62; rw [fa_lt] at w2; rw [fa_le] at q; omega
        refine gf_iload dX12_tells_93 rfl ?_
        refine gf_bipush (7) dX12_tells_95 rfl ?_
        refine gf_icmp_ne 117 dX12_tells_97 rfl (fun zc97 => ?_) (fun zc97 => ?_)
        · have k7 : ¬ c = 7 := zc97
          refine gf_iload dX12_tells_117 rfl ?_
          refine gf_bipush (8) dX12_tells_119 rfl ?_
          refine gf_icmp_ne 141 dX12_tells_121 rfl (fun zc121 => ?_) (fun zc121 => ?_)
          · have k8 : ¬ c = 8 := zc121
            refine gf_iload dX12_tells_141 rfl ?_
            refine gf_bipush (9) dX12_tells_143 rfl ?_
            refine gf_icmp_ne 165 dX12_tells_145 rfl (fun zc145 => ?_) (fun zc145 => ?_)
            · have k9 : ¬ c = 9 := zc145
              refine gf_iload dX12_tells_165 rfl ?_
              refine gf_bipush (10) dX12_tells_167 rfl ?_
              refine gf_icmp_ne 184 dX12_tells_169 rfl (fun zc169 => ?_) (fun zc169 => ?_)
              · have k10 : ¬ c = 10 := zc169
                refine gf_iload dX12_tells_184 rfl ?_
                refine gf_bipush (18) dX12_tells_186 rfl ?_
                refine gf_icmp_ne 203 dX12_tells_188 rfl (fun zc188 => ?_) (fun zc188 => ?_)
                · have k18 : ¬ c = 18 := zc188
                  refine gf_iload dX12_tells_203 rfl ?_
                  refine gf_bipush (19) dX12_tells_205 rfl ?_
                  refine gf_icmp_ne 222 dX12_tells_207 rfl (fun zc207 => ?_) (fun zc207 => ?_)
                  · have k19 : ¬ c = 19 := zc207
                    refine gf_iload dX12_tells_222 rfl ?_
                    refine gf_bipush (30) dX12_tells_224 rfl ?_
                    refine gf_icmp_ne 245 dX12_tells_226 rfl (fun zc226 => ?_) (fun zc226 => ?_)
                    · have k30 : ¬ c = 30 := zc226
                      refine gf_iload dX12_tells_245 rfl ?_
                      refine gf_bipush (17) dX12_tells_247 rfl ?_
                      refine gf_icmp_ne 260 dX12_tells_249 rfl (fun zc249 => ?_) (fun zc249 => ?_)
                      · have k17 : ¬ c = 17 := zc249
                        have hno : ¬ opd c := fun q => by rcases q with q | q | q | q | q | q | q | q | q; exact k100 q; exact k7 q; exact k8 q; exact k9 q; exact k10 q; exact k18 q; exact k19 q; exact k30 q; exact k17 q
                        refine gf_iload dX12_tells_260 rfl ?_
                        refine gf_bipush (16) dX12_tells_262 rfl ?_
                        refine gf_icmp_ne 294 dX12_tells_264 rfl (fun zc264 => ?_) (fun zc264 => ?_)
                        · have k16 : ¬ c = 16 := zc264
                          have hpq : 2 ≤ p ∧ p ≤ 700 := by have q := hk; unfold okc at q; rw [if_neg hno, if_neg k16] at q; exact q
                          have hjo := e_X12_joins E (d := d - 1) (by omega) (p := p - 2) c Q2 h hG M N (by omega)
                          rw [show p - 2 + 2 = p by omega, show p - 2 + 1 = p - 1 by omega] at hjo
                          refine gf_aload_n 0 dX12_tells_294 rfl rfl ?_
                          refine gf_iload dX12_tells_295 rfl ?_
                          refine gf_callV cmX12_joins lkX12_542 imX12_joins seX12_joins ⟨rfl, by decide⟩ dX12_tells_297 (d1 := d - 1) (by omega) (gt_247 hG) (hjo) rfl rfl (Nat.le_of_ble_eq_true rfl) ?_
                          refine gf_iinc (1) dX12_tells_300 rfl rfl (Nat.le_of_ble_eq_true rfl) ?_
                          refine gf_goto 12 dX12_tells_303 rfl ?_
                          rw [show tlB (mtV M n s w g cc) (p, Q2) c = (p - 1, va_up Q2 (p - 2) (mjn c (Q2 (p - 2)) (Q2 (p - 1)))) from (if_neg hno).trans (if_neg k16)] at ih1
                          exact gf_lw ih1 ⟨rfl, rfl, rfl, lvE (nI_1 (x + jz)), trivial⟩
                        · have k16 : c = 16 := zc264
                          have hp1 : 1 ≤ p := by have q := hk; unfold okc at q; rw [if_neg hno, if_pos k16] at q; exact q.1
                          have hp7 : p ≤ 700 := by have q := hk; unfold okc at q; rw [if_neg hno, if_pos k16] at q; exact q.2
                          refine gf_aload_n 0 dX12_tells_267 rfl rfl ?_
                          refine gf_getR flX12_179 rfl dX12_tells_268 (gt_247 hG) (gp_247_69 hG) ?_
                          refine gf_aload_n 0 dX12_tells_271 rfl rfl ?_
                          refine gf_getI flX12_502 rfl dX12_tells_272 (gt_247 hG) ?_
                          refine gf_iconst (1) dX12_tells_275 rfl ?_
                          refine gf_isub dX12_tells_276 ?_
                          rw [show hp_i (sP h M N (p, Q2)) 247 70 - 1 = nI (p - 1) from pk_sub (b := 1) hp1]
                          refine gf_lconst (1) dX12_tells_277 rfl ?_
                          refine gf_aload_n 0 dX12_tells_278 rfl rfl ?_
                          refine gf_getR flX12_179 rfl dX12_tells_279 (gt_247 hG) (gp_247_69 hG) ?_
                          refine gf_aload_n 0 dX12_tells_282 rfl rfl ?_
                          refine gf_getI flX12_502 rfl dX12_tells_283 (gt_247 hG) ?_
                          refine gf_iconst (1) dX12_tells_286 rfl ?_
                          refine gf_isub dX12_tells_287 ?_
                          rw [show hp_i (sP h M N (p, Q2)) 247 70 - 1 = nI (p - 1) from pk_sub (b := 1) hp1]
                          refine gf_lald 700 dX12_tells_288 (gt_299 hG) (gl_299 hG) rfl (by omega) (by decide) ?_
                          refine gf_lsub dX12_tells_289 ?_
                          refine gf_last 700 dX12_tells_290 (gt_299 hG) (gl_299 hG) rfl (by omega) (by decide) ?_
                          unfold sP
                          rw [mL_52, uprL_up]
                          change gf _ _ _ _ _ _ (sP h M N (p, va_up Q2 (p - 1) (1 - Q2 (p - 1)))) _ _
                          refine gf_goto 300 dX12_tells_291 rfl ?_
                          refine gf_iinc (1) dX12_tells_300 rfl rfl (Nat.le_of_ble_eq_true rfl) ?_
                          refine gf_goto 12 dX12_tells_303 rfl ?_
                          rw [show tlB (mtV M n s w g cc) (p, Q2) c = (p, va_up Q2 (p - 1) (1 - Q2 (p - 1))) from (if_neg hno).trans (if_pos k16)] at ih1
                          exact gf_lw ih1 ⟨rfl, rfl, rfl, lvE (nI_1 (x + jz)), trivial⟩
                      · have k17 : c = 17 := zc249
                        refine gf_aload_n 0 dX12_tells_252 rfl rfl ?_
                        refine gf_lconst (1) dX12_tells_253 rfl ?_
                        refine gf_callV cmX12_puts lkX12_509 imX12_puts seX12_puts ⟨rfl, by decide⟩ dX12_tells_254 (d1 := d - 1) (by omega) (gt_247 hG) (e_X12_puts E (by omega) Q2 (1 : Int64) h hG M N (by have q := hk; unfold okc at q; rw [if_pos (Or.inr (Or.inr (Or.inr (Or.inr (Or.inr (Or.inr (Or.inr (Or.inr (k17)))))))))] at q; exact q)) rfl rfl (Nat.le_of_ble_eq_true rfl) ?_
                        refine gf_goto 300 dX12_tells_257 rfl ?_
                        refine gf_iinc (1) dX12_tells_300 rfl rfl (Nat.le_of_ble_eq_true rfl) ?_
                        refine gf_goto 12 dX12_tells_303 rfl ?_
                        rw [show tlB (mtV M n s w g cc) (p, Q2) c = (p + 1, va_up Q2 p (1 : Int64)) from (if_pos (Or.inr (Or.inr (Or.inr (Or.inr (Or.inr (Or.inr (Or.inr (Or.inr (k17)))))))))).trans (by rw [show (mtV M n s w g cc) c = (1 : Int64) from (if_neg k1000).trans ((if_neg k100).trans ((if_neg k7).trans ((if_neg k8).trans ((if_neg k9).trans ((if_neg k10).trans ((if_neg k18).trans ((if_neg k19).trans (if_neg k30))))))))])] at ih1
                        exact gf_lw ih1 ⟨rfl, rfl, rfl, lvE (nI_1 (x + jz)), trivial⟩
                    · have k30 : c = 30 := zc226
                      refine gf_aload_n 0 dX12_tells_229 rfl rfl ?_
                      refine gf_aload_n 0 dX12_tells_230 rfl rfl ?_
                      refine gf_aload_n 0 dX12_tells_231 rfl rfl ?_
                      refine gf_getI flX12_523 rfl dX12_tells_232 (gt_247 hG) ?_
                      rw [show hp_i (sP h M N (p, Q2)) 247 71 = nI cc from hcc]
                      refine gf_callV cmX12_near lkX12_539 imX12_near seX12_near ⟨rfl, by decide⟩ dX12_tells_235 (d1 := d - 1) (by omega) (gt_247 hG) (e_X12_near E (by omega) h hG (up2 M 0 70 (nI p)) (uprL N 52 Q2) C hcw) rfl rfl (Nat.le_of_ble_eq_true rfl) ?_
                      change gf _ _ _ _ _ _ (sP h M N (p, Q2)) _ _
                      refine gf_i2l dX12_tells_238 ?_
                      refine gf_callV cmX12_puts lkX12_509 imX12_puts seX12_puts ⟨rfl, by decide⟩ dX12_tells_239 (d1 := d - 1) (by omega) (gt_247 hG) (e_X12_puts E (by omega) Q2 (nI (fa_cnt (hsN (M 34) w g cc) 8)).toInt64 h hG M N (by have q := hk; unfold okc at q; rw [if_pos (Or.inr (Or.inr (Or.inr (Or.inr (Or.inr (Or.inr (Or.inr (Or.inl k30))))))))] at q; exact q)) rfl rfl (Nat.le_of_ble_eq_true rfl) ?_
                      refine gf_goto 300 dX12_tells_242 rfl ?_
                      refine gf_iinc (1) dX12_tells_300 rfl rfl (Nat.le_of_ble_eq_true rfl) ?_
                      refine gf_goto 12 dX12_tells_303 rfl ?_
                      rw [show tlB (mtV M n s w g cc) (p, Q2) c = (p + 1, va_up Q2 p (nI (fa_cnt (hsN (M 34) w g cc) 8)).toInt64) from (if_pos (Or.inr (Or.inr (Or.inr (Or.inr (Or.inr (Or.inr (Or.inr (Or.inl k30))))))))).trans (by rw [show (mtV M n s w g cc) c = (nI (fa_cnt (hsN (M 34) w g cc) 8)).toInt64 from (if_neg k1000).trans ((if_neg k100).trans ((if_neg k7).trans ((if_neg k8).trans ((if_neg k9).trans ((if_neg k10).trans ((if_neg k18).trans ((if_neg k19).trans (if_pos k30))))))))])] at ih1
                      exact gf_lw ih1 ⟨rfl, rfl, rfl, lvE (nI_1 (x + jz)), trivial⟩
                  · have k19 : c = 19 := zc207
                    refine gf_aload_n 0 dX12_tells_210 rfl rfl ?_
                    refine gf_aload_n 0 dX12_tells_211 rfl rfl ?_
                    refine gf_getI flX12_529 rfl dX12_tells_212 (gt_247 hG) ?_
                    refine gf_i2l dX12_tells_215 ?_
                    refine gf_callV cmX12_puts lkX12_509 imX12_puts seX12_puts ⟨rfl, by decide⟩ dX12_tells_216 (d1 := d - 1) (by omega) (gt_247 hG) (e_X12_puts E (by omega) Q2 (M 0 73).toInt64 h hG M N (by have q := hk; unfold okc at q; rw [if_pos (Or.inr (Or.inr (Or.inr (Or.inr (Or.inr (Or.inr (Or.inl k19)))))))] at q; exact q)) rfl rfl (Nat.le_of_ble_eq_true rfl) ?_
                    refine gf_goto 300 dX12_tells_219 rfl ?_
                    refine gf_iinc (1) dX12_tells_300 rfl rfl (Nat.le_of_ble_eq_true rfl) ?_
                    refine gf_goto 12 dX12_tells_303 rfl ?_
                    rw [show tlB (mtV M n s w g cc) (p, Q2) c = (p + 1, va_up Q2 p (M 0 73).toInt64) from (if_pos (Or.inr (Or.inr (Or.inr (Or.inr (Or.inr (Or.inr (Or.inl k19)))))))).trans (by rw [show (mtV M n s w g cc) c = (M 0 73).toInt64 from (if_neg k1000).trans ((if_neg k100).trans ((if_neg k7).trans ((if_neg k8).trans ((if_neg k9).trans ((if_neg k10).trans ((if_neg k18).trans (if_pos k19)))))))])] at ih1
                    exact gf_lw ih1 ⟨rfl, rfl, rfl, lvE (nI_1 (x + jz)), trivial⟩
                · have k18 : c = 18 := zc188
                  refine gf_aload_n 0 dX12_tells_191 rfl rfl ?_
                  refine gf_aload_n 0 dX12_tells_192 rfl rfl ?_
                  refine gf_getI flX12_532 rfl dX12_tells_193 (gt_247 hG) ?_
                  refine gf_i2l dX12_tells_196 ?_
                  refine gf_callV cmX12_puts lkX12_509 imX12_puts seX12_puts ⟨rfl, by decide⟩ dX12_tells_197 (d1 := d - 1) (by omega) (gt_247 hG) (e_X12_puts E (by omega) Q2 (M 0 74).toInt64 h hG M N (by have q := hk; unfold okc at q; rw [if_pos (Or.inr (Or.inr (Or.inr (Or.inr (Or.inr (Or.inl k18))))))] at q; exact q)) rfl rfl (Nat.le_of_ble_eq_true rfl) ?_
                  refine gf_goto 300 dX12_tells_200 rfl ?_
                  refine gf_iinc (1) dX12_tells_300 rfl rfl (Nat.le_of_ble_eq_true rfl) ?_
                  refine gf_goto 12 dX12_tells_303 rfl ?_
                  rw [show tlB (mtV M n s w g cc) (p, Q2) c = (p + 1, va_up Q2 p (M 0 74).toInt64) from (if_pos (Or.inr (Or.inr (Or.inr (Or.inr (Or.inr (Or.inl k18))))))).trans (by rw [show (mtV M n s w g cc) c = (M 0 74).toInt64 from (if_neg k1000).trans ((if_neg k100).trans ((if_neg k7).trans ((if_neg k8).trans ((if_neg k9).trans ((if_neg k10).trans (if_pos k18))))))])] at ih1
                  exact gf_lw ih1 ⟨rfl, rfl, rfl, lvE (nI_1 (x + jz)), trivial⟩
              · have k10 : c = 10 := zc169
                refine gf_aload_n 0 dX12_tells_172 rfl rfl ?_
                refine gf_aload_n 0 dX12_tells_173 rfl rfl ?_
                refine gf_getI flX12_526 rfl dX12_tells_174 (gt_247 hG) ?_
                refine gf_i2l dX12_tells_177 ?_
                refine gf_callV cmX12_puts lkX12_509 imX12_puts seX12_puts ⟨rfl, by decide⟩ dX12_tells_178 (d1 := d - 1) (by omega) (gt_247 hG) (e_X12_puts E (by omega) Q2 (M 0 72).toInt64 h hG M N (by have q := hk; unfold okc at q; rw [if_pos (Or.inr (Or.inr (Or.inr (Or.inr (Or.inl k10)))))] at q; exact q)) rfl rfl (Nat.le_of_ble_eq_true rfl) ?_
                refine gf_goto 300 dX12_tells_181 rfl ?_
                refine gf_iinc (1) dX12_tells_300 rfl rfl (Nat.le_of_ble_eq_true rfl) ?_
                refine gf_goto 12 dX12_tells_303 rfl ?_
                rw [show tlB (mtV M n s w g cc) (p, Q2) c = (p + 1, va_up Q2 p (M 0 72).toInt64) from (if_pos (Or.inr (Or.inr (Or.inr (Or.inr (Or.inl k10)))))).trans (by rw [show (mtV M n s w g cc) c = (M 0 72).toInt64 from (if_neg k1000).trans ((if_neg k100).trans ((if_neg k7).trans ((if_neg k8).trans ((if_neg k9).trans (if_pos k10)))))])] at ih1
                exact gf_lw ih1 ⟨rfl, rfl, rfl, lvE (nI_1 (x + jz)), trivial⟩
            · have k9 : c = 9 := zc145
              refine gf_aload_n 0 dX12_tells_148 rfl rfl ?_
              refine gf_aload_n 0 dX12_tells_149 rfl rfl ?_
              refine gf_getR flX12_118 rfl dX12_tells_150 (gt_247 hG) (gp_247_46 hG) ?_
              refine gf_aload_n 0 dX12_tells_153 rfl rfl ?_
              refine gf_getI flX12_523 rfl dX12_tells_154 (gt_247 hG) ?_
              rw [show hp_i (sP h M N (p, Q2)) 247 71 = nI cc from hcc]
              refine gf_iald 120 dX12_tells_157 (gt_280 hG) (gl_280 hG) rfl (by omega) (by decide) ?_
              refine gf_i2l dX12_tells_158 ?_
              refine gf_callV cmX12_puts lkX12_509 imX12_puts seX12_puts ⟨rfl, by decide⟩ dX12_tells_159 (d1 := d - 1) (by omega) (gt_247 hG) (e_X12_puts E (by omega) Q2 (M 33 cc).toInt64 h hG M N (by have q := hk; unfold okc at q; rw [if_pos (Or.inr (Or.inr (Or.inr (Or.inl k9))))] at q; exact q)) rfl rfl (Nat.le_of_ble_eq_true rfl) ?_
              refine gf_goto 300 dX12_tells_162 rfl ?_
              refine gf_iinc (1) dX12_tells_300 rfl rfl (Nat.le_of_ble_eq_true rfl) ?_
              refine gf_goto 12 dX12_tells_303 rfl ?_
              rw [show tlB (mtV M n s w g cc) (p, Q2) c = (p + 1, va_up Q2 p (M 33 cc).toInt64) from (if_pos (Or.inr (Or.inr (Or.inr (Or.inl k9))))).trans (by rw [show (mtV M n s w g cc) c = (M 33 cc).toInt64 from (if_neg k1000).trans ((if_neg k100).trans ((if_neg k7).trans ((if_neg k8).trans (if_pos k9))))])] at ih1
              exact gf_lw ih1 ⟨rfl, rfl, rfl, lvE (nI_1 (x + jz)), trivial⟩
          · have k8 : c = 8 := zc121
            refine gf_aload_n 0 dX12_tells_124 rfl rfl ?_
            refine gf_aload_n 0 dX12_tells_125 rfl rfl ?_
            refine gf_getR flX12_115 rfl dX12_tells_126 (gt_247 hG) (gp_247_45 hG) ?_
            refine gf_aload_n 0 dX12_tells_129 rfl rfl ?_
            refine gf_getI flX12_523 rfl dX12_tells_130 (gt_247 hG) ?_
            rw [show hp_i (sP h M N (p, Q2)) 247 71 = nI cc from hcc]
            refine gf_iald 120 dX12_tells_133 (gt_279 hG) (gl_279 hG) rfl (by omega) (by decide) ?_
            refine gf_i2l dX12_tells_134 ?_
            refine gf_callV cmX12_puts lkX12_509 imX12_puts seX12_puts ⟨rfl, by decide⟩ dX12_tells_135 (d1 := d - 1) (by omega) (gt_247 hG) (e_X12_puts E (by omega) Q2 (M 32 cc).toInt64 h hG M N (by have q := hk; unfold okc at q; rw [if_pos (Or.inr (Or.inr (Or.inl k8)))] at q; exact q)) rfl rfl (Nat.le_of_ble_eq_true rfl) ?_
            refine gf_goto 300 dX12_tells_138 rfl ?_
            refine gf_iinc (1) dX12_tells_300 rfl rfl (Nat.le_of_ble_eq_true rfl) ?_
            refine gf_goto 12 dX12_tells_303 rfl ?_
            rw [show tlB (mtV M n s w g cc) (p, Q2) c = (p + 1, va_up Q2 p (M 32 cc).toInt64) from (if_pos (Or.inr (Or.inr (Or.inl k8)))).trans (by rw [show (mtV M n s w g cc) c = (M 32 cc).toInt64 from (if_neg k1000).trans ((if_neg k100).trans ((if_neg k7).trans (if_pos k8)))])] at ih1
            exact gf_lw ih1 ⟨rfl, rfl, rfl, lvE (nI_1 (x + jz)), trivial⟩
        · have k7 : c = 7 := zc97
          refine gf_aload_n 0 dX12_tells_100 rfl rfl ?_
          refine gf_aload_n 0 dX12_tells_101 rfl rfl ?_
          refine gf_getR flX12_112 rfl dX12_tells_102 (gt_247 hG) (gp_247_44 hG) ?_
          refine gf_aload_n 0 dX12_tells_105 rfl rfl ?_
          refine gf_getI flX12_523 rfl dX12_tells_106 (gt_247 hG) ?_
          rw [show hp_i (sP h M N (p, Q2)) 247 71 = nI cc from hcc]
          refine gf_iald 120 dX12_tells_109 (gt_278 hG) (gl_278 hG) rfl (by omega) (by decide) ?_
          refine gf_i2l dX12_tells_110 ?_
          refine gf_callV cmX12_puts lkX12_509 imX12_puts seX12_puts ⟨rfl, by decide⟩ dX12_tells_111 (d1 := d - 1) (by omega) (gt_247 hG) (e_X12_puts E (by omega) Q2 (M 31 cc).toInt64 h hG M N (by have q := hk; unfold okc at q; rw [if_pos (Or.inr (Or.inl k7))] at q; exact q)) rfl rfl (Nat.le_of_ble_eq_true rfl) ?_
          refine gf_goto 300 dX12_tells_114 rfl ?_
          refine gf_iinc (1) dX12_tells_300 rfl rfl (Nat.le_of_ble_eq_true rfl) ?_
          refine gf_goto 12 dX12_tells_303 rfl ?_
          rw [show tlB (mtV M n s w g cc) (p, Q2) c = (p + 1, va_up Q2 p (M 31 cc).toInt64) from (if_pos (Or.inr (Or.inl k7))).trans (by rw [show (mtV M n s w g cc) c = (M 31 cc).toInt64 from (if_neg k1000).trans ((if_neg k100).trans (if_pos k7))])] at ih1
          exact gf_lw ih1 ⟨rfl, rfl, rfl, lvE (nI_1 (x + jz)), trivial⟩
      · have k100 : 100 ≤ c := by have w2 := zc62; rw [fa_lt] at w2; rw [fa_le]; omega
        refine gf_aload_n 0 dX12_tells_65 rfl rfl ?_
        refine gf_aload_n 0 dX12_tells_66 rfl rfl ?_
        refine gf_iload dX12_tells_67 rfl ?_
        refine gf_bipush (100) dX12_tells_69 rfl ?_
        refine gf_isub dX12_tells_71 ?_
        refine gf_aload_n 0 dX12_tells_72 rfl rfl ?_
        refine gf_getI flX12_523 rfl dX12_tells_73 (gt_247 hG) ?_
        rw [show hp_i (sP h M N (p, Q2)) 247 71 = nI cc from hcc]
        refine gf_callV cmX12_hasPolicy lkX12_535 imX12_hasPolicy seX12_hasPolicy ⟨rfl, by decide⟩ dX12_tells_76 (d1 := d - 1) (by omega) (gt_247 hG) (e_X12_hasPolicy E (by omega) (c - 100) (nI cc) h hG (up2 M 0 70 (nI p)) (uprL N 52 Q2) A) rfl rfl (Nat.le_of_ble_eq_true rfl) ?_
        rw [show anyb (mhB (up2 M 0 70 (nI p)) s (c - 100) (nI cc)) n = anyb (mhB M s (c - 100) (nI cc)) n from rfl]
        change gf _ _ _ _ _ _ (sP h M N (p, Q2)) _ _
        refine gf_if_eq 86 dX12_tells_79 rfl (fun zc79 => ?_) (fun zc79 => ?_)
        · have hb79 : ¬ anyb (mhB M s (c - 100) (nI cc)) n = true := fun q => by rw [bI_f zc79] at q; cases q
          refine gf_lconst (0) dX12_tells_86 rfl ?_
          refine gf_callV cmX12_puts lkX12_509 imX12_puts seX12_puts ⟨rfl, by decide⟩ dX12_tells_87 (d1 := d - 1) (by omega) (gt_247 hG) (e_X12_puts E (by omega) Q2 (0 : Int64) h hG M N (by have q := hk; unfold okc at q; rw [if_pos (Or.inl k100)] at q; exact q)) rfl rfl (Nat.le_of_ble_eq_true rfl) ?_
          refine gf_goto 300 dX12_tells_90 rfl ?_
          refine gf_iinc (1) dX12_tells_300 rfl rfl (Nat.le_of_ble_eq_true rfl) ?_
          refine gf_goto 12 dX12_tells_303 rfl ?_
          rw [show tlB (mtV M n s w g cc) (p, Q2) c = (p + 1, va_up Q2 p (0 : Int64)) from (if_pos (Or.inl k100)).trans (by rw [show (mtV M n s w g cc) c = (0 : Int64) from (if_neg k1000).trans ((if_pos k100).trans (if_neg hb79))])] at ih1
          exact gf_lw ih1 ⟨rfl, rfl, rfl, lvE (nI_1 (x + jz)), trivial⟩
        · have hb79 : anyb (mhB M s (c - 100) (nI cc)) n = true := bI_t zc79
          refine gf_lconst (1) dX12_tells_82 rfl ?_
          refine gf_goto 87 dX12_tells_83 rfl ?_
          refine gf_callV cmX12_puts lkX12_509 imX12_puts seX12_puts ⟨rfl, by decide⟩ dX12_tells_87 (d1 := d - 1) (by omega) (gt_247 hG) (e_X12_puts E (by omega) Q2 (1 : Int64) h hG M N (by have q := hk; unfold okc at q; rw [if_pos (Or.inl k100)] at q; exact q)) rfl rfl (Nat.le_of_ble_eq_true rfl) ?_
          refine gf_goto 300 dX12_tells_90 rfl ?_
          refine gf_iinc (1) dX12_tells_300 rfl rfl (Nat.le_of_ble_eq_true rfl) ?_
          refine gf_goto 12 dX12_tells_303 rfl ?_
          rw [show tlB (mtV M n s w g cc) (p, Q2) c = (p + 1, va_up Q2 p (1 : Int64)) from (if_pos (Or.inl k100)).trans (by rw [show (mtV M n s w g cc) c = (1 : Int64) from (if_neg k1000).trans ((if_pos k100).trans (if_pos hb79))])] at ih1
          exact gf_lw ih1 ⟨rfl, rfl, rfl, lvE (nI_1 (x + jz)), trivial⟩
    · have k1000 : 1000 ≤ c := by have w2 := zc41; rw [fa_lt] at w2; rw [fa_le]; omega
      refine gf_aload_n 0 dX12_tells_44 rfl rfl ?_
      refine gf_iload dX12_tells_45 rfl ?_
      refine gf_sipush (1000) dX12_tells_47 rfl ?_
      refine gf_isub dX12_tells_50 ?_
      refine gf_i2l dX12_tells_51 ?_
      refine gf_callV cmX12_puts lkX12_509 imX12_puts seX12_puts ⟨rfl, by decide⟩ dX12_tells_52 (d1 := d - 1) (by omega) (gt_247 hG) (e_X12_puts E (by omega) Q2 (c - 1000).toInt64 h hG M N (by have q := hk; unfold okc at q; rw [if_pos (Or.inl (Int32.le_trans (by decide) k1000))] at q; exact q)) rfl rfl (Nat.le_of_ble_eq_true rfl) ?_
      refine gf_goto 300 dX12_tells_55 rfl ?_
      refine gf_iinc (1) dX12_tells_300 rfl rfl (Nat.le_of_ble_eq_true rfl) ?_
      refine gf_goto 12 dX12_tells_303 rfl ?_
      rw [show tlB (mtV M n s w g cc) (p, Q2) c = (p + 1, va_up Q2 p (c - 1000).toInt64) from (if_pos (Or.inl (Int32.le_trans (by decide) k1000))).trans (by rw [show (mtV M n s w g cc) c = (c - 1000).toInt64 from if_pos k1000])] at ih1
      exact gf_lw ih1 ⟨rfl, rfl, rfl, lvE (nI_1 (x + jz)), trivial⟩
theorem e_X12_tells (E : gE) {d : Nat} (hd : 4 ≤ d) {n s w g cc a r x m : Nat} (h : hp_T) (hG : gr h) (M : mM) (N : mN) (A : macI M n s) (C : (1 ≤ w ∧ w ≤ 12 ∧ 1 ≤ g ∧ g ≤ 10) ∧ M 0 42 = nI w ∧ M 0 43 = nI g) (hcc : M 0 71 = nI cc) (hcw : cc < w * g) (ha : a ≤ 200) (hxm : x + m ≤ 640) (hok : okS (fun k => M 29 (640 * a + k)) x m) (W : tW) (hx : M 27 r = nI x) (hy : M 28 r = nI (x + m)) (hr : r < 4824) : ev E mX12_tells d [.ref (E.1 + 247), .int (nI a), .int (nI r)] (sP h M N W) (some (.long ((tlS (mtV M n s w g cc) (fun k => M 29 (640 * a + k)) x W.2 m).2 0))) (sP h M N (tlS (mtV M n s w g cc) (fun k => M 29 (640 * a + k)) x W.2 m)) := by
  refine ev_of rfl (fun q => absurd q (by decide)) (Nat.le_of_ble_eq_true rfl) ?_
  refine gf_aload_n 0 dX12_tells_0 rfl rfl ?_
  refine gf_iconst (0) dX12_tells_1 rfl ?_
  refine gf_putI flX12_502 rfl rfl dX12_tells_2 (gt_247 hG) ⟨rfl, rfl⟩ ?_
  unfold sP
  rw [mI_0, up2_up2]
  change gf _ _ _ _ _ _ (sP h M N (0, W.2)) _ (sP h M N (tlS (mtV M n s w g cc) (fun k => M 29 (640 * a + k)) x W.2 m))
  refine gf_aload_n 0 dX12_tells_5 rfl rfl ?_
  refine gf_getR flX12_93 rfl dX12_tells_6 (gt_247 hG) (gp_247_34 hG) ?_
  refine gf_iload_n 2 dX12_tells_9 rfl rfl ?_
  refine gf_iald 4824 dX12_tells_10 (gt_274 hG) (gl_274 hG) rfl hr (by decide) ?_
  rw [show hp_i (sP h M N (0, W.2)) 274 r = nI x from hx]
  refine gf_istore_n 3 dX12_tells_11 rfl (Nat.le_of_ble_eq_true rfl) ?_
  refine gf_lw (l_X12_tells E hd h hG M N A C hcc hcw ha hxm hok W.2 hy hr ?_ m 0 (by omega)) ⟨rfl, rfl, rfl, rfl, trivial⟩
  refine gf_aload_n 0 dX12_tells_306 rfl rfl ?_
  refine gf_getR flX12_179 rfl dX12_tells_307 (gt_247 hG) (gp_247_69 hG) ?_
  refine gf_iconst (0) dX12_tells_310 rfl ?_
  refine gf_lald 700 dX12_tells_311 (gt_299 hG) (gl_299 hG) (rfl : (0 : Int32) = nI 0) (by decide) (by decide) ?_
  exact gf_lretE dX12_tells_312 rfl (rfl) (rfl)
