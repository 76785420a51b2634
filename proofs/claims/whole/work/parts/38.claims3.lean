/-! ===== the class: claims over one house and all ===== -/
theorem ev_he {E : gE} {M : gM} {d : Nat} {av : List Value} {h h1 h2 : hp_T} {v : Option Value} (e : h1 = h2) (k : ev E M d av h v h1) : ev E M d av h v h2 := e ▸ k
def samT (h h' : hp_T) : Prop := ∀ a, 333 ≤ a → hp_i h' a = hp_i h a ∧ hp_r h' a = hp_r h a ∧ hp_tag h' a = hp_tag h a ∧ hp_len h' a = hp_len h a
theorem sam_parts {h h' : hp_T} (m : samT h h') {b : Nat} (T : tOK h b) : tn h' b = tn h b ∧ tcd h' b = tcd h b ∧ tkd h' b = tkd h b ∧ tfr h' b = tfr h b := by
  obtain ⟨L, hTb, hn0, hn24, hL6, hb3, ca, ka, fa, hge, hr, -⟩ := T
  obtain ⟨m1, m2, -⟩ := m b hb3
  unfold tn tcd tkd tfr
  rw [m1, m2, hr.1, hr.2.1, hr.2.2]
  exact ⟨rfl, (m ca hge.1).1, (m ka hge.2.1).1, (m fa hge.2.2).1⟩
theorem sam_tOK {h h' : hp_T} (m : samT h h') {b : Nat} (T : tOK h b) : tOK h' b := by
  obtain ⟨e1, e2, e3, e4⟩ := sam_parts m T
  obtain ⟨L, hTb, hn0, hn24, hL6, hb3, ca, ka, fa, hge, hr, hca, hka, hfa, hq⟩ := T
  obtain ⟨m1, m2, m3, m4⟩ := m b hb3
  obtain ⟨a1, a2, a3, a4⟩ := m ca hge.1
  obtain ⟨k1, k2, k3, k4⟩ := m ka hge.2.1
  obtain ⟨f1, f2, f3, f4⟩ := m fa hge.2.2
  refine ⟨L, ?_⟩
  unfold trm
  rw [e1, e2, e3, e4, m1, m2, m3]
  refine ⟨hTb, hn0, hn24, hL6, hb3, ca, ka, fa, hge, hr, ?_, ?_, ?_, hq⟩
  · rw [a1, a3, a4]; exact hca
  · rw [k1, k3, k4]; exact hka
  · rw [f1, f3, f4]; exact hfa
theorem sam_some {h h' : hp_T} (m : samT h h') (S : kS) {t : Option Nat} (hT : ∀ b, t = some b → tOK h b) (kind : Int32) : someS h' S t kind = someS h S t kind := by
  cases t with
  | none => rfl
  | some b =>
    obtain ⟨e1, e2, e3, e4⟩ := sam_parts m (hT b rfl)
    show smF S (tcd h' b) (tkd h' b) (tfr h' b) kind (tn h' b) 0 (S.1 8) = _
    rw [e1, e2, e3, e4]
    rfl
theorem sam_prm {h h' : hp_T} (m : samT h h') (S : kS) {t : Option Nat} (hT : ∀ b, t = some b → tOK h b) : prmS h' S t = prmS h S t := by
  cases t with
  | none => rfl
  | some b =>
    obtain ⟨e1, e2, e3, e4⟩ := sam_parts m (hT b rfl)
    obtain ⟨L, hTb, hn0, hn24, hL6, hb3, -⟩ := hT b rfl
    show (if hp_i h' b 5 = -1 then (0, S.1 8) else (max0 (vofV (stm S (tcd h' b) (tfr h' b) (hp_i h' b 5).toNatClampNeg)), (stm S (tcd h' b) (tfr h' b) (hp_i h' b 5).toNatClampNeg).2)) = _
    rw [e2, e4, (m b hb3).1]
    rfl
theorem sam_ask {h h' : hp_T} (m : samT h h') (S : kS) {t : Option Nat} (hT : ∀ b, t = some b → tOK h b) : askS h' S t = askS h S t := by
  cases t with
  | none => rfl
  | some b =>
    obtain ⟨e1, e2, e3, e4⟩ := sam_parts m (hT b rfl)
    obtain ⟨L, hTb, hn0, hn24, hL6, hb3, -⟩ := hT b rfl
    unfold askS
    simp only [sam_some m _ hT, e2, e4, (m b hb3).1]
theorem sam_hcl (h : hp_T) {b : Nat} (X : Nat → Nat → Int32) (R : Nat → Int64) (hb : b ≤ 300) : samT h (hcl h b X R) := fun a ha => ⟨if_neg (by omega), rfl, rfl, rfl⟩
theorem sam_hk (h : hp_T) (S : kS) : samT h (hk h S) := fun _ ha => ⟨hk_hi h S ha, hk_hr h S ha, rfl, rfl⟩
/-- what is known is in order: p policies -/
def knI (h : hp_T) (p : Nat) (S : kS) : Prop := S.1 0 0 = nI p ∧ p ≤ 200 ∧ ∀ i, i < p → ∃ a c x, (1 ≤ a ∧ a ≤ 200) ∧ S.1 2 i = nI a ∧ (c < 120 ∧ hp_i h 160 a = nI c) ∧ (x < 9 ∧ hp_i h 159 a = nI x)
theorem takS_row (S : kS) (a b c : Int32) {r : Nat} (h7 : r ≠ 7) : (takS S a b c).1 r = S.1 r := (up2_row h7).trans ((up2_row h7).trans (up2_row h7))
theorem kR_row (S : kS) (w : Nat → Int32) {r : Nat} (h8 : r ≠ 8) : (kR S w).1 r = S.1 r := if_neg h8
/-- one policy of a house -/
def shB (h : hp_T) (c : Nat) (loss : Int32) (z : (Nat → Nat → Int32) × kS) (i : Nat) : (Nat → Nat → Int32) × kS :=
  if hp_i h 160 (z.2.1 2 i).toNatClampNeg = nI c then (up2 (up2 (up2 z.1 2 (z.2.1 2 i).toNatClampNeg (askS h (takS z.2 (hp_i h 161 (z.2.1 2 i).toNatClampNeg) (z.2.1 4 c - 1) loss) (z.2.2 (hp_i h 159 (z.2.1 2 i).toNatClampNeg).toNatClampNeg)).1) 5 (z.1 0 9).toNatClampNeg (z.2.1 2 i)) 0 9 (z.1 0 9 + 1), kR (takS z.2 (hp_i h 161 (z.2.1 2 i).toNatClampNeg) (z.2.1 4 c - 1) loss) (askS h (takS z.2 (hp_i h 161 (z.2.1 2 i).toNatClampNeg) (z.2.1 4 c - 1) loss) (z.2.2 (hp_i h 159 (z.2.1 2 i).toNatClampNeg).toNatClampNeg)).2) else z
theorem shB_t {h : hp_T} {c : Nat} {loss : Int32} {z : (Nat → Nat → Int32) × kS} {i a x : Nat} (ea : z.2.1 2 i = nI a) (ha : a ≤ 200) (hx : hp_i h 159 a = nI x) (hx9 : x < 9) (hc : hp_i h 160 a = nI c) {m : Nat} (hm : z.1 0 9 = nI m) (hm2 : m ≤ 200) : shB h c loss z i = (up2 (up2 (up2 z.1 2 a (askS h (takS z.2 (hp_i h 161 a) (z.2.1 4 c - 1) loss) (z.2.2 x)).1) 5 m (nI a)) 0 9 (nI m + 1), kR (takS z.2 (hp_i h 161 a) (z.2.1 4 c - 1) loss) (askS h (takS z.2 (hp_i h 161 a) (z.2.1 4 c - 1) loss) (z.2.2 x)).2) := by
  unfold shB
  rw [ea, nI_clamp (by omega), hx, nI_clamp (by omega), if_pos hc, hm, nI_clamp (by omega)]
theorem shB_f {h : hp_T} {c : Nat} {loss : Int32} {z : (Nat → Nat → Int32) × kS} {i a : Nat} (ea : z.2.1 2 i = nI a) (ha : a ≤ 200) (hc : ¬ hp_i h 160 a = nI c) : shB h c loss z i = z := by
  unfold shB
  rw [ea, nI_clamp (by omega), if_neg hc]
theorem shB_row (h : hp_T) (c : Nat) (loss : Int32) (z : (Nat → Nat → Int32) × kS) (i : Nat) {r : Nat} (h7 : r ≠ 7) (h8 : r ≠ 8) : (shB h c loss z i).2.1 r = z.2.1 r := by
  unfold shB
  split
  · exact (kR_row _ _ h8).trans (takS_row _ _ _ _ h7)
  · rfl
theorem shB_2 (h : hp_T) (c : Nat) (loss : Int32) (z : (Nat → Nat → Int32) × kS) (i : Nat) : (shB h c loss z i).2.2 = z.2.2 := by
  unfold shB
  split <;> rfl
theorem sh_row (h : hp_T) (c : Nat) (loss : Int32) (z : (Nat → Nat → Int32) × kS) {r : Nat} (h7 : r ≠ 7) (h8 : r ≠ 8) : ∀ n, (itN (shB h c loss) z n).2.1 r = z.2.1 r
  | 0 => rfl
  | n + 1 => (shB_row h c loss _ n h7 h8).trans (sh_row h c loss z h7 h8 n)
theorem sh_2 (h : hp_T) (c : Nat) (loss : Int32) (z : (Nat → Nat → Int32) × kS) : ∀ n, (itN (shB h c loss) z n).2.2 = z.2.2
  | 0 => rfl
  | n + 1 => (shB_2 h c loss _ n).trans (sh_2 h c loss z n)
theorem sh_her (h : hp_T) (c : Nat) (loss : Int32) (z : (Nat → Nat → Int32) × kS) {p : Nat} (K : knI h p z.2) (h0 : z.1 0 9 = 0) : ∀ n, n ≤ p → ∃ m, m ≤ n ∧ herI h m (itN (shB h c loss) z n).1
  | 0, _ => ⟨0, Nat.le_refl _, h0, Nat.zero_le _, fun i hi => absurd hi (Nat.not_lt_zero i)⟩
  | n + 1, hn => by
    obtain ⟨m, hm, I⟩ := sh_her h c loss z K h0 n (by omega)
    have hp2 := K.2.1
    obtain ⟨a, c', x, ha, ea, hc', hx⟩ := K.2.2 n (by omega)
    have ea' : (itN (shB h c loss) z n).2.1 2 n = nI a := by rw [sh_row h c loss z (by decide) (by decide)]; exact ea
    by_cases hc : hp_i h 160 a = nI c
    · refine ⟨m + 1, by omega, ?_⟩
      show herI h (m + 1) (shB h c loss (itN (shB h c loss) z n) n).1
      rw [shB_t ea' ha.2 hx.2 hx.1 hc I.1 (by omega)]
      refine ⟨?_, by omega, fun i hi => ?_⟩
      · dsimp only
        rw [up2_s, nI_1]
      · rcases Nat.lt_succ_iff_lt_or_eq.mp hi with q | q
        · obtain ⟨a2, x2, q1, q2, q3⟩ := I.2.2 i q
          exact ⟨a2, x2, q1, by show (if 5 = 5 ∧ i = m then nI a else (itN (shB h c loss) z n).1 5 i) = nI a2; rw [if_neg (fun w => by omega)]; exact q2, q3⟩
        · refine ⟨a, x, by omega, ?_, hx.1, hx.2⟩
          show (if 5 = 5 ∧ i = m then nI a else (itN (shB h c loss) z n).1 5 i) = nI a
          rw [if_pos ⟨rfl, q⟩]
    · refine ⟨m, by omega, ?_⟩
      show herI h m (shB h c loss (itN (shB h c loss) z n) n).1
      rw [shB_f ea' ha.2 hc]
      exact I
theorem knI_row {h : hp_T} {p : Nat} {S S' : kS} (K : knI h p S) (h0 : S'.1 0 = S.1 0) (h2 : S'.1 2 = S.1 2) : knI h p S' := by
  unfold knI
  rw [h0, h2]
  exact K
theorem sh_kn (h : hp_T) (c : Nat) (loss : Int32) (z : (Nat → Nat → Int32) × kS) {p : Nat} (K : knI h p z.2) (n : Nat) : knI h p (itN (shB h c loss) z n).2 := knI_row K (sh_row h c loss z (by decide) (by decide) n) (sh_row h c loss z (by decide) (by decide) n)
abbrev cS : Type := fS × kS
def goK (h : hp_T) (w g : Nat) (S : kS) (c : Nat) : kS := goS (hp_i h) (nI (fa_cnt (hsN (hp_i h 2) w g c) 8)) S c
def shS (h : hp_T) (w g c : Nat) (loss : Int32) (Z : cS) (p : Nat) : (Nat → Nat → Int32) × kS := itN (shB h c loss) (up2 Z.1.1 0 9 0, goK h w g Z.2 c) p
/-- what one house's loss pays, once it is known who asks for what -/
def payS (h : hp_T) (S : kS) (X : Nat → Nat → Int32) (R : Nat → Int64) (loss : Int32) (m : Nat) : fS :=
  ((pitS (besB (hk h S) 22) (pbpS (besB (hk h S) 21) ((pitS (besB (hk h S) 20) X loss m).1, R) (pitS (besB (hk h S) 20) X loss m).2 m).1.1 (pbpS (besB (hk h S) 21) ((pitS (besB (hk h S) 20) X loss m).1, R) (pitS (besB (hk h S) 20) X loss m).2 m).2 m).1, (pbpS (besB (hk h S) 21) ((pitS (besB (hk h S) 20) X loss m).1, R) (pitS (besB (hk h S) 20) X loss m).2 m).1.2)
def stlS (h : hp_T) (w g c : Nat) (loss : Int32) (Z : cS) (p : Nat) : cS := (payS h (shS h w g c loss Z p).2 (shS h w g c loss Z p).1 Z.1.2 loss ((shS h w g c loss Z p).1 0 9).toNatClampNeg, (shS h w g c loss Z p).2)
theorem pbpS_row (B : Nat → Bool) (S : fS) (left : Int32) (n : Nat) {r : Nat} (h3 : r ≠ 3) : (pbpS B S left n).1.1 r = S.1 r := by
  unfold pbpS
  split
  · exact (prS_row _ _ h3 _).trans (flS_row _ _ _ _ h3 _)
  · exact pitS_row _ _ _ h3 _
theorem hclk_186 (h : hp_T) (X : Nat → Nat → Int32) (R : Nat → Int64) (S : kS) : hcl (hk h S) 186 X R = hk (hcl h 186 X R) S := by
  unfold hcl hk hrl hrr hb
  refine congrArg (fun z => (h.1, h.2.1, h.2.2.1, h.2.2.2.1, z, (fun x => if x = 186 + 6 then R else h.2.2.2.2.2.1 x), (fun x => if x = 166 then S.2 else h.2.2.2.2.2.2 x))) ?_
  funext x
  by_cases h1 : 186 ≤ x ∧ x < 186 + 6
  · have h2 : ¬ (165 ≤ x ∧ x < 165 + 9) := by omega
    simp only [h1, h2, if_true, if_false, and_self]
  · by_cases h2 : 165 ≤ x ∧ x < 165 + 9
    · simp only [h1, h2, if_true, if_false, and_self]
    · simp only [h1, h2, if_false]
theorem hd186_0 (h : hp_T) (X : Nat → Nat → Int32) (R : Nat → Int64) (S : kS) (k : Nat) (v : Int32) : hp_setI (hk (hcl h 186 X R) S) 186 k v = hk (hcl h 186 (up2 X 0 k v) R) S := by
  rw [← hclk_186, hc186_0, hclk_186]
theorem hd186_1 (h : hp_T) (X : Nat → Nat → Int32) (R : Nat → Int64) (S : kS) (k : Nat) (v : Int32) : hp_setI (hk (hcl h 186 X R) S) 187 k v = hk (hcl h 186 (up2 X 1 k v) R) S := by
  rw [← hclk_186, hc186_1, hclk_186]
theorem hd186_2 (h : hp_T) (X : Nat → Nat → Int32) (R : Nat → Int64) (S : kS) (k : Nat) (v : Int32) : hp_setI (hk (hcl h 186 X R) S) 188 k v = hk (hcl h 186 (up2 X 2 k v) R) S := by
  rw [← hclk_186, hc186_2, hclk_186]
theorem hd186_3 (h : hp_T) (X : Nat → Nat → Int32) (R : Nat → Int64) (S : kS) (k : Nat) (v : Int32) : hp_setI (hk (hcl h 186 X R) S) 189 k v = hk (hcl h 186 (up2 X 3 k v) R) S := by
  rw [← hclk_186, hc186_3, hclk_186]
theorem hd186_4 (h : hp_T) (X : Nat → Nat → Int32) (R : Nat → Int64) (S : kS) (k : Nat) (v : Int32) : hp_setI (hk (hcl h 186 X R) S) 190 k v = hk (hcl h 186 (up2 X 4 k v) R) S := by
  rw [← hclk_186, hc186_4, hclk_186]
theorem hd186_5 (h : hp_T) (X : Nat → Nat → Int32) (R : Nat → Int64) (S : kS) (k : Nat) (v : Int32) : hp_setI (hk (hcl h 186 X R) S) 191 k v = hk (hcl h 186 (up2 X 5 k v) R) S := by
  rw [← hclk_186, hc186_5, hclk_186]
theorem hd186_6 (h : hp_T) (X : Nat → Nat → Int32) (R : Nat → Int64) (S : kS) (k : Nat) (v : Int64) : hp_setL (hk (hcl h 186 X R) S) 192 k v = hk (hcl h 186 X (va_up R k v)) S := by
  rw [← hclk_186, hc186_6, hclk_186]
theorem l_X2_settleHouse_186 (E : gE) {d : Nat} (hd : 5 ≤ d) {c p : Nat} (loss : Int32) (h : hp_T) (hG : gr h) (X : Nat → Nat → Int32) (R : Nat → Int64) (S : kS) (hT : ∀ o, o < 9 → ∀ b, S.2 o = some b → tOK h b) (Kn : knI h p S) (hc : c < 120) (h0 : X 0 9 = 0) {v : Option Value} {hz : hp_T} (K : gf E mX2_settleHouse d 139 [(0, .ref (E.1 + 186)), (1, .int (nI c)), (2, .int loss), (3, .int (nI (p)))] [] (hk (hcl h 186 (itN (shB h c loss) (X, S) (p)).1 R) (itN (shB h c loss) (X, S) (p)).2) v hz) : ∀ (kz jz : Nat), jz + kz = p → gf E mX2_settleHouse d 15 [(0, .ref (E.1 + 186)), (1, .int (nI c)), (2, .int loss), (3, .int (nI (jz)))] [] (hk (hcl h 186 (itN (shB h c loss) (X, S) (jz)).1 R) (itN (shB h c loss) (X, S) (jz)).2) v hz := by
  intro kz
  induction kz with
  | zero =>
    intro jz hj
    have hj : p = jz := by omega
    subst hj
    refine gf_iload_n 3 dX2_settleHouse_15 rfl rfl ?_
    refine gf_aload_n 0 dX2_settleHouse_16 rfl rfl ?_
    refine gf_getR flX2_36 rfl dX2_settleHouse_17 (gt_186 (gr_k _ hG)) (gp_186_5 (gr_k _ hG)) ?_
    refine gf_getI flX2_50 rfl dX2_settleHouse_20 (gt_165 (gr_k _ hG)) ?_
    refine gf_icmp_ge 139 dX2_settleHouse_23 rfl (fun _ => ?_) (fun q => absurd (by rw [show hp_i (hk (hcl h 186 (itN (shB h c loss) (X, S) (p)).1 R) (itN (shB h c loss) (X, S) (p)).2) 165 0 = nI p from (congrFun (sh_row h c loss (X, S) (by decide) (by decide) _) 0).trans Kn.1]; exact Int32.le_refl _) q)
    exact gf_lw K ⟨rfl, rfl, rfl, rfl, trivial⟩
  | succ kz ih =>
    intro jz hj
    obtain ⟨a, c2, x, ha, ea, ⟨hc2, hac⟩, hx9, hx⟩ := Kn.2.2 jz (by omega)
    obtain ⟨m, hm, I⟩ := sh_her h c loss (X, S) Kn h0 jz (by omega)
    have hp2 := Kn.2.1
    have e2 : (itN (shB h c loss) (X, S) jz).2.1 2 jz = nI a := by rw [sh_row h c loss (X, S) (by decide) (by decide)]; exact ea
    have hTz : ∀ b, (itN (shB h c loss) (X, S) jz).2.2 x = some b → tOK h b := fun b hb => hT x hx9 b (by rw [← hb, sh_2])
    have hS1 : (itN (shB h c loss) (X, S) (jz + 1)) = shB h c loss (itN (shB h c loss) (X, S) jz) jz := rfl
    refine gf_iload_n 3 dX2_settleHouse_15 rfl rfl ?_
    refine gf_aload_n 0 dX2_settleHouse_16 rfl rfl ?_
    refine gf_getR flX2_36 rfl dX2_settleHouse_17 (gt_186 (gr_k _ hG)) (gp_186_5 (gr_k _ hG)) ?_
    refine gf_getI flX2_50 rfl dX2_settleHouse_20 (gt_165 (gr_k _ hG)) ?_
    refine gf_icmp_ge 139 dX2_settleHouse_23 rfl (fun q => absurd q (by rw [show hp_i (hk (hcl h 186 (itN (shB h c loss) (X, S) jz).1 R) (itN (shB h c loss) (X, S) jz).2) 165 0 = nI p from (congrFun (sh_row h c loss (X, S) (by decide) (by decide) _) 0).trans Kn.1]; exact nI_ge (by omega) (by have := Kn.2.1; omega))) (fun _ => ?_)
    refine gf_aload_n 0 dX2_settleHouse_26 rfl rfl ?_
    refine gf_getR flX2_36 rfl dX2_settleHouse_27 (gt_186 (gr_k _ hG)) (gp_186_5 (gr_k _ hG)) ?_
    refine gf_getR flX2_56 rfl dX2_settleHouse_30 (gt_165 (gr_k _ hG)) (gp_165_2 (gr_k _ hG)) ?_
    refine gf_iload_n 3 dX2_settleHouse_33 rfl rfl ?_
    refine gf_iald 200 dX2_settleHouse_34 (gt_167 (gr_k _ hG)) (gl_167 (gr_k _ hG)) rfl (by omega) (by decide) ?_
    rw [show hp_i (hk (hcl h 186 (itN (shB h c loss) (X, S) jz).1 R) (itN (shB h c loss) (X, S) jz).2) 167 jz = nI a from e2]
    refine gf_istore dX2_settleHouse_35 (Nat.le_of_ble_eq_true rfl) ?_
    refine gf_aload_n 0 dX2_settleHouse_37 rfl rfl ?_
    refine gf_getR flX2_32 rfl dX2_settleHouse_38 (gt_186 (gr_k _ hG)) (gp_186_4 (gr_k _ hG)) ?_
    refine gf_getR flX2_85 rfl dX2_settleHouse_41 (gt_158 (gr_k _ hG)) (gp_158_3 (gr_k _ hG)) ?_
    refine gf_iload dX2_settleHouse_44 rfl ?_
    refine gf_iald 201 dX2_settleHouse_46 (gt_160 (gr_k _ hG)) (gl_160 (gr_k _ hG)) rfl (by omega) (by decide) ?_
    refine gf_iload_n 1 dX2_settleHouse_47 rfl rfl ?_
    refine gf_icmp_ne 133 dX2_settleHouse_48 rfl (fun zc48 => ?_) (fun zc48 => ?_)
    · refine gf_iinc (1) dX2_settleHouse_133 rfl rfl (Nat.le_of_ble_eq_true rfl) ?_
      refine gf_goto 15 dX2_settleHouse_136 rfl ?_
      exact gf_hE (by rw [hS1, shB_f e2 ha.2 (show ¬ hp_i h 160 a = nI c from zc48)]) (gf_lw (ih (jz + 1) (by omega)) ⟨rfl, rfl, rfl, lvE (nI_1 jz), trivial⟩)
    · refine gf_aload_n 0 dX2_settleHouse_51 rfl rfl ?_
      refine gf_getR flX2_40 rfl dX2_settleHouse_52 (gt_186 (gr_k _ hG)) (gp_186_6 (gr_k _ hG)) ?_
      refine gf_aload_n 0 dX2_settleHouse_55 rfl rfl ?_
      refine gf_getR flX2_32 rfl dX2_settleHouse_56 (gt_186 (gr_k _ hG)) (gp_186_4 (gr_k _ hG)) ?_
      refine gf_getR flX2_88 rfl dX2_settleHouse_59 (gt_158 (gr_k _ hG)) (gp_158_4 (gr_k _ hG)) ?_
      refine gf_iload dX2_settleHouse_62 rfl ?_
      refine gf_iald 201 dX2_settleHouse_64 (gt_161 (gr_k _ hG)) (gl_161 (gr_k _ hG)) rfl (by omega) (by decide) ?_
      refine gf_aload_n 0 dX2_settleHouse_65 rfl rfl ?_
      refine gf_getR flX2_36 rfl dX2_settleHouse_66 (gt_186 (gr_k _ hG)) (gp_186_5 (gr_k _ hG)) ?_
      refine gf_getR flX2_59 rfl dX2_settleHouse_69 (gt_165 (gr_k _ hG)) (gp_165_4 (gr_k _ hG)) ?_
      refine gf_iload_n 1 dX2_settleHouse_72 rfl rfl ?_
      refine gf_iald 120 dX2_settleHouse_73 (gt_169 (gr_k _ hG)) (gl_169 (gr_k _ hG)) rfl (by omega) (by decide) ?_
      refine gf_iconst (1) dX2_settleHouse_74 rfl ?_
      refine gf_isub dX2_settleHouse_75 ?_
      refine gf_iload_n 2 dX2_settleHouse_76 rfl rfl ?_
      refine gf_callV cmX6_takePolicy lkX2_91 imX6_takePolicy seX6_takePolicy ⟨rfl, by decide⟩ dX2_settleHouse_77 (d1 := d - 1) (by omega) (gt_171 (gr_k _ hG)) (e_X6_takePolicy E (by omega) (hp_i h 161 a) ((itN (shB h c loss) (X, S) jz).2.1 4 c - 1) loss (hcl h 186 (itN (shB h c loss) (X, S) jz).1 R) hG (itN (shB h c loss) (X, S) jz).2) rfl rfl (Nat.le_of_ble_eq_true rfl) ?_
      refine gf_aload_n 0 dX2_settleHouse_80 rfl rfl ?_
      refine gf_getR flX2_15 rfl dX2_settleHouse_81 (gt_186 (gr_k _ hG)) (gp_186_1 (gr_k _ hG)) ?_
      refine gf_iload dX2_settleHouse_84 rfl ?_
      refine gf_aload_n 0 dX2_settleHouse_86 rfl rfl ?_
      refine gf_getR flX2_40 rfl dX2_settleHouse_87 (gt_186 (gr_k _ hG)) (gp_186_6 (gr_k _ hG)) ?_
      refine gf_aload_n 0 dX2_settleHouse_90 rfl rfl ?_
      refine gf_getR flX2_36 rfl dX2_settleHouse_91 (gt_186 (gr_k _ hG)) (gp_186_5 (gr_k _ hG)) ?_
      refine gf_getR flX2_95 rfl dX2_settleHouse_94 (gt_165 (gr_k _ hG)) (gp_165_1 (gr_k _ hG)) ?_
      refine gf_aload_n 0 dX2_settleHouse_97 rfl rfl ?_
      refine gf_getR flX2_32 rfl dX2_settleHouse_98 (gt_186 (gr_k _ hG)) (gp_186_4 (gr_k _ hG)) ?_
      refine gf_getR flX2_71 rfl dX2_settleHouse_101 (gt_158 (gr_k _ hG)) (gp_158_2 (gr_k _ hG)) ?_
      refine gf_iload dX2_settleHouse_104 rfl ?_
      refine gf_iald 201 dX2_settleHouse_106 (gt_159 (gr_k _ hG)) (gl_159 (gr_k _ hG)) rfl (by omega) (by decide) ?_
      refine gf_rald 9 dX2_settleHouse_107 (gt_166 (gr_k _ hG)) (by decide) (by decide) (gl_166 (gr_k _ hG)) hx hx9 (by decide) rfl ?_
      refine gf_callV cmX6_askBy lkX2_99 imX6_askBy seX6_askBy ⟨rfl, by decide⟩ dX2_settleHouse_108 (d1 := d - 1) (by omega) (gt_171 (gr_k _ hG)) (ev_ge (congrArg (fun z => some (Value.int z.1)) (sam_ask (sam_hcl h (itN (shB h c loss) (X, S) jz).1 R (by decide)) (takS (itN (shB h c loss) (X, S) jz).2 (hp_i h 161 a) ((itN (shB h c loss) (X, S) jz).2.1 4 c - 1) loss) hTz)) (ev_he (congrArg (fun z => hk (hcl h 186 (itN (shB h c loss) (X, S) jz).1 R) (kR (takS (itN (shB h c loss) (X, S) jz).2 (hp_i h 161 a) ((itN (shB h c loss) (X, S) jz).2.1 4 c - 1) loss) z.2)) (sam_ask (sam_hcl h (itN (shB h c loss) (X, S) jz).1 R (by decide)) (takS (itN (shB h c loss) (X, S) jz).2 (hp_i h 161 a) ((itN (shB h c loss) (X, S) jz).2.1 4 c - 1) loss) hTz)) (e_X6_askBy E (by omega) (hcl h 186 (itN (shB h c loss) (X, S) jz).1 R) hG (takS (itN (shB h c loss) (X, S) jz).2 (hp_i h 161 a) ((itN (shB h c loss) (X, S) jz).2.1 4 c - 1) loss) ((itN (shB h c loss) (X, S) jz).2.2 x) (fun b hb => sam_tOK (sam_hcl h (itN (shB h c loss) (X, S) jz).1 R (by decide)) (hTz b hb))))) rfl rfl (Nat.le_of_ble_eq_true rfl) ?_
      refine gf_iast 201 dX2_settleHouse_111 (gt_188 (gr_k _ hG)) (gl_188 (gr_k _ hG)) rfl (by omega) (by decide) ?_
      rw [hd186_2]
      refine gf_aload_n 0 dX2_settleHouse_112 rfl rfl ?_
      refine gf_getR flX2_25 rfl dX2_settleHouse_113 (gt_186 (gr_k _ hG)) (gp_186_7 (gr_k _ hG)) ?_
      refine gf_aload_n 0 dX2_settleHouse_116 rfl rfl ?_
      refine gf_getI flX2_82 rfl dX2_settleHouse_117 (gt_186 (gr_k _ hG)) ?_
      refine gf_iload dX2_settleHouse_120 rfl ?_
      refine gf_iast 200 dX2_settleHouse_122 (gt_191 (gr_k _ hG)) (gl_191 (gr_k _ hG)) I.1 (by omega) (by decide) ?_
      rw [hd186_5]
      refine gf_aload_n 0 dX2_settleHouse_123 rfl rfl ?_
      refine gf_dup dX2_settleHouse_124 rfl ?_
      refine gf_getI flX2_82 rfl dX2_settleHouse_125 (gt_186 (gr_k _ hG)) ?_
      rw [show hp_i (hk (hcl h 186 (up2 (up2 (itN (shB h c loss) (X, S) jz).1 2 a (askS h (takS (itN (shB h c loss) (X, S) jz).2 (hp_i h 161 a) ((itN (shB h c loss) (X, S) jz).2.1 4 c - 1) loss) ((itN (shB h c loss) (X, S) jz).2.2 x)).1) 5 m (nI a)) R) (kR (takS (itN (shB h c loss) (X, S) jz).2 (hp_i h 161 a) ((itN (shB h c loss) (X, S) jz).2.1 4 c - 1) loss) (askS h (takS (itN (shB h c loss) (X, S) jz).2 (hp_i h 161 a) ((itN (shB h c loss) (X, S) jz).2.1 4 c - 1) loss) ((itN (shB h c loss) (X, S) jz).2.2 x)).2)) 186 9 = nI m from I.1]
      refine gf_iconst (1) dX2_settleHouse_128 rfl ?_
      refine gf_iadd dX2_settleHouse_129 ?_
      refine gf_putI flX2_82 rfl rfl dX2_settleHouse_130 (gt_186 (gr_k _ hG)) ⟨rfl, rfl⟩ ?_
      rw [hd186_0]
      refine gf_iinc (1) dX2_settleHouse_133 rfl rfl (Nat.le_of_ble_eq_true rfl) ?_
      refine gf_goto 15 dX2_settleHouse_136 rfl ?_
      exact gf_hE (by rw [hS1, shB_t e2 ha.2 hx hx9 (show hp_i h 160 a = nI c from zc48) I.1 (by omega)]) (gf_lw (ih (jz + 1) (by omega)) ⟨rfl, rfl, rfl, lvE (nI_1 jz), trivial⟩)
theorem e_X2_settleHouse_186 (E : gE) {d : Nat} (hd : 6 ≤ d) {w g c p : Nat} (loss : Int32) (h : hp_T) (hG : gr h) (C : cty (hp_i h) w g) (X : Nat → Nat → Int32) (R : Nat → Int64) (S : kS) (hT : ∀ o, o < 9 → ∀ b, S.2 o = some b → tOK h b) (Kn : knI h p S) (hc : c < w * g) : ev E mX2_settleHouse d [.ref (E.1 + 186), .int (nI c), .int loss] (hk (hcl h 186 X R) S) (none) (hk (hcl h 186 (stlS h w g c loss ((X, R), S) p).1.1 (stlS h w g c loss ((X, R), S) p).1.2) (stlS h w g c loss ((X, R), S) p).2) := by
  refine ev_of rfl (fun q => absurd q (by decide)) (Nat.le_of_ble_eq_true rfl) ?_
  refine gf_aload_n 0 dX2_settleHouse_0 rfl rfl ?_
  refine gf_getR flX2_40 rfl dX2_settleHouse_1 (gt_186 (gr_k _ hG)) (gp_186_6 (gr_k _ hG)) ?_
  refine gf_iload_n 1 dX2_settleHouse_4 rfl rfl ?_
  refine gf_callV cmX6_goTo lkX2_76 imX6_goTo seX6_goTo ⟨rfl, by decide⟩ dX2_settleHouse_5 (d1 := d - 1) (by omega) (gt_171 (gr_k _ hG)) (e_X6_goTo E (by omega) (hcl h 186 X R) hG (cty_hb (b := 186) (n := 6) X (by decide) C) S hc) rfl rfl (Nat.le_of_ble_eq_true rfl) ?_
  rw [show goS (hp_i (hcl h 186 X R)) (nI (fa_cnt (hsN (hp_i (hcl h 186 X R) 2) w g c) 8)) S c = goK h w g S c from rfl]
  refine gf_aload_n 0 dX2_settleHouse_8 rfl rfl ?_
  refine gf_iconst (0) dX2_settleHouse_9 rfl ?_
  refine gf_putI flX2_82 rfl rfl dX2_settleHouse_10 (gt_186 (gr_k _ hG)) ⟨rfl, rfl⟩ ?_
  rw [hd186_0]
  refine gf_iconst (0) dX2_settleHouse_13 rfl ?_
  refine gf_istore_n 3 dX2_settleHouse_14 rfl (Nat.le_of_ble_eq_true rfl) ?_
  have hn := cty_n C
  have Kg : knI h p (goK h w g S c) := knI_row Kn rfl rfl
  have hTg : ∀ o, o < 9 → ∀ b, (goK h w g S c).2 o = some b → tOK h b := hT
  refine gf_lw (l_X2_settleHouse_186 E (by omega) (c := c) loss h hG (up2 X 0 9 0) R (goK h w g S c) hTg Kg (by omega) rfl ?_ p 0 (by omega)) ⟨rfl, rfl, rfl, rfl, trivial⟩
  obtain ⟨m, hm, I⟩ := sh_her h c loss (up2 X 0 9 0, goK h w g S c) Kg rfl p (Nat.le_refl _)
  have hF : (stlS h w g c loss ((X, R), S) p) = (payS h (shS h w g c loss ((X, R), S) p).2 (shS h w g c loss ((X, R), S) p).1 R loss m, (shS h w g c loss ((X, R), S) p).2) := by show (payS h (shS h w g c loss ((X, R), S) p).2 (shS h w g c loss ((X, R), S) p).1 R loss ((shS h w g c loss ((X, R), S) p).1 0 9).toNatClampNeg, (shS h w g c loss ((X, R), S) p).2) = _; rw [show (shS h w g c loss ((X, R), S) p).1 0 9 = nI m from I.1, nI_clamp (by have := I.2.1; omega)]
  rw [hF]
  change gf _ _ _ _ _ _ (hk (hcl h 186 (shS h w g c loss ((X, R), S) p).1 R) (shS h w g c loss ((X, R), S) p).2) _ _
  change herI h m (shS h w g c loss ((X, R), S) p).1 at I
  have hT2 : (shS h w g c loss ((X, R), S) p).2.2 = S.2 := (sh_2 h c loss _ p).trans rfl
  have hTt : tagT (hk h (shS h w g c loss ((X, R), S) p).2) := fun x hx b hb => by
    obtain ⟨L, q1, q2, q3, q4, q5, -⟩ := hT x hx b (by rw [← hT2]; exact hb)
    exact ⟨q5, q1⟩
  have Ih : herI (hk h (shS h w g c loss ((X, R), S) p).2) m (shS h w g c loss ((X, R), S) p).1 := I
  rw [← hclk_186]
  refine gf_aload_n 0 dX2_settleHouse_139 rfl rfl ?_
  refine gf_bipush (20) dX2_settleHouse_140 rfl ?_
  refine gf_iload_n 2 dX2_settleHouse_142 rfl rfl ?_
  refine gf_callV cmX2_payInTurn lkX2_103 imX2_payInTurn seX2_payInTurn ⟨rfl, by decide⟩ dX2_settleHouse_143 (d1 := d - 1) (by omega) (gt_186 (gr_k _ hG)) (e_X2_payInTurn_186 E (by omega) 20 loss (hk h (shS h w g c loss ((X, R), S) p).2) (gr_k _ hG) (shS h w g c loss ((X, R), S) p).1 R hTt Ih) rfl rfl (Nat.le_of_ble_eq_true rfl) ?_
  refine gf_istore_n 3 dX2_settleHouse_146 rfl (Nat.le_of_ble_eq_true rfl) ?_
  refine gf_aload_n 0 dX2_settleHouse_147 rfl rfl ?_
  refine gf_iload_n 3 dX2_settleHouse_148 rfl rfl ?_
  refine gf_callV cmX2_payByParts lkX2_107 imX2_payByParts seX2_payByParts ⟨rfl, by decide⟩ dX2_settleHouse_149 (d1 := d - 1) (by omega) (gt_186 (gr_k _ hG)) (e_X2_payByParts_186 E (by omega) (pitS (besB (hk h (shS h w g c loss ((X, R), S) p).2) 20) (shS h w g c loss ((X, R), S) p).1 loss m).2 (hk h (shS h w g c loss ((X, R), S) p).2) (gr_k _ hG) (pitS (besB (hk h (shS h w g c loss ((X, R), S) p).2) 20) (shS h w g c loss ((X, R), S) p).1 loss m).1 R hTt (herI_row Ih (pitS_row _ _ _ (by decide) _) (pitS_row _ _ _ (by decide) _))) rfl rfl (Nat.le_of_ble_eq_true rfl) ?_
  refine gf_istore_n 3 dX2_settleHouse_152 rfl (Nat.le_of_ble_eq_true rfl) ?_
  refine gf_aload_n 0 dX2_settleHouse_153 rfl rfl ?_
  refine gf_bipush (22) dX2_settleHouse_154 rfl ?_
  refine gf_iload_n 3 dX2_settleHouse_156 rfl rfl ?_
  refine gf_callV cmX2_payInTurn lkX2_103 imX2_payInTurn seX2_payInTurn ⟨rfl, by decide⟩ dX2_settleHouse_157 (d1 := d - 1) (by omega) (gt_186 (gr_k _ hG)) (e_X2_payInTurn_186 E (by omega) 22 (pbpS (besB (hk h (shS h w g c loss ((X, R), S) p).2) 21) ((pitS (besB (hk h (shS h w g c loss ((X, R), S) p).2) 20) (shS h w g c loss ((X, R), S) p).1 loss m).1, R) (pitS (besB (hk h (shS h w g c loss ((X, R), S) p).2) 20) (shS h w g c loss ((X, R), S) p).1 loss m).2 m).2 (hk h (shS h w g c loss ((X, R), S) p).2) (gr_k _ hG) (pbpS (besB (hk h (shS h w g c loss ((X, R), S) p).2) 21) ((pitS (besB (hk h (shS h w g c loss ((X, R), S) p).2) 20) (shS h w g c loss ((X, R), S) p).1 loss m).1, R) (pitS (besB (hk h (shS h w g c loss ((X, R), S) p).2) 20) (shS h w g c loss ((X, R), S) p).1 loss m).2 m).1.1 (pbpS (besB (hk h (shS h w g c loss ((X, R), S) p).2) 21) ((pitS (besB (hk h (shS h w g c loss ((X, R), S) p).2) 20) (shS h w g c loss ((X, R), S) p).1 loss m).1, R) (pitS (besB (hk h (shS h w g c loss ((X, R), S) p).2) 20) (shS h w g c loss ((X, R), S) p).1 loss m).2 m).1.2 hTt (herI_row Ih ((pbpS_row _ _ _ _ (by decide)).trans (pitS_row _ _ _ (by decide) _)) ((pbpS_row _ _ _ _ (by decide)).trans (pitS_row _ _ _ (by decide) _)))) rfl rfl (Nat.le_of_ble_eq_true rfl) ?_
  refine gf_pop dX2_settleHouse_160 rfl ?_
  exact gf_vretE dX2_settleHouse_161 rfl (by rw [hclk_186]; rfl)
theorem hclk_205 (h : hp_T) (X : Nat → Nat → Int32) (R : Nat → Int64) (S : kS) : hcl (hk h S) 205 X R = hk (hcl h 205 X R) S := by
  unfold hcl hk hrl hrr hb
  refine congrArg (fun z => (h.1, h.2.1, h.2.2.1, h.2.2.2.1, z, (fun x => if x = 205 + 6 then R else h.2.2.2.2.2.1 x), (fun x => if x = 166 then S.2 else h.2.2.2.2.2.2 x))) ?_
  funext x
  by_cases h1 : 205 ≤ x ∧ x < 205 + 6
  · have h2 : ¬ (165 ≤ x ∧ x < 165 + 9) := by omega
    simp only [h1, h2, if_true, if_false, and_self]
  · by_cases h2 : 165 ≤ x ∧ x < 165 + 9
    · simp only [h1, h2, if_true, if_false, and_self]
    · simp only [h1, h2, if_false]
theorem hd205_0 (h : hp_T) (X : Nat → Nat → Int32) (R : Nat → Int64) (S : kS) (k : Nat) (v : Int32) : hp_setI (hk (hcl h 205 X R) S) 205 k v = hk (hcl h 205 (up2 X 0 k v) R) S := by
  rw [← hclk_205, hc205_0, hclk_205]
theorem hd205_1 (h : hp_T) (X : Nat → Nat → Int32) (R : Nat → Int64) (S : kS) (k : Nat) (v : Int32) : hp_setI (hk (hcl h 205 X R) S) 206 k v = hk (hcl h 205 (up2 X 1 k v) R) S := by
  rw [← hclk_205, hc205_1, hclk_205]
theorem hd205_2 (h : hp_T) (X : Nat → Nat → Int32) (R : Nat → Int64) (S : kS) (k : Nat) (v : Int32) : hp_setI (hk (hcl h 205 X R) S) 207 k v = hk (hcl h 205 (up2 X 2 k v) R) S := by
  rw [← hclk_205, hc205_2, hclk_205]
theorem hd205_3 (h : hp_T) (X : Nat → Nat → Int32) (R : Nat → Int64) (S : kS) (k : Nat) (v : Int32) : hp_setI (hk (hcl h 205 X R) S) 208 k v = hk (hcl h 205 (up2 X 3 k v) R) S := by
  rw [← hclk_205, hc205_3, hclk_205]
theorem hd205_4 (h : hp_T) (X : Nat → Nat → Int32) (R : Nat → Int64) (S : kS) (k : Nat) (v : Int32) : hp_setI (hk (hcl h 205 X R) S) 209 k v = hk (hcl h 205 (up2 X 4 k v) R) S := by
  rw [← hclk_205, hc205_4, hclk_205]
theorem hd205_5 (h : hp_T) (X : Nat → Nat → Int32) (R : Nat → Int64) (S : kS) (k : Nat) (v : Int32) : hp_setI (hk (hcl h 205 X R) S) 210 k v = hk (hcl h 205 (up2 X 5 k v) R) S := by
  rw [← hclk_205, hc205_5, hclk_205]
theorem hd205_6 (h : hp_T) (X : Nat → Nat → Int32) (R : Nat → Int64) (S : kS) (k : Nat) (v : Int64) : hp_setL (hk (hcl h 205 X R) S) 211 k v = hk (hcl h 205 X (va_up R k v)) S := by
  rw [← hclk_205, hc205_6, hclk_205]
theorem l_X2_settleHouse_205 (E : gE) {d : Nat} (hd : 5 ≤ d) {c p : Nat} (loss : Int32) (h : hp_T) (hG : gr h) (X : Nat → Nat → Int32) (R : Nat → Int64) (S : kS) (hT : ∀ o, o < 9 → ∀ b, S.2 o = some b → tOK h b) (Kn : knI h p S) (hc : c < 120) (h0 : X 0 9 = 0) {v : Option Value} {hz : hp_T} (K : gf E mX2_settleHouse d 139 [(0, .ref (E.1 + 205)), (1, .int (nI c)), (2, .int loss), (3, .int (nI (p)))] [] (hk (hcl h 205 (itN (shB h c loss) (X, S) (p)).1 R) (itN (shB h c loss) (X, S) (p)).2) v hz) : ∀ (kz jz : Nat), jz + kz = p → gf E mX2_settleHouse d 15 [(0, .ref (E.1 + 205)), (1, .int (nI c)), (2, .int loss), (3, .int (nI (jz)))] [] (hk (hcl h 205 (itN (shB h c loss) (X, S) (jz)).1 R) (itN (shB h c loss) (X, S) (jz)).2) v hz := by
  intro kz
  induction kz with
  | zero =>
    intro jz hj
    have hj : p = jz := by omega
    subst hj
    refine gf_iload_n 3 dX2_settleHouse_15 rfl rfl ?_
    refine gf_aload_n 0 dX2_settleHouse_16 rfl rfl ?_
    refine gf_getR flX2_36 rfl dX2_settleHouse_17 (gt_205 (gr_k _ hG)) (gp_205_5 (gr_k _ hG)) ?_
    refine gf_getI flX2_50 rfl dX2_settleHouse_20 (gt_165 (gr_k _ hG)) ?_
    refine gf_icmp_ge 139 dX2_settleHouse_23 rfl (fun _ => ?_) (fun q => absurd (by rw [show hp_i (hk (hcl h 205 (itN (shB h c loss) (X, S) (p)).1 R) (itN (shB h c loss) (X, S) (p)).2) 165 0 = nI p from (congrFun (sh_row h c loss (X, S) (by decide) (by decide) _) 0).trans Kn.1]; exact Int32.le_refl _) q)
    exact gf_lw K ⟨rfl, rfl, rfl, rfl, trivial⟩
  | succ kz ih =>
    intro jz hj
    obtain ⟨a, c2, x, ha, ea, ⟨hc2, hac⟩, hx9, hx⟩ := Kn.2.2 jz (by omega)
    obtain ⟨m, hm, I⟩ := sh_her h c loss (X, S) Kn h0 jz (by omega)
    have hp2 := Kn.2.1
    have e2 : (itN (shB h c loss) (X, S) jz).2.1 2 jz = nI a := by rw [sh_row h c loss (X, S) (by decide) (by decide)]; exact ea
    have hTz : ∀ b, (itN (shB h c loss) (X, S) jz).2.2 x = some b → tOK h b := fun b hb => hT x hx9 b (by rw [← hb, sh_2])
    have hS1 : (itN (shB h c loss) (X, S) (jz + 1)) = shB h c loss (itN (shB h c loss) (X, S) jz) jz := rfl
    refine gf_iload_n 3 dX2_settleHouse_15 rfl rfl ?_
    refine gf_aload_n 0 dX2_settleHouse_16 rfl rfl ?_
    refine gf_getR flX2_36 rfl dX2_settleHouse_17 (gt_205 (gr_k _ hG)) (gp_205_5 (gr_k _ hG)) ?_
    refine gf_getI flX2_50 rfl dX2_settleHouse_20 (gt_165 (gr_k _ hG)) ?_
    refine gf_icmp_ge 139 dX2_settleHouse_23 rfl (fun q => absurd q (by rw [show hp_i (hk (hcl h 205 (itN (shB h c loss) (X, S) jz).1 R) (itN (shB h c loss) (X, S) jz).2) 165 0 = nI p from (congrFun (sh_row h c loss (X, S) (by decide) (by decide) _) 0).trans Kn.1]; exact nI_ge (by omega) (by have := Kn.2.1; omega))) (fun _ => ?_)
    refine gf_aload_n 0 dX2_settleHouse_26 rfl rfl ?_
    refine gf_getR flX2_36 rfl dX2_settleHouse_27 (gt_205 (gr_k _ hG)) (gp_205_5 (gr_k _ hG)) ?_
    refine gf_getR flX2_56 rfl dX2_settleHouse_30 (gt_165 (gr_k _ hG)) (gp_165_2 (gr_k _ hG)) ?_
    refine gf_iload_n 3 dX2_settleHouse_33 rfl rfl ?_
    refine gf_iald 200 dX2_settleHouse_34 (gt_167 (gr_k _ hG)) (gl_167 (gr_k _ hG)) rfl (by omega) (by decide) ?_
    rw [show hp_i (hk (hcl h 205 (itN (shB h c loss) (X, S) jz).1 R) (itN (shB h c loss) (X, S) jz).2) 167 jz = nI a from e2]
    refine gf_istore dX2_settleHouse_35 (Nat.le_of_ble_eq_true rfl) ?_
    refine gf_aload_n 0 dX2_settleHouse_37 rfl rfl ?_
    refine gf_getR flX2_32 rfl dX2_settleHouse_38 (gt_205 (gr_k _ hG)) (gp_205_4 (gr_k _ hG)) ?_
    refine gf_getR flX2_85 rfl dX2_settleHouse_41 (gt_158 (gr_k _ hG)) (gp_158_3 (gr_k _ hG)) ?_
    refine gf_iload dX2_settleHouse_44 rfl ?_
    refine gf_iald 201 dX2_settleHouse_46 (gt_160 (gr_k _ hG)) (gl_160 (gr_k _ hG)) rfl (by omega) (by decide) ?_
    refine gf_iload_n 1 dX2_settleHouse_47 rfl rfl ?_
    refine gf_icmp_ne 133 dX2_settleHouse_48 rfl (fun zc48 => ?_) (fun zc48 => ?_)
    · refine gf_iinc (1) dX2_settleHouse_133 rfl rfl (Nat.le_of_ble_eq_true rfl) ?_
      refine gf_goto 15 dX2_settleHouse_136 rfl ?_
      exact gf_hE (by rw [hS1, shB_f e2 ha.2 (show ¬ hp_i h 160 a = nI c from zc48)]) (gf_lw (ih (jz + 1) (by omega)) ⟨rfl, rfl, rfl, lvE (nI_1 jz), trivial⟩)
    · refine gf_aload_n 0 dX2_settleHouse_51 rfl rfl ?_
      refine gf_getR flX2_40 rfl dX2_settleHouse_52 (gt_205 (gr_k _ hG)) (gp_205_6 (gr_k _ hG)) ?_
      refine gf_aload_n 0 dX2_settleHouse_55 rfl rfl ?_
      refine gf_getR flX2_32 rfl dX2_settleHouse_56 (gt_205 (gr_k _ hG)) (gp_205_4 (gr_k _ hG)) ?_
      refine gf_getR flX2_88 rfl dX2_settleHouse_59 (gt_158 (gr_k _ hG)) (gp_158_4 (gr_k _ hG)) ?_
      refine gf_iload dX2_settleHouse_62 rfl ?_
      refine gf_iald 201 dX2_settleHouse_64 (gt_161 (gr_k _ hG)) (gl_161 (gr_k _ hG)) rfl (by omega) (by decide) ?_
      refine gf_aload_n 0 dX2_settleHouse_65 rfl rfl ?_
      refine gf_getR flX2_36 rfl dX2_settleHouse_66 (gt_205 (gr_k _ hG)) (gp_205_5 (gr_k _ hG)) ?_
      refine gf_getR flX2_59 rfl dX2_settleHouse_69 (gt_165 (gr_k _ hG)) (gp_165_4 (gr_k _ hG)) ?_
      refine gf_iload_n 1 dX2_settleHouse_72 rfl rfl ?_
      refine gf_iald 120 dX2_settleHouse_73 (gt_169 (gr_k _ hG)) (gl_169 (gr_k _ hG)) rfl (by omega) (by decide) ?_
      refine gf_iconst (1) dX2_settleHouse_74 rfl ?_
      refine gf_isub dX2_settleHouse_75 ?_
      refine gf_iload_n 2 dX2_settleHouse_76 rfl rfl ?_
      refine gf_callV cmX6_takePolicy lkX2_91 imX6_takePolicy seX6_takePolicy ⟨rfl, by decide⟩ dX2_settleHouse_77 (d1 := d - 1) (by omega) (gt_171 (gr_k _ hG)) (e_X6_takePolicy E (by omega) (hp_i h 161 a) ((itN (shB h c loss) (X, S) jz).2.1 4 c - 1) loss (hcl h 205 (itN (shB h c loss) (X, S) jz).1 R) hG (itN (shB h c loss) (X, S) jz).2) rfl rfl (Nat.le_of_ble_eq_true rfl) ?_
      refine gf_aload_n 0 dX2_settleHouse_80 rfl rfl ?_
      refine gf_getR flX2_15 rfl dX2_settleHouse_81 (gt_205 (gr_k _ hG)) (gp_205_1 (gr_k _ hG)) ?_
      refine gf_iload dX2_settleHouse_84 rfl ?_
      refine gf_aload_n 0 dX2_settleHouse_86 rfl rfl ?_
      refine gf_getR flX2_40 rfl dX2_settleHouse_87 (gt_205 (gr_k _ hG)) (gp_205_6 (gr_k _ hG)) ?_
      refine gf_aload_n 0 dX2_settleHouse_90 rfl rfl ?_
      refine gf_getR flX2_36 rfl dX2_settleHouse_91 (gt_205 (gr_k _ hG)) (gp_205_5 (gr_k _ hG)) ?_
      refine gf_getR flX2_95 rfl dX2_settleHouse_94 (gt_165 (gr_k _ hG)) (gp_165_1 (gr_k _ hG)) ?_
      refine gf_aload_n 0 dX2_settleHouse_97 rfl rfl ?_
      refine gf_getR flX2_32 rfl dX2_settleHouse_98 (gt_205 (gr_k _ hG)) (gp_205_4 (gr_k _ hG)) ?_
      refine gf_getR flX2_71 rfl dX2_settleHouse_101 (gt_158 (gr_k _ hG)) (gp_158_2 (gr_k _ hG)) ?_
      refine gf_iload dX2_settleHouse_104 rfl ?_
      refine gf_iald 201 dX2_settleHouse_106 (gt_159 (gr_k _ hG)) (gl_159 (gr_k _ hG)) rfl (by omega) (by decide) ?_
      refine gf_rald 9 dX2_settleHouse_107 (gt_166 (gr_k _ hG)) (by decide) (by decide) (gl_166 (gr_k _ hG)) hx hx9 (by decide) rfl ?_
      refine gf_callV cmX6_askBy lkX2_99 imX6_askBy seX6_askBy ⟨rfl, by decide⟩ dX2_settleHouse_108 (d1 := d - 1) (by omega) (gt_171 (gr_k _ hG)) (ev_ge (congrArg (fun z => some (Value.int z.1)) (sam_ask (sam_hcl h (itN (shB h c loss) (X, S) jz).1 R (by decide)) (takS (itN (shB h c loss) (X, S) jz).2 (hp_i h 161 a) ((itN (shB h c loss) (X, S) jz).2.1 4 c - 1) loss) hTz)) (ev_he (congrArg (fun z => hk (hcl h 205 (itN (shB h c loss) (X, S) jz).1 R) (kR (takS (itN (shB h c loss) (X, S) jz).2 (hp_i h 161 a) ((itN (shB h c loss) (X, S) jz).2.1 4 c - 1) loss) z.2)) (sam_ask (sam_hcl h (itN (shB h c loss) (X, S) jz).1 R (by decide)) (takS (itN (shB h c loss) (X, S) jz).2 (hp_i h 161 a) ((itN (shB h c loss) (X, S) jz).2.1 4 c - 1) loss) hTz)) (e_X6_askBy E (by omega) (hcl h 205 (itN (shB h c loss) (X, S) jz).1 R) hG (takS (itN (shB h c loss) (X, S) jz).2 (hp_i h 161 a) ((itN (shB h c loss) (X, S) jz).2.1 4 c - 1) loss) ((itN (shB h c loss) (X, S) jz).2.2 x) (fun b hb => sam_tOK (sam_hcl h (itN (shB h c loss) (X, S) jz).1 R (by decide)) (hTz b hb))))) rfl rfl (Nat.le_of_ble_eq_true rfl) ?_
      refine gf_iast 201 dX2_settleHouse_111 (gt_207 (gr_k _ hG)) (gl_207 (gr_k _ hG)) rfl (by omega) (by decide) ?_
      rw [hd205_2]
      refine gf_aload_n 0 dX2_settleHouse_112 rfl rfl ?_
      refine gf_getR flX2_25 rfl dX2_settleHouse_113 (gt_205 (gr_k _ hG)) (gp_205_7 (gr_k _ hG)) ?_
      refine gf_aload_n 0 dX2_settleHouse_116 rfl rfl ?_
      refine gf_getI flX2_82 rfl dX2_settleHouse_117 (gt_205 (gr_k _ hG)) ?_
      refine gf_iload dX2_settleHouse_120 rfl ?_
      refine gf_iast 200 dX2_settleHouse_122 (gt_210 (gr_k _ hG)) (gl_210 (gr_k _ hG)) I.1 (by omega) (by decide) ?_
      rw [hd205_5]
      refine gf_aload_n 0 dX2_settleHouse_123 rfl rfl ?_
      refine gf_dup dX2_settleHouse_124 rfl ?_
      refine gf_getI flX2_82 rfl dX2_settleHouse_125 (gt_205 (gr_k _ hG)) ?_
      rw [show hp_i (hk (hcl h 205 (up2 (up2 (itN (shB h c loss) (X, S) jz).1 2 a (askS h (takS (itN (shB h c loss) (X, S) jz).2 (hp_i h 161 a) ((itN (shB h c loss) (X, S) jz).2.1 4 c - 1) loss) ((itN (shB h c loss) (X, S) jz).2.2 x)).1) 5 m (nI a)) R) (kR (takS (itN (shB h c loss) (X, S) jz).2 (hp_i h 161 a) ((itN (shB h c loss) (X, S) jz).2.1 4 c - 1) loss) (askS h (takS (itN (shB h c loss) (X, S) jz).2 (hp_i h 161 a) ((itN (shB h c loss) (X, S) jz).2.1 4 c - 1) loss) ((itN (shB h c loss) (X, S) jz).2.2 x)).2)) 205 9 = nI m from I.1]
      refine gf_iconst (1) dX2_settleHouse_128 rfl ?_
      refine gf_iadd dX2_settleHouse_129 ?_
      refine gf_putI flX2_82 rfl rfl dX2_settleHouse_130 (gt_205 (gr_k _ hG)) ⟨rfl, rfl⟩ ?_
      rw [hd205_0]
      refine gf_iinc (1) dX2_settleHouse_133 rfl rfl (Nat.le_of_ble_eq_true rfl) ?_
      refine gf_goto 15 dX2_settleHouse_136 rfl ?_
      exact gf_hE (by rw [hS1, shB_t e2 ha.2 hx hx9 (show hp_i h 160 a = nI c from zc48) I.1 (by omega)]) (gf_lw (ih (jz + 1) (by omega)) ⟨rfl, rfl, rfl, lvE (nI_1 jz), trivial⟩)
theorem e_X2_settleHouse_205 (E : gE) {d : Nat} (hd : 6 ≤ d) {w g c p : Nat} (loss : Int32) (h : hp_T) (hG : gr h) (C : cty (hp_i h) w g) (X : Nat → Nat → Int32) (R : Nat → Int64) (S : kS) (hT : ∀ o, o < 9 → ∀ b, S.2 o = some b → tOK h b) (Kn : knI h p S) (hc : c < w * g) : ev E mX2_settleHouse d [.ref (E.1 + 205), .int (nI c), .int loss] (hk (hcl h 205 X R) S) (none) (hk (hcl h 205 (stlS h w g c loss ((X, R), S) p).1.1 (stlS h w g c loss ((X, R), S) p).1.2) (stlS h w g c loss ((X, R), S) p).2) := by
  refine ev_of rfl (fun q => absurd q (by decide)) (Nat.le_of_ble_eq_true rfl) ?_
  refine gf_aload_n 0 dX2_settleHouse_0 rfl rfl ?_
  refine gf_getR flX2_40 rfl dX2_settleHouse_1 (gt_205 (gr_k _ hG)) (gp_205_6 (gr_k _ hG)) ?_
  refine gf_iload_n 1 dX2_settleHouse_4 rfl rfl ?_
  refine gf_callV cmX6_goTo lkX2_76 imX6_goTo seX6_goTo ⟨rfl, by decide⟩ dX2_settleHouse_5 (d1 := d - 1) (by omega) (gt_171 (gr_k _ hG)) (e_X6_goTo E (by omega) (hcl h 205 X R) hG (cty_hb (b := 205) (n := 6) X (by decide) C) S hc) rfl rfl (Nat.le_of_ble_eq_true rfl) ?_
  rw [show goS (hp_i (hcl h 205 X R)) (nI (fa_cnt (hsN (hp_i (hcl h 205 X R) 2) w g c) 8)) S c = goK h w g S c from rfl]
  refine gf_aload_n 0 dX2_settleHouse_8 rfl rfl ?_
  refine gf_iconst (0) dX2_settleHouse_9 rfl ?_
  refine gf_putI flX2_82 rfl rfl dX2_settleHouse_10 (gt_205 (gr_k _ hG)) ⟨rfl, rfl⟩ ?_
  rw [hd205_0]
  refine gf_iconst (0) dX2_settleHouse_13 rfl ?_
  refine gf_istore_n 3 dX2_settleHouse_14 rfl (Nat.le_of_ble_eq_true rfl) ?_
  have hn := cty_n C
  have Kg : knI h p (goK h w g S c) := knI_row Kn rfl rfl
  have hTg : ∀ o, o < 9 → ∀ b, (goK h w g S c).2 o = some b → tOK h b := hT
  refine gf_lw (l_X2_settleHouse_205 E (by omega) (c := c) loss h hG (up2 X 0 9 0) R (goK h w g S c) hTg Kg (by omega) rfl ?_ p 0 (by omega)) ⟨rfl, rfl, rfl, rfl, trivial⟩
  obtain ⟨m, hm, I⟩ := sh_her h c loss (up2 X 0 9 0, goK h w g S c) Kg rfl p (Nat.le_refl _)
  have hF : (stlS h w g c loss ((X, R), S) p) = (payS h (shS h w g c loss ((X, R), S) p).2 (shS h w g c loss ((X, R), S) p).1 R loss m, (shS h w g c loss ((X, R), S) p).2) := by show (payS h (shS h w g c loss ((X, R), S) p).2 (shS h w g c loss ((X, R), S) p).1 R loss ((shS h w g c loss ((X, R), S) p).1 0 9).toNatClampNeg, (shS h w g c loss ((X, R), S) p).2) = _; rw [show (shS h w g c loss ((X, R), S) p).1 0 9 = nI m from I.1, nI_clamp (by have := I.2.1; omega)]
  rw [hF]
  change gf _ _ _ _ _ _ (hk (hcl h 205 (shS h w g c loss ((X, R), S) p).1 R) (shS h w g c loss ((X, R), S) p).2) _ _
  change herI h m (shS h w g c loss ((X, R), S) p).1 at I
  have hT2 : (shS h w g c loss ((X, R), S) p).2.2 = S.2 := (sh_2 h c loss _ p).trans rfl
  have hTt : tagT (hk h (shS h w g c loss ((X, R), S) p).2) := fun x hx b hb => by
    obtain ⟨L, q1, q2, q3, q4, q5, -⟩ := hT x hx b (by rw [← hT2]; exact hb)
    exact ⟨q5, q1⟩
  have Ih : herI (hk h (shS h w g c loss ((X, R), S) p).2) m (shS h w g c loss ((X, R), S) p).1 := I
  rw [← hclk_205]
  refine gf_aload_n 0 dX2_settleHouse_139 rfl rfl ?_
  refine gf_bipush (20) dX2_settleHouse_140 rfl ?_
  refine gf_iload_n 2 dX2_settleHouse_142 rfl rfl ?_
  refine gf_callV cmX2_payInTurn lkX2_103 imX2_payInTurn seX2_payInTurn ⟨rfl, by decide⟩ dX2_settleHouse_143 (d1 := d - 1) (by omega) (gt_205 (gr_k _ hG)) (e_X2_payInTurn_205 E (by omega) 20 loss (hk h (shS h w g c loss ((X, R), S) p).2) (gr_k _ hG) (shS h w g c loss ((X, R), S) p).1 R hTt Ih) rfl rfl (Nat.le_of_ble_eq_true rfl) ?_
  refine gf_istore_n 3 dX2_settleHouse_146 rfl (Nat.le_of_ble_eq_true rfl) ?_
  refine gf_aload_n 0 dX2_settleHouse_147 rfl rfl ?_
  refine gf_iload_n 3 dX2_settleHouse_148 rfl rfl ?_
  refine gf_callV cmX2_payByParts lkX2_107 imX2_payByParts seX2_payByParts ⟨rfl, by decide⟩ dX2_settleHouse_149 (d1 := d - 1) (by omega) (gt_205 (gr_k _ hG)) (e_X2_payByParts_205 E (by omega) (pitS (besB (hk h (shS h w g c loss ((X, R), S) p).2) 20) (shS h w g c loss ((X, R), S) p).1 loss m).2 (hk h (shS h w g c loss ((X, R), S) p).2) (gr_k _ hG) (pitS (besB (hk h (shS h w g c loss ((X, R), S) p).2) 20) (shS h w g c loss ((X, R), S) p).1 loss m).1 R hTt (herI_row Ih (pitS_row _ _ _ (by decide) _) (pitS_row _ _ _ (by decide) _))) rfl rfl (Nat.le_of_ble_eq_true rfl) ?_
  refine gf_istore_n 3 dX2_settleHouse_152 rfl (Nat.le_of_ble_eq_true rfl) ?_
  refine gf_aload_n 0 dX2_settleHouse_153 rfl rfl ?_
  refine gf_bipush (22) dX2_settleHouse_154 rfl ?_
  refine gf_iload_n 3 dX2_settleHouse_156 rfl rfl ?_
  refine gf_callV cmX2_payInTurn lkX2_103 imX2_payInTurn seX2_payInTurn ⟨rfl, by decide⟩ dX2_settleHouse_157 (d1 := d - 1) (by omega) (gt_205 (gr_k _ hG)) (e_X2_payInTurn_205 E (by omega) 22 (pbpS (besB (hk h (shS h w g c loss ((X, R), S) p).2) 21) ((pitS (besB (hk h (shS h w g c loss ((X, R), S) p).2) 20) (shS h w g c loss ((X, R), S) p).1 loss m).1, R) (pitS (besB (hk h (shS h w g c loss ((X, R), S) p).2) 20) (shS h w g c loss ((X, R), S) p).1 loss m).2 m).2 (hk h (shS h w g c loss ((X, R), S) p).2) (gr_k _ hG) (pbpS (besB (hk h (shS h w g c loss ((X, R), S) p).2) 21) ((pitS (besB (hk h (shS h w g c loss ((X, R), S) p).2) 20) (shS h w g c loss ((X, R), S) p).1 loss m).1, R) (pitS (besB (hk h (shS h w g c loss ((X, R), S) p).2) 20) (shS h w g c loss ((X, R), S) p).1 loss m).2 m).1.1 (pbpS (besB (hk h (shS h w g c loss ((X, R), S) p).2) 21) ((pitS (besB (hk h (shS h w g c loss ((X, R), S) p).2) 20) (shS h w g c loss ((X, R), S) p).1 loss m).1, R) (pitS (besB (hk h (shS h w g c loss ((X, R), S) p).2) 20) (shS h w g c loss ((X, R), S) p).1 loss m).2 m).1.2 hTt (herI_row Ih ((pbpS_row _ _ _ _ (by decide)).trans (pitS_row _ _ _ (by decide) _)) ((pbpS_row _ _ _ _ (by decide)).trans (pitS_row _ _ _ (by decide) _)))) rfl rfl (Nat.le_of_ble_eq_true rfl) ?_
  refine gf_pop dX2_settleHouse_160 rfl ?_
  exact gf_vretE dX2_settleHouse_161 rfl (by rw [hclk_205]; rfl)
