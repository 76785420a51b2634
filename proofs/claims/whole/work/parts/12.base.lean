/-! ===== ends with a spec, conditions as 0 and 1, literals ===== -/
section GE
variable {E : gE} {M : gM} {d pc : Nat} {lv : List (Nat × Value)} {rest : List Value} {h h' : hp_T} {v : Option Value}
theorem gf_iretE {x y : Int32} (hdg : decode M.2.1 pc = .ok (.ireturn, 1)) (hr : M.2.2.2.1 = some .int) (e : x = y) (eh : h = h') : gf E M d pc lv [.int x] h (some (.int y)) h' := by
  subst e; subst eh; exact gf_iret hdg hr
theorem gf_zretE {x y : Int32} (hdg : decode M.2.1 pc = .ok (.ireturn, 1)) (hr : M.2.2.2.1 = some .boolean) (hn : narrow .boolean (.int x) = .int x) (e : x = y) (eh : h = h') : gf E M d pc lv [.int x] h (some (.int y)) h' := by
  subst e; subst eh; exact gf_zret hdg hr hn
theorem gf_lretE {x y : Int64} (hdg : decode M.2.1 pc = .ok (.lreturn, 1)) (hr : M.2.2.2.1 = some .long) (e : x = y) (eh : h = h') : gf E M d pc lv [.long x] h (some (.long y)) h' := by
  subst e; subst eh; exact gf_lret hdg hr
theorem gf_vretE (hdg : decode M.2.1 pc = .ok (.return_, 1)) (hr : M.2.2.2.1 = none) (eh : h = h') : gf E M d pc lv [] h none h' := by
  subst eh; exact gf_vret hdg hr
theorem gf_abs {idx : Nat} {x : Int32} (hl : Cond.methodLink M.1.cls idx Lib.Math.abs.name ∈ tt) (hst : Cond.static Lib.Math.abs.name ∈ tt) (hini : Cond.initialized "java/lang/Math" ∈ tt) (hco : Cond.code Lib.Math.abs.name Lib.Math.abs.code 1 (some .int) ∈ tt) (hdg : decode M.2.1 pc = .ok (.invokestatic idx, 3)) (hd : 1 ≤ d) (hw : (rest.map fun v => v.category).sum ≤ 8) (k : gf E M d (pc + 3) lv (.int (if 0 ≤ x then x else 0 - x) :: rest) h v h') : gf E M d pc lv (.int x :: rest) h v h' :=
  gf_step rfl rfl (fun p l e R s m args below meth cc H locs cells slots ls Q hA hP hS hl0 hd1 hD1 hc1 hs1 k9 =>
    va_mabs hA.1 hA.2.1 (hA.2.2.1.trans hl0.1.symm) hA.2.2.2.2.1 (hA.2.2.2.2.2.1 _ hl) (hA.2.2.2.2.2.1 _ hst) (hA.2.2.2.2.2.1 _ hini) (hA.2.2.2.2.2.1 _ hco) (by omega) (by omega) hc1 hs1 hdg (k9 H locs ls hP hS hl0)) k
end GE
theorem gf_lw {E : gE} {M : gM} {d pc : Nat} {lv lv' : List (Nat × Value)} {st : List Value} {h h' : hp_T} {v : Option Value} (k : gf E M d pc lv' st h v h') (hl : lva lv lv') : gf E M d pc lv st h v h' := gf_lv hl k
theorem gf_hE {E : gE} {M : gM} {d pc : Nat} {lv : List (Nat × Value)} {st : List Value} {h h1 h' : hp_T} {v : Option Value} (e : h = h1) (k : gf E M d pc lv st h1 v h') : gf E M d pc lv st h v h' := e ▸ k
theorem nI_nm1 {x : Nat} (h : x < 2147483648) : ¬ nI x = -1 := fun e => by
  have h1 := congrArg Int32.toInt e
  rw [nI_toInt (by omega)] at h1
  have h2 : (-1 : Int32).toInt = -1 := by decide
  omega
/-- some k < n with p -/
def anyb (p : Nat → Bool) : Nat → Bool
  | 0 => false
  | n + 1 => anyb p n || p n
theorem anyb_iff {p : Nat → Bool} {n : Nat} : anyb p n = true ↔ ∃ k, k < n ∧ p k = true := by
  induction n with
  | zero => exact ⟨fun h => Bool.noConfusion (show false = true from h), fun ⟨k, h, _⟩ => absurd h (Nat.not_lt_zero k)⟩
  | succ n ih =>
    unfold anyb
    rw [Bool.or_eq_true, ih]
    constructor
    · rintro (⟨k, h1, h2⟩ | h)
      · exact ⟨k, Nat.lt_succ_of_lt h1, h2⟩
      · exact ⟨n, Nat.lt_succ_self n, h⟩
    · rintro ⟨k, h1, h2⟩
      rcases Nat.lt_succ_iff_lt_or_eq.mp h1 with h | rfl
      · exact Or.inl ⟨k, h, h2⟩
      · exact Or.inr h2
theorem anyb_no {p : Nat → Bool} {n : Nat} (h : ∀ k, k < n → p k = false) : anyb p n = false := by
  cases e : anyb p n with
  | false => rfl
  | true =>
    obtain ⟨k, h1, h2⟩ := anyb_iff.mp e
    rw [h k h1] at h2
    cases h2
theorem anyb_in {p : Nat → Bool} {n k : Nat} (h : k < n) (hp : p k = true) : anyb p n = true := anyb_iff.mpr ⟨k, h, hp⟩
theorem anyb_at {p : Nat → Bool} {n k : Nat} (h : anyb p n = false) (hk : k < n) : p k = false := by
  cases e : p k with
  | false => rfl
  | true => rw [anyb_in hk e] at h; cases h
theorem lvE {x y : Int32} (e : x = y) : some (Value.int x) = some (Value.int y) := by rw [e]
theorem lvL {x y : Int64} (e : x = y) : some (Value.long x) = some (Value.long y) := by rw [e]
theorem ix_nI {c : Int32} (h : 0 ≤ c.toInt) : c = nI c.toNatClampNeg := by
  have h0 : ¬ c < 0 := fun q => by
    rw [Int32.lt_iff_toInt_lt] at q
    have : (0 : Int32).toInt = 0 := by decide
    omega
  obtain ⟨j, hj, e⟩ := nI_of h0
  rw [e, nI_clamp hj]
theorem ix_lt {c : Int32} {n : Nat} (h0 : 0 ≤ c.toInt) (h : c.toInt < n) : c.toNatClampNeg < n := by
  have e := ix_nI h0
  have e2 : c.toInt = (c.toNatClampNeg : Int) := by
    have h1 : c.toNatClampNeg < 2 ^ 31 := by
      have h3 : ¬ c < 0 := fun q => by
        rw [Int32.lt_iff_toInt_lt] at q
        have : (0 : Int32).toInt = 0 := by decide
        omega
      obtain ⟨j, hj, e⟩ := nI_of h3
      rw [e, nI_clamp hj]
      exact hj
    have h2 := nI_toInt h1
    rw [← e] at h2
    exact h2
  omega
theorem ti_nI {n : Nat} (h : n < 2147483648) : (nI n).toInt = n := nI_toInt (by omega)
theorem gq_ro {h : hp_T} (g : gr h) {a i0 b N c : Nat} (hl : ∀ c, c < N → gr_rl[i0 + c]? = some (a, c, b + c)) (hc : c < N) : hp_r h a c = some (b + c) := g.2.2 (i0 + c) _ (hl c hc)
theorem gq_to {h : hp_T} (g : gr h) {b N c t n : Nat} (hl : ∀ c, c < N → gr_tl[b + c]? = some (t, n)) (hc : c < N) : hp_tag h (b + c) = t ∧ hp_len h (b + c) = n := g.2.1 (b + c) _ (hl c hc)
theorem gq_ar {h : hp_T} (g : gr h) {c : Nat} (hc : c < 120) : hp_r h 9 c = some (10 + c) := gq_ro g (i0 := 7) (N := 120) (by decide +kernel) hc
theorem gqt_ar {h : hp_T} (g : gr h) {c : Nat} (hc : c < 120) : hp_tag h (10 + c) = 14 := (gq_to g (N := 120) (t := 14) (n := 8) (by decide +kernel) hc).1
theorem gql_ar {h : hp_T} (g : gr h) {c : Nat} (hc : c < 120) : hp_len h (10 + c) = 8 := (gq_to g (N := 120) (t := 14) (n := 8) (by decide +kernel) hc).2
theorem gq_pt {h : hp_T} (g : gr h) {c : Nat} (hc : c < 9) : hp_r h 135 c = some (136 + c) := gq_ro g (i0 := 133) (N := 9) (by decide +kernel) hc
theorem gqt_pt {h : hp_T} (g : gr h) {c : Nat} (hc : c < 9) : hp_tag h (136 + c) = 14 := (gq_to g (N := 9) (t := 14) (n := 9) (by decide +kernel) hc).1
theorem gql_pt {h : hp_T} (g : gr h) {c : Nat} (hc : c < 9) : hp_len h (136 + c) = 9 := (gq_to g (N := 9) (t := 14) (n := 9) (by decide +kernel) hc).2
theorem gq_ow {h : hp_T} (g : gr h) {c : Nat} (hc : c < 9) : hp_r h 213 c = some (214 + c) := gq_ro g (i0 := 223) (N := 9) (by decide +kernel) hc
theorem gqt_ow {h : hp_T} (g : gr h) {c : Nat} (hc : c < 9) : hp_tag h (214 + c) = 15 := (gq_to g (N := 9) (t := 15) (n := 10) (by decide +kernel) hc).1
theorem gql_ow {h : hp_T} (g : gr h) {c : Nat} (hc : c < 9) : hp_len h (214 + c) = 10 := (gq_to g (N := 9) (t := 15) (n := 10) (by decide +kernel) hc).2
theorem gq_py {h : hp_T} (g : gr h) {c : Nat} (hc : c < 9) : hp_r h 223 c = some (224 + c) := gq_ro g (i0 := 233) (N := 9) (by decide +kernel) hc
theorem gqt_py {h : hp_T} (g : gr h) {c : Nat} (hc : c < 9) : hp_tag h (224 + c) = 15 := (gq_to g (N := 9) (t := 15) (n := 10) (by decide +kernel) hc).1
theorem gql_py {h : hp_T} (g : gr h) {c : Nat} (hc : c < 9) : hp_len h (224 + c) = 10 := (gq_to g (N := 9) (t := 15) (n := 10) (by decide +kernel) hc).2
theorem gq_nx {h : hp_T} (g : gr h) {c : Nat} (hc : c < 9) : hp_r h 233 c = some (234 + c) := gq_ro g (i0 := 243) (N := 9) (by decide +kernel) hc
theorem gqt_nx {h : hp_T} (g : gr h) {c : Nat} (hc : c < 9) : hp_tag h (234 + c) = 15 := (gq_to g (N := 9) (t := 15) (n := 10) (by decide +kernel) hc).1
theorem gql_nx {h : hp_T} (g : gr h) {c : Nat} (hc : c < 9) : hp_len h (234 + c) = 10 := (gq_to g (N := 9) (t := 15) (n := 10) (by decide +kernel) hc).2
/-- a condition as an int -/
def zb (p : Prop) [Decidable p] : Int32 := if p then 1 else 0
theorem zb_t {p : Prop} [Decidable p] (h : p) : zb p = 1 := if_pos h
theorem zb_f {p : Prop} [Decidable p] (h : ¬ p) : zb p = 0 := if_neg h
theorem zb_0 {p : Prop} [Decidable p] : zb p = 0 ↔ ¬ p := by
  unfold zb
  by_cases h : p
  · rw [if_pos h]; exact ⟨fun q => absurd q (by decide), fun q => absurd h q⟩
  · rw [if_neg h]; exact ⟨fun _ => h, fun _ => rfl⟩
theorem zb_1 {p : Prop} [Decidable p] : ¬ zb p = 0 ↔ p := by
  rw [zb_0]
  exact ⟨fun q => Decidable.of_not_not q, fun q z => z q⟩
theorem zb_nar {p : Prop} [Decidable p] : narrow .boolean (.int (zb p)) = .int (zb p) := by
  unfold zb
  by_cases h : p
  · rw [if_pos h]; rfl
  · rw [if_neg h]; rfl
theorem zb_c {p q : Prop} [Decidable p] [Decidable q] (h : p ↔ q) : zb p = zb q := by
  by_cases hp : p
  · rw [zb_t hp, zb_t (h.mp hp)]
  · rw [zb_f hp, zb_f (fun z => hp (h.mpr z))]
theorem ev_ge {E : gE} {M : gM} {d : Nat} {av : List Value} {h h' : hp_T} {v w : Option Value} (e : v = w) (k : ev E M d av h v h') : ev E M d av h w h' := e ▸ k
theorem ti_0 : (0 : Int32).toInt = 0 := by decide
theorem ti_1 : (1 : Int32).toInt = 1 := by decide
theorem ti_2 : (2 : Int32).toInt = 2 := by decide
theorem ti_3 : (3 : Int32).toInt = 3 := by decide
theorem ti_4 : (4 : Int32).toInt = 4 := by decide
theorem ti_5 : (5 : Int32).toInt = 5 := by decide
theorem ti_6 : (6 : Int32).toInt = 6 := by decide
theorem ti_7 : (7 : Int32).toInt = 7 := by decide
theorem ti_8 : (8 : Int32).toInt = 8 := by decide
theorem ti_9 : (9 : Int32).toInt = 9 := by decide
theorem ti_10 : (10 : Int32).toInt = 10 := by decide
theorem ti_11 : (11 : Int32).toInt = 11 := by decide
theorem ti_12 : (12 : Int32).toInt = 12 := by decide
theorem ti_13 : (13 : Int32).toInt = 13 := by decide
theorem ti_14 : (14 : Int32).toInt = 14 := by decide
theorem ti_15 : (15 : Int32).toInt = 15 := by decide
theorem ti_16 : (16 : Int32).toInt = 16 := by decide
theorem ti_17 : (17 : Int32).toInt = 17 := by decide
theorem ti_18 : (18 : Int32).toInt = 18 := by decide
theorem ti_19 : (19 : Int32).toInt = 19 := by decide
theorem ti_20 : (20 : Int32).toInt = 20 := by decide
theorem ti_21 : (21 : Int32).toInt = 21 := by decide
theorem ti_22 : (22 : Int32).toInt = 22 := by decide
theorem ti_23 : (23 : Int32).toInt = 23 := by decide
theorem ti_24 : (24 : Int32).toInt = 24 := by decide
theorem ti_25 : (25 : Int32).toInt = 25 := by decide
theorem ti_26 : (26 : Int32).toInt = 26 := by decide
theorem ti_27 : (27 : Int32).toInt = 27 := by decide
theorem ti_28 : (28 : Int32).toInt = 28 := by decide
theorem ti_29 : (29 : Int32).toInt = 29 := by decide
theorem ti_30 : (30 : Int32).toInt = 30 := by decide
theorem ti_40 : (40 : Int32).toInt = 40 := by decide
theorem ti_60 : (60 : Int32).toInt = 60 := by decide
theorem ti_64 : (64 : Int32).toInt = 64 := by decide
theorem ti_79 : (79 : Int32).toInt = 79 := by decide
theorem ti_80 : (80 : Int32).toInt = 80 := by decide
theorem ti_100 : (100 : Int32).toInt = 100 := by decide
theorem ti_119 : (119 : Int32).toInt = 119 := by decide
theorem ti_120 : (120 : Int32).toInt = 120 := by decide
theorem ti_121 : (121 : Int32).toInt = 121 := by decide
theorem ti_160 : (160 : Int32).toInt = 160 := by decide
theorem ti_199 : (199 : Int32).toInt = 199 := by decide
theorem ti_200 : (200 : Int32).toInt = 200 := by decide
theorem ti_201 : (201 : Int32).toInt = 201 := by decide
theorem ti_255 : (255 : Int32).toInt = 255 := by decide
theorem ti_600 : (600 : Int32).toInt = 600 := by decide
theorem ti_640 : (640 : Int32).toInt = 640 := by decide
theorem ti_999 : (999 : Int32).toInt = 999 := by decide
theorem ti_1000 : (1000 : Int32).toInt = 1000 := by decide
theorem ti_9999 : (9999 : Int32).toInt = 9999 := by decide
theorem ti_99999 : (99999 : Int32).toInt = 99999 := by decide
theorem ti_100000000 : (100000000 : Int32).toInt = 100000000 := by decide
theorem ti_1000000000 : (1000000000 : Int32).toInt = 1000000000 := by decide
theorem ti_128640 : (128640 : Int32).toInt = 128640 := by decide
theorem ti_m1 : (-1 : Int32).toInt = -1 := by decide
theorem ti_m2 : (-2 : Int32).toInt = -2 := by decide
theorem ti_m1000000000 : (-1000000000 : Int32).toInt = -1000000000 := by decide
