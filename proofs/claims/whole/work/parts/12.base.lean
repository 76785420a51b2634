/-! ===== ends with a spec, conditions as 0 and 1, literals ===== -/
section GE
variable {E : gE} {M : gM} {d pc : Nat} {lv : List (Nat × Value)} {rest : List Value} {h h' : hp_T} {v : Option Value}
theorem gf_iretE {x y : Int32} (hdg : decode M.2.1 pc = .ok (.ireturn, 1)) (hr : M.2.2.2.1 = some .int) (e : x = y) (eh : h = h') : gf E M d pc lv [.int x] h (some (.int y)) h' := by
  subst e; subst eh; exact gf_iret hdg hr
theorem gf_zretE {x y : Int32} (hdg : decode M.2.1 pc = .ok (.ireturn, 1)) (hr : M.2.2.2.1 = some .boolean) (hn : narrow .boolean (.int x) = .int x) (e : x = y) (eh : h = h') : gf E M d pc lv [.int x] h (some (.int y)) h' := by
  subst e; subst eh; exact gf_zret hdg hr hn
theorem gf_lretE {x y : Int64} (hdg : decode M.2.1 pc = .ok (.lreturn, 1)) (hr : M.2.2.2.1 = some .long) (e : x = y) (eh : h = h') : gf E M d pc lv [.long x] h (some (.long y)) h' := by
  subst e; subst eh; exact gf_lret hdg hr
theorem gf_vretE (hdg : decode M.2.1 pc = .ok (.return_, 1)) (hr : M.2.2.2.1 = none) (eh : h = h') : gf E M d pc lv [] h none h' := by
  subst eh; exact gf_vret hdg hr
end GE
/-- a condition as an int -/
def zb (p : Prop) [Decidable p] : Int32 := if p then 1 else 0
theorem zb_t {p : Prop} [Decidable p] (h : p) : zb p = 1 := if_pos h
theorem zb_f {p : Prop} [Decidable p] (h : ¬ p) : zb p = 0 := if_neg h
theorem zb_0 {p : Prop} [Decidable p] : zb p = 0 ↔ ¬ p := by
  unfold zb
  by_cases h : p
  · rw [if_pos h]; exact ⟨fun q => absurd q (by decide), fun q => absurd h q⟩
  · rw [if_neg h]; exact ⟨fun _ => h, fun _ => rfl⟩
theorem zb_1 {p : Prop} [Decidable p] : ¬ zb p = 0 ↔ p := by
  rw [zb_0]
  exact ⟨fun q => Decidable.of_not_not q, fun q z => z q⟩
theorem zb_nar {p : Prop} [Decidable p] : narrow .boolean (.int (zb p)) = .int (zb p) := by
  unfold zb
  by_cases h : p
  · rw [if_pos h]; rfl
  · rw [if_neg h]; rfl
theorem zb_c {p q : Prop} [Decidable p] [Decidable q] (h : p ↔ q) : zb p = zb q := by
  by_cases hp : p
  · rw [zb_t hp, zb_t (h.mp hp)]
  · rw [zb_f hp, zb_f (fun z => hp (h.mpr z))]
theorem ev_ge {E : gE} {M : gM} {d : Nat} {av : List Value} {h h' : hp_T} {v w : Option Value} (e : v = w) (k : ev E M d av h v h') : ev E M d av h w h' := e ▸ k
theorem ti_0 : (0 : Int32).toInt = 0 := by decide
theorem ti_1 : (1 : Int32).toInt = 1 := by decide
theorem ti_2 : (2 : Int32).toInt = 2 := by decide
theorem ti_3 : (3 : Int32).toInt = 3 := by decide
theorem ti_4 : (4 : Int32).toInt = 4 := by decide
theorem ti_5 : (5 : Int32).toInt = 5 := by decide
theorem ti_6 : (6 : Int32).toInt = 6 := by decide
theorem ti_7 : (7 : Int32).toInt = 7 := by decide
theorem ti_8 : (8 : Int32).toInt = 8 := by decide
theorem ti_9 : (9 : Int32).toInt = 9 := by decide
theorem ti_10 : (10 : Int32).toInt = 10 := by decide
theorem ti_11 : (11 : Int32).toInt = 11 := by decide
theorem ti_12 : (12 : Int32).toInt = 12 := by decide
theorem ti_13 : (13 : Int32).toInt = 13 := by decide
theorem ti_14 : (14 : Int32).toInt = 14 := by decide
theorem ti_15 : (15 : Int32).toInt = 15 := by decide
theorem ti_16 : (16 : Int32).toInt = 16 := by decide
theorem ti_17 : (17 : Int32).toInt = 17 := by decide
theorem ti_18 : (18 : Int32).toInt = 18 := by decide
theorem ti_19 : (19 : Int32).toInt = 19 := by decide
theorem ti_20 : (20 : Int32).toInt = 20 := by decide
theorem ti_21 : (21 : Int32).toInt = 21 := by decide
theorem ti_22 : (22 : Int32).toInt = 22 := by decide
theorem ti_23 : (23 : Int32).toInt = 23 := by decide
theorem ti_24 : (24 : Int32).toInt = 24 := by decide
theorem ti_25 : (25 : Int32).toInt = 25 := by decide
theorem ti_26 : (26 : Int32).toInt = 26 := by decide
theorem ti_27 : (27 : Int32).toInt = 27 := by decide
theorem ti_28 : (28 : Int32).toInt = 28 := by decide
theorem ti_29 : (29 : Int32).toInt = 29 := by decide
theorem ti_30 : (30 : Int32).toInt = 30 := by decide
theorem ti_40 : (40 : Int32).toInt = 40 := by decide
theorem ti_60 : (60 : Int32).toInt = 60 := by decide
theorem ti_64 : (64 : Int32).toInt = 64 := by decide
theorem ti_79 : (79 : Int32).toInt = 79 := by decide
theorem ti_80 : (80 : Int32).toInt = 80 := by decide
theorem ti_100 : (100 : Int32).toInt = 100 := by decide
theorem ti_119 : (119 : Int32).toInt = 119 := by decide
theorem ti_120 : (120 : Int32).toInt = 120 := by decide
theorem ti_121 : (121 : Int32).toInt = 121 := by decide
theorem ti_160 : (160 : Int32).toInt = 160 := by decide
theorem ti_199 : (199 : Int32).toInt = 199 := by decide
theorem ti_200 : (200 : Int32).toInt = 200 := by decide
theorem ti_201 : (201 : Int32).toInt = 201 := by decide
theorem ti_255 : (255 : Int32).toInt = 255 := by decide
theorem ti_600 : (600 : Int32).toInt = 600 := by decide
theorem ti_640 : (640 : Int32).toInt = 640 := by decide
theorem ti_999 : (999 : Int32).toInt = 999 := by decide
theorem ti_1000 : (1000 : Int32).toInt = 1000 := by decide
theorem ti_9999 : (9999 : Int32).toInt = 9999 := by decide
theorem ti_99999 : (99999 : Int32).toInt = 99999 := by decide
theorem ti_100000000 : (100000000 : Int32).toInt = 100000000 := by decide
theorem ti_1000000000 : (1000000000 : Int32).toInt = 1000000000 := by decide
theorem ti_128640 : (128640 : Int32).toInt = 128640 := by decide
theorem ti_m1 : (-1 : Int32).toInt = -1 := by decide
theorem ti_m2 : (-2 : Int32).toInt = -2 := by decide
theorem ti_m1000000000 : (-1000000000 : Int32).toInt = -1000000000 := by decide
