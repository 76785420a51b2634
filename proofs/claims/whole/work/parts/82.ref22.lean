/-! ===== the reference: plan ===== -/
theorem mst_sP (h : hp_T) (M : mM) (N : mN) (W : tW) (e : Nat) (o c a b : Int32) : hm h (mstT (up2 M 0 70 (nI W.1)) e o c a b) (uprL N 52 W.2) = sP h (mstT M e o c a b) N W := by
  unfold sP mstT
  refine congrArg (fun x => hm h x _) ?_
  rw [up2_comm M (by decide), up2_comm (up2 M 41 e o) (by decide), up2_comm (up2 (up2 M 41 e o) 42 e c) (by decide), up2_comm (up2 (up2 (up2 M 41 e o) 42 e c) 43 e a) (by decide)]
/-- in order while plans are tried: k engines more than m -/
def plnI (M : mM) (n s w g m k p : Nat) : Prop := refI M n s w g ∧ ((∀ c, c < 120 → ∃ q, q < 4 ∧ M 31 c = nI q) ∧ (∀ c, c < 120 → ∃ q, q < 6 ∧ M 32 c = nI q)) ∧ (M 0 54 = nI (m + k) ∧ m + k ≤ 12) ∧ ((∀ e, e < m → ∃ q, q ≤ 9 ∧ M 43 e = nI q) ∧ (∀ e, e < m → ∃ a, a < w * g ∧ M 42 e = nI a)) ∧ (M 0 60 = nI p ∧ p ≤ 8 ∧ ∀ i, i < p → ∃ a, a < w * g ∧ M 46 i = nI a)
theorem plnI_of {M Z : mM} {n s w g m k p : Nat} (h0 : ∀ k, k < 70 → Z 0 k = M 0 k) (hr : ∀ r, r ≠ 0 → r < 53 → r < 41 ∨ 44 < r → Z r = M r) (h43 : ∀ e, e < m → Z 43 e = M 43 e) (h42 : ∀ e, e < m → Z 42 e = M 42 e) (I : plnI M n s w g m k p) : plnI Z n s w g m k p := by
  refine ⟨refI_of (fun k hk => h0 k (by omega)) (fun r hk => hr r (by omega) (by omega) (by omega)) I.1, ?_, ?_, ?_, ?_⟩
  · rw [hr 31 (by decide) (by decide) (by decide), hr 32 (by decide) (by decide) (by decide)]; exact I.2.1
  · rw [h0 54 (by decide)]; exact I.2.2.1
  · exact ⟨fun e he => by rw [h43 e he]; exact I.2.2.2.1.1 e he, fun e he => by rw [h42 e he]; exact I.2.2.2.1.2 e he⟩
  · rw [h0 60 (by decide), hr 46 (by decide) (by decide) (by decide)]; exact I.2.2.2.2
theorem mst_row {M : mM} {e : Nat} {o c a b : Int32} {r : Nat} (h : r < 41 ∨ 44 < r) : mstT M e o c a b r = M r := by
  unfold mstT
  rw [up2_row (by omega), up2_row (by omega), up2_row (by omega), up2_row (by omega)]
theorem mst_42 (M : mM) (e : Nat) (o c a b : Int32) (x : Nat) : mstT M e o c a b 42 x = if x = e then c else M 42 x := by
  have h : mstT M e o c a b 42 = up2 M 42 e c 42 := by
    unfold mstT
    rw [up2_row (show 42 ≠ 44 by decide), up2_row (show 42 ≠ 43 by decide)]
    funext i
    unfold up2
    rfl
  rw [h]
  by_cases q : x = e
  · rw [q, up2_s, if_pos rfl]
  · rw [up2_k _ _ q, if_neg q]
theorem mst_43 (M : mM) (e : Nat) (o c a b : Int32) (x : Nat) : mstT M e o c a b 43 x = if x = e then a else M 43 x := by
  have h : mstT M e o c a b 43 = up2 M 43 e a 43 := by
    unfold mstT
    rw [up2_row (show 43 ≠ 44 by decide)]
    funext i
    unfold up2
    rfl
  rw [h]
  by_cases q : x = e
  · rw [q, up2_s, if_pos rfl]
  · rw [up2_k _ _ q, if_neg q]
def mps1 (m : Nat) (o go po : Int32) (x y q : Nat) (M : mM) : mM := (mstT M m o (M 46 x) go po)
def plg1 (n s w g m c T : Nat) (o go po : Int32) (x y q : Nat) (M : mM) (W : tW) : mM := goF n s w g (m + 1) c T (mps1 m o go po x y q M, W)
def plw1 (n s w g m : Nat) (o go po : Int32) (x y q : Nat) (M : mM) (W : tW) : qS := goZ n s w g (mps1 m o go po x y q M, W)
def pll1 (n s w g m c T : Nat) (o go po : Int32) (x y q : Nat) (M : mM) (W : tW) : Int32 := itN (fun f v => f + mloV (plg1 n s w g m c T o go po x y q M W) v) 0 (w * g)
theorem plg1_row {n s w g m c T : Nat} {o go po : Int32} {x y q : Nat} {M : mM} {W : tW} {r : Nat} (h0 : r ≠ 0) (hr : r < 53) (hr2 : r < 41 ∨ 44 < r) : plg1 n s w g m c T o go po x y q M W r = M r := by
  unfold plg1 mps1
  rw [go_row (by omega) h0]
  dsimp only
  rw [mst_row hr2]
theorem pln_F1 {M : mM} {n s w g m p x y q : Nat} {o go po : Int32} (I : plnI M n s w g m 1 p) (hgo : ∃ q, q ≤ 9 ∧ go = nI q) (hx : x < p) (hy : y < p) (hq : q < p) : refI (mstT M m o (M 46 x) go po) n s w g ∧ preI (mstT M m o (M 46 x) go po) w g (m + 1) := by
  have r : ∀ {r : Nat}, r < 41 ∨ 44 < r → (mstT M m o (M 46 x) go po) r = M r := fun hr => by rw [mst_row hr]
  refine ⟨refI_of (fun k _ => congrFun (r (by omega)) k) (fun r' hr => r (by omega)) I.1, by rw [r (by omega)]; exact I.2.1.1, by rw [r (by omega)]; exact I.2.1.2, by rw [r (by omega)]; exact I.2.2.1.1, I.2.2.1.2, fun e he => ?_, fun e he => ?_⟩
  · rw [mst_43]
    repeat' split
    all_goals first | exact hgo | exact I.2.2.2.1.1 e (by omega)
  · rw [mst_42]
    repeat' split
    all_goals first | exact I.2.2.2.2.2.2 _ hx | exact I.2.2.2.2.2.2 _ hy | exact I.2.2.2.2.2.2 _ hq | exact I.2.2.2.1.2 e (by omega)
def plz1B (n s w g m c T : Nat) (o go po : Int32) (x y : Nat) (z : (mM × mN × tW) × Int32) (jz : Nat) : (mM × mN × tW) × Int32 := (if z.2 = (-1) then (((up2 (up2 (up2 (plg1 n s w g m c T o go po x y (y + jz) z.1.1 z.1.2.2) 85 0 ((plg1 n s w g m c T o go po x y (y + jz) z.1.1 z.1.2.2) 46 x)) 85 1 ((up2 (plg1 n s w g m c T o go po x y (y + jz) z.1.1 z.1.2.2) 85 0 ((plg1 n s w g m c T o go po x y (y + jz) z.1.1 z.1.2.2) 46 x)) 46 y)) 85 2 ((up2 (up2 (plg1 n s w g m c T o go po x y (y + jz) z.1.1 z.1.2.2) 85 0 ((plg1 n s w g m c T o go po x y (y + jz) z.1.1 z.1.2.2) 46 x)) 85 1 ((up2 (plg1 n s w g m c T o go po x y (y + jz) z.1.1 z.1.2.2) 85 0 ((plg1 n s w g m c T o go po x y (y + jz) z.1.1 z.1.2.2) 46 x)) 46 y)) 46 (y + jz))), (z.1.2.1, (plw1 n s w g m o go po x y (y + jz) z.1.1 z.1.2.2).2)), (pll1 n s w g m c T o go po x y (y + jz) z.1.1 z.1.2.2)) else (if (pll1 n s w g m c T o go po x y (y + jz) z.1.1 z.1.2.2) < z.2 then (((up2 (up2 (up2 (plg1 n s w g m c T o go po x y (y + jz) z.1.1 z.1.2.2) 85 0 ((plg1 n s w g m c T o go po x y (y + jz) z.1.1 z.1.2.2) 46 x)) 85 1 ((up2 (plg1 n s w g m c T o go po x y (y + jz) z.1.1 z.1.2.2) 85 0 ((plg1 n s w g m c T o go po x y (y + jz) z.1.1 z.1.2.2) 46 x)) 46 y)) 85 2 ((up2 (up2 (plg1 n s w g m c T o go po x y (y + jz) z.1.1 z.1.2.2) 85 0 ((plg1 n s w g m c T o go po x y (y + jz) z.1.1 z.1.2.2) 46 x)) 85 1 ((up2 (plg1 n s w g m c T o go po x y (y + jz) z.1.1 z.1.2.2) 85 0 ((plg1 n s w g m c T o go po x y (y + jz) z.1.1 z.1.2.2) 46 x)) 46 y)) 46 (y + jz))), (z.1.2.1, (plw1 n s w g m o go po x y (y + jz) z.1.1 z.1.2.2).2)), (pll1 n s w g m c T o go po x y (y + jz) z.1.1 z.1.2.2)) else (((plg1 n s w g m c T o go po x y (y + jz) z.1.1 z.1.2.2), (z.1.2.1, (plw1 n s w g m o go po x y (y + jz) z.1.1 z.1.2.2).2)), z.2)))
theorem plz1_row {n s w g m c T : Nat} {o go po : Int32} {x y : Nat} (u : (mM × mN × tW) × Int32) (j : Nat) {r : Nat} (h : r ≠ 85) : (plz1B n s w g m c T o go po x y u j).1.1 r = plg1 n s w g m c T o go po x y (y + j) u.1.1 u.1.2.2 r := by
  unfold plz1B
  repeat' split
  all_goals first | rfl | (dsimp only; rw [up2_row h, up2_row h, up2_row h])
theorem plz1_I {n s w g m p c T : Nat} {o go po : Int32} {x y : Nat} {z : (mM × mN × tW) × Int32} (I : plnI z.1.1 n s w g m 1 p) : ∀ j, plnI (itN (plz1B n s w g m c T o go po x y) z j).1.1 n s w g m 1 p
  | 0 => I
  | j + 1 => by
    have ih := plz1_I (c := c) (T := T) (o := o) (go := go) (po := po) (x := x) (y := y) I j
    rw [itN_s]
    generalize itN (plz1B n s w g m c T o go po x y) z j = u at ih ⊢
    have r : ∀ {r : Nat}, r ≠ 0 → r < 53 → r < 41 ∨ 44 < r → (plz1B n s w g m c T o go po x y u j).1.1 r = u.1.1 r := fun {r} h0 hr hr2 => by
      rw [plz1_row u j (by omega)]
      exact plg1_row h0 hr hr2
    refine plnI_of (M := u.1.1) ?_ (fun r' h0 hr hr2 => r h0 hr hr2) ?_ ?_ ih
    · intro k hk
      rw [plz1_row u j (by decide)]
      unfold plg1 mps1
      rw [go_0 (by omega)]
      dsimp only
      rw [mst_row (by decide)]
    · intro e he
      rw [plz1_row u j (by decide)]
      unfold plg1 mps1
      rw [go_row (by decide) (by decide)]
      dsimp only
      rw [mst_43, if_neg (by omega)]
    · intro e he
      rw [plz1_row u j (by decide)]
      unfold plg1 mps1
      rw [go_row (by decide) (by decide)]
      dsimp only
      rw [mst_42, if_neg (by omega)]
theorem l_plz1 (E : gE) {d : Nat} (hd : 9 ≤ d) {n s w g m p c T : Nat} (o go po : Int32) (h : hp_T) (hG : gr h) (M : mM) (N : mN) (W : tW) (I : plnI M n s w g m 1 p) (hgo : ∃ q, q ≤ 9 ∧ go = nI q) (hc : c < w * g) (hT : T ≤ 120) (x y : Nat) (hx : x < p) (hy : y < p) (be : Int32) {v : Option Value} {hz : hp_T} (K : gf E mX12_plan d 336 [(0, .ref (E.1 + 247)), (1, .int (nI 1)), (2, .int o), (3, .int go), (4, .int po), (5, .int (nI c)), (6, .int (nI T)), (7, .int (nI m)), (8, .int ((itN (plz1B n s w g m c T o go po x y) ((M, N, W), be) (1 : Nat)).2)), (9, .int (nI x)), (10, .int (nI y))] [] (sP h ((itN (plz1B n s w g m c T o go po x y) ((M, N, W), be) (1 : Nat)).1.1) ((itN (plz1B n s w g m c T o go po x y) ((M, N, W), be) (1 : Nat)).1.2).1 ((itN (plz1B n s w g m c T o go po x y) ((M, N, W), be) (1 : Nat)).1.2).2) v hz) : ∀ (kz jz : Nat), jz + kz = (1 : Nat) → gf E mX12_plan d 171 [(0, .ref (E.1 + 247)), (1, .int (nI 1)), (2, .int o), (3, .int go), (4, .int po), (5, .int (nI c)), (6, .int (nI T)), (7, .int (nI m)), (8, .int ((itN (plz1B n s w g m c T o go po x y) ((M, N, W), be) jz).2)), (9, .int (nI x)), (10, .int (nI y)), (11, .int (nI (y + jz)))] [] (sP h ((itN (plz1B n s w g m c T o go po x y) ((M, N, W), be) jz).1.1) ((itN (plz1B n s w g m c T o go po x y) ((M, N, W), be) jz).1.2).1 ((itN (plz1B n s w g m c T o go po x y) ((M, N, W), be) jz).1.2).2) v hz := by
  have hp8 : p ≤ 8 := I.2.2.2.2.2.1
  intro kz
  induction kz with
  | zero =>
    intro jz hj
    have hj : (1 : Nat) = jz := by omega
    subst hj
    have Iz : plnI (itN (plz1B n s w g m c T o go po x y) ((M, N, W), be) (1 : Nat)).1.1 n s w g m 1 p := plz1_I (z := ((M, N, W), be)) I (1 : Nat)
    generalize ez : (itN (plz1B n s w g m c T o go po x y) ((M, N, W), be) (1 : Nat)) = z at K Iz ⊢
    refine gf_iload dX12_plan_171 rfl ?_
    refine gf_iload_n 1 dX12_plan_173 rfl rfl ?_
    refine gf_iconst (2) dX12_plan_174 rfl ?_
    refine gf_icmp_le 185 dX12_plan_175 rfl (fun _ => ?_) (fun q => absurd (by decide) q)
    refine gf_iload dX12_plan_185 rfl ?_
    refine gf_iconst (1) dX12_plan_187 rfl ?_
    refine gf_iadd dX12_plan_188 ?_
    rw [nI_1]
    refine gf_icmp_ge 336 dX12_plan_189 rfl (fun _ => ?_) (fun q => absurd (nI_le (by omega) (by omega)) q)
    exact gf_lw K ⟨rfl, rfl, rfl, rfl, rfl, rfl, rfl, rfl, rfl, rfl, rfl, trivial⟩
  | succ kz ih =>
    intro jz hj
    have ih1 := ih (jz + 1) (by omega)
    have Iz : plnI (itN (plz1B n s w g m c T o go po x y) ((M, N, W), be) jz).1.1 n s w g m 1 p := plz1_I (z := ((M, N, W), be)) I jz
    rw [show (itN (plz1B n s w g m c T o go po x y) ((M, N, W), be) (jz + 1)) = plz1B n s w g m c T o go po x y (itN (plz1B n s w g m c T o go po x y) ((M, N, W), be) jz) jz from itN_s _ _ _] at ih1
    generalize (itN (plz1B n s w g m c T o go po x y) ((M, N, W), be) jz) = z at ih1 Iz ⊢
    have hx9 : x < p := hx
    have hy9 : y < p := hy
    have IF : refI (mps1 m o go po x y (y + jz) z.1.1) n s w g ∧ preI (mps1 m o go po x y (y + jz) z.1.1) w g (m + 1) := pln_F1 (x := x) (y := y) (q := y + jz) Iz hgo (by omega) (by omega) (by omega)
    refine gf_iload dX12_plan_171 rfl ?_
    refine gf_iload_n 1 dX12_plan_173 rfl rfl ?_
    refine gf_iconst (2) dX12_plan_174 rfl ?_
    refine gf_icmp_le 185 dX12_plan_175 rfl (fun _ => ?_) (fun q => absurd (by decide) q)
    refine gf_iload dX12_plan_185 rfl ?_
    refine gf_iconst (1) dX12_plan_187 rfl ?_
    refine gf_iadd dX12_plan_188 ?_
    rw [nI_1]
    refine gf_icmp_ge 336 dX12_plan_189 rfl (fun q => absurd q (nI_ge (by omega) (by omega))) (fun _ => ?_)
    refine gf_aload_n 0 dX12_plan_192 rfl rfl ?_
    refine gf_iload dX12_plan_193 rfl ?_
    refine gf_iload_n 2 dX12_plan_195 rfl rfl ?_
    refine gf_aload_n 0 dX12_plan_196 rfl rfl ?_
    refine gf_getR flX12_158 rfl dX12_plan_197 (gt_247 hG) (gp_247_61 hG) ?_
    refine gf_iload dX12_plan_200 rfl ?_
    refine gf_iald 8 dX12_plan_202 (gt_293 hG) (gl_293 hG) rfl (by omega) (by decide) ?_
    refine gf_iload_n 3 dX12_plan_203 rfl rfl ?_
    refine gf_iload dX12_plan_204 rfl ?_
    refine gf_callV cmX12_stands lkX12_456 imX12_stands seX12_stands ⟨rfl, by decide⟩ dX12_plan_206 (d1 := d - 1) (by omega) (gt_247 hG) (e_X12_stands E (e := m) (by omega) o (z.1.1 46 x) go po h hG (up2 z.1.1 0 70 (nI z.1.2.2.1)) (uprL z.1.2.1 52 z.1.2.2.2) (by have := Iz.2.2.1.2; omega)) rfl rfl (Nat.le_of_ble_eq_true rfl) ?_
    rw [mst_sP]
    change gf _ _ _ _ _ _ (sP h (mps1 m o go po x y (y + jz) z.1.1) z.1.2.1 z.1.2.2) _ _
    refine gf_iload_n 1 dX12_plan_209 rfl rfl ?_
    refine gf_iconst (1) dX12_plan_210 rfl ?_
    refine gf_icmp_le 233 dX12_plan_211 rfl (fun _ => ?_) (fun q => absurd (by decide) q)
    refine gf_iload_n 1 dX12_plan_233 rfl rfl ?_
    refine gf_iconst (2) dX12_plan_234 rfl ?_
    refine gf_icmp_le 257 dX12_plan_235 rfl (fun _ => ?_) (fun q => absurd (by decide) q)
    refine gf_aload_n 0 dX12_plan_257 rfl rfl ?_
    refine gf_iload dX12_plan_258 rfl ?_
    refine gf_iload dX12_plan_260 rfl ?_
    refine gf_callV cmX12_goes lkX12_611 imX12_goes seX12_goes ⟨rfl, by decide⟩ dX12_plan_262 (d1 := d - 1) (by omega) (gt_247 hG) (e_X12_goes E (by omega) (n := n) (s := s) (w := w) (g := g) (m := m + 1) (c0 := c) (T := T) h hG (mps1 m o go po x y (y + jz) z.1.1) z.1.2.1 IF.1 z.1.2.2 IF.2 hc hT) rfl rfl (Nat.le_of_ble_eq_true rfl) ?_
    rw [go_hm]
    change gf _ _ _ _ _ _ (sP h (plg1 n s w g m c T o go po x y (y + jz) z.1.1 z.1.2.2) z.1.2.1 (plw1 n s w g m o go po x y (y + jz) z.1.1 z.1.2.2).2) _ _
    have hw9 : ∀ x9, x9 < 120 → ∃ k, k < 4 ∧ (plg1 n s w g m c T o go po x y (y + jz) z.1.1 z.1.2.2) 31 x9 = nI k := by rw [show (plg1 n s w g m c T o go po x y (y + jz) z.1.1 z.1.2.2) 31 = z.1.1 31 from plg1_row (by decide) (by decide) (by decide)]; exact Iz.2.1.1
    refine gf_aload_n 0 dX12_plan_265 rfl rfl ?_
    refine gf_callV cmX12_lossOfAll lkX12_623 imX12_lossOfAll seX12_lossOfAll ⟨rfl, by decide⟩ dX12_plan_266 (d1 := d - 1) (by omega) (gt_247 hG) (e_X12_lossOfAll E (by omega) (w := w) (g := g) h hG (up2 (plg1 n s w g m c T o go po x y (y + jz) z.1.1 z.1.2.2) 0 70 (nI (plw1 n s w g m o go po x y (y + jz) z.1.1 z.1.2.2).2.1)) (uprL z.1.2.1 52 (plw1 n s w g m o go po x y (y + jz) z.1.1 z.1.2.2).2.2) (show mcty (plg1 n s w g m c T o go po x y (y + jz) z.1.1 z.1.2.2) w g from (go_refI (z := ((mps1 m o go po x y (y + jz) z.1.1), z.1.2.2)) IF.1).2.1) (show ∀ x9, x9 < 120 → ∃ k, k < 4 ∧ (plg1 n s w g m c T o go po x y (y + jz) z.1.1 z.1.2.2) 31 x9 = nI k from hw9)) rfl rfl (Nat.le_of_ble_eq_true rfl) ?_
    change gf _ _ _ _ _ [.int (pll1 n s w g m c T o go po x y (y + jz) z.1.1 z.1.2.2)] (sP h (plg1 n s w g m c T o go po x y (y + jz) z.1.1 z.1.2.2) (z.1.2.1, (plw1 n s w g m o go po x y (y + jz) z.1.1 z.1.2.2).2).1 (z.1.2.1, (plw1 n s w g m o go po x y (y + jz) z.1.1 z.1.2.2).2).2) _ _
    refine gf_istore dX12_plan_269 (Nat.le_of_ble_eq_true rfl) ?_
    refine gf_lw (lv' := [(0, .ref (E.1 + 247)), (1, .int (nI 1)), (2, .int o), (3, .int go), (4, .int po), (5, .int (nI c)), (6, .int (nI T)), (7, .int (nI m)), (8, .int z.2), (9, .int (nI x)), (10, .int (nI y)), (11, .int (nI (y + jz))), (12, .int (pll1 n s w g m c T o go po x y (y + jz) z.1.1 z.1.2.2))]) ?_ ⟨rfl, rfl, rfl, rfl, rfl, rfl, rfl, rfl, rfl, rfl, rfl, rfl, rfl, trivial⟩
    refine gf_iload dX12_plan_271 rfl ?_
    refine gf_iconst (-1) dX12_plan_273 rfl ?_
    refine gf_icmp_eq 287 dX12_plan_274 rfl (fun zc274 => ?_) (fun zc274 => ?_)
    · refine gf_iload dX12_plan_287 rfl ?_
      refine gf_istore dX12_plan_289 (Nat.le_of_ble_eq_true rfl) ?_
      refine gf_aload_n 0 dX12_plan_291 rfl rfl ?_
      refine gf_getR flX12_279 rfl dX12_plan_292 (gt_247 hG) (gp_247_113 hG) ?_
      refine gf_iconst (0) dX12_plan_295 rfl ?_
      refine gf_aload_n 0 dX12_plan_296 rfl rfl ?_
      refine gf_getR flX12_158 rfl dX12_plan_297 (gt_247 hG) (gp_247_61 hG) ?_
      refine gf_iload dX12_plan_300 rfl ?_
      refine gf_iald 8 dX12_plan_302 (gt_293 hG) (gl_293 hG) rfl (by omega) (by decide) ?_
      refine gf_iast 3 dX12_plan_303 (gt_332 hG) (gl_332 hG) (show (0 : Int32) = nI 0 from rfl) (by decide) (by decide) ?_
      rw [sQ_85]
      refine gf_aload_n 0 dX12_plan_304 rfl rfl ?_
      refine gf_getR flX12_279 rfl dX12_plan_305 (gt_247 hG) (gp_247_113 hG) ?_
      refine gf_iconst (1) dX12_plan_308 rfl ?_
      refine gf_aload_n 0 dX12_plan_309 rfl rfl ?_
      refine gf_getR flX12_158 rfl dX12_plan_310 (gt_247 hG) (gp_247_61 hG) ?_
      refine gf_iload dX12_plan_313 rfl ?_
      refine gf_iald 8 dX12_plan_315 (gt_293 hG) (gl_293 hG) rfl (by omega) (by decide) ?_
      refine gf_iast 3 dX12_plan_316 (gt_332 hG) (gl_332 hG) (show (1 : Int32) = nI 1 from rfl) (by decide) (by decide) ?_
      rw [sQ_85]
      refine gf_aload_n 0 dX12_plan_317 rfl rfl ?_
      refine gf_getR flX12_279 rfl dX12_plan_318 (gt_247 hG) (gp_247_113 hG) ?_
      refine gf_iconst (2) dX12_plan_321 rfl ?_
      refine gf_aload_n 0 dX12_plan_322 rfl rfl ?_
      refine gf_getR flX12_158 rfl dX12_plan_323 (gt_247 hG) (gp_247_61 hG) ?_
      refine gf_iload dX12_plan_326 rfl ?_
      refine gf_iald 8 dX12_plan_328 (gt_293 hG) (gl_293 hG) rfl (by omega) (by decide) ?_
      refine gf_iast 3 dX12_plan_329 (gt_332 hG) (gl_332 hG) (show (2 : Int32) = nI 2 from rfl) (by decide) (by decide) ?_
      rw [sQ_85]
      refine gf_iinc (1) dX12_plan_330 rfl rfl (Nat.le_of_ble_eq_true rfl) ?_
      refine gf_goto 171 dX12_plan_333 rfl ?_
      rw [show plz1B n s w g m c T o go po x y z jz = (((up2 (up2 (up2 (plg1 n s w g m c T o go po x y (y + jz) z.1.1 z.1.2.2) 85 0 ((plg1 n s w g m c T o go po x y (y + jz) z.1.1 z.1.2.2) 46 x)) 85 1 ((up2 (plg1 n s w g m c T o go po x y (y + jz) z.1.1 z.1.2.2) 85 0 ((plg1 n s w g m c T o go po x y (y + jz) z.1.1 z.1.2.2) 46 x)) 46 y)) 85 2 ((up2 (up2 (plg1 n s w g m c T o go po x y (y + jz) z.1.1 z.1.2.2) 85 0 ((plg1 n s w g m c T o go po x y (y + jz) z.1.1 z.1.2.2) 46 x)) 85 1 ((up2 (plg1 n s w g m c T o go po x y (y + jz) z.1.1 z.1.2.2) 85 0 ((plg1 n s w g m c T o go po x y (y + jz) z.1.1 z.1.2.2) 46 x)) 46 y)) 46 (y + jz))), (z.1.2.1, (plw1 n s w g m o go po x y (y + jz) z.1.1 z.1.2.2).2)), (pll1 n s w g m c T o go po x y (y + jz) z.1.1 z.1.2.2)) from if_pos zc274] at ih1
      exact gf_lw ih1 ⟨rfl, rfl, rfl, rfl, rfl, rfl, rfl, rfl, rfl, rfl, rfl, lvE (nI_1 (y + jz)), trivial⟩
    · refine gf_iload dX12_plan_277 rfl ?_
      refine gf_iload dX12_plan_279 rfl ?_
      refine gf_icmp_lt 287 dX12_plan_281 rfl (fun zc281 => ?_) (fun zc281 => ?_)
      · refine gf_iload dX12_plan_287 rfl ?_
        refine gf_istore dX12_plan_289 (Nat.le_of_ble_eq_true rfl) ?_
        refine gf_aload_n 0 dX12_plan_291 rfl rfl ?_
        refine gf_getR flX12_279 rfl dX12_plan_292 (gt_247 hG) (gp_247_113 hG) ?_
        refine gf_iconst (0) dX12_plan_295 rfl ?_
        refine gf_aload_n 0 dX12_plan_296 rfl rfl ?_
        refine gf_getR flX12_158 rfl dX12_plan_297 (gt_247 hG) (gp_247_61 hG) ?_
        refine gf_iload dX12_plan_300 rfl ?_
        refine gf_iald 8 dX12_plan_302 (gt_293 hG) (gl_293 hG) rfl (by omega) (by decide) ?_
        refine gf_iast 3 dX12_plan_303 (gt_332 hG) (gl_332 hG) (show (0 : Int32) = nI 0 from rfl) (by decide) (by decide) ?_
        rw [sQ_85]
        refine gf_aload_n 0 dX12_plan_304 rfl rfl ?_
        refine gf_getR flX12_279 rfl dX12_plan_305 (gt_247 hG) (gp_247_113 hG) ?_
        refine gf_iconst (1) dX12_plan_308 rfl ?_
        refine gf_aload_n 0 dX12_plan_309 rfl rfl ?_
        refine gf_getR flX12_158 rfl dX12_plan_310 (gt_247 hG) (gp_247_61 hG) ?_
        refine gf_iload dX12_plan_313 rfl ?_
        refine gf_iald 8 dX12_plan_315 (gt_293 hG) (gl_293 hG) rfl (by omega) (by decide) ?_
        refine gf_iast 3 dX12_plan_316 (gt_332 hG) (gl_332 hG) (show (1 : Int32) = nI 1 from rfl) (by decide) (by decide) ?_
        rw [sQ_85]
        refine gf_aload_n 0 dX12_plan_317 rfl rfl ?_
        refine gf_getR flX12_279 rfl dX12_plan_318 (gt_247 hG) (gp_247_113 hG) ?_
        refine gf_iconst (2) dX12_plan_321 rfl ?_
        refine gf_aload_n 0 dX12_plan_322 rfl rfl ?_
        refine gf_getR flX12_158 rfl dX12_plan_323 (gt_247 hG) (gp_247_61 hG) ?_
        refine gf_iload dX12_plan_326 rfl ?_
        refine gf_iald 8 dX12_plan_328 (gt_293 hG) (gl_293 hG) rfl (by omega) (by decide) ?_
        refine gf_iast 3 dX12_plan_329 (gt_332 hG) (gl_332 hG) (show (2 : Int32) = nI 2 from rfl) (by decide) (by decide) ?_
        rw [sQ_85]
        refine gf_iinc (1) dX12_plan_330 rfl rfl (Nat.le_of_ble_eq_true rfl) ?_
        refine gf_goto 171 dX12_plan_333 rfl ?_
        rw [show plz1B n s w g m c T o go po x y z jz = (((up2 (up2 (up2 (plg1 n s w g m c T o go po x y (y + jz) z.1.1 z.1.2.2) 85 0 ((plg1 n s w g m c T o go po x y (y + jz) z.1.1 z.1.2.2) 46 x)) 85 1 ((up2 (plg1 n s w g m c T o go po x y (y + jz) z.1.1 z.1.2.2) 85 0 ((plg1 n s w g m c T o go po x y (y + jz) z.1.1 z.1.2.2) 46 x)) 46 y)) 85 2 ((up2 (up2 (plg1 n s w g m c T o go po x y (y + jz) z.1.1 z.1.2.2) 85 0 ((plg1 n s w g m c T o go po x y (y + jz) z.1.1 z.1.2.2) 46 x)) 85 1 ((up2 (plg1 n s w g m c T o go po x y (y + jz) z.1.1 z.1.2.2) 85 0 ((plg1 n s w g m c T o go po x y (y + jz) z.1.1 z.1.2.2) 46 x)) 46 y)) 46 (y + jz))), (z.1.2.1, (plw1 n s w g m o go po x y (y + jz) z.1.1 z.1.2.2).2)), (pll1 n s w g m c T o go po x y (y + jz) z.1.1 z.1.2.2)) from (if_neg zc274).trans (if_pos zc281)] at ih1
        exact gf_lw ih1 ⟨rfl, rfl, rfl, rfl, rfl, rfl, rfl, rfl, rfl, rfl, rfl, lvE (nI_1 (y + jz)), trivial⟩
      · refine gf_goto 330 dX12_plan_284 rfl ?_
        refine gf_iinc (1) dX12_plan_330 rfl rfl (Nat.le_of_ble_eq_true rfl) ?_
        refine gf_goto 171 dX12_plan_333 rfl ?_
        rw [show plz1B n s w g m c T o go po x y z jz = (((plg1 n s w g m c T o go po x y (y + jz) z.1.1 z.1.2.2), (z.1.2.1, (plw1 n s w g m o go po x y (y + jz) z.1.1 z.1.2.2).2)), z.2) from (if_neg zc274).trans (if_neg zc281)] at ih1
        exact gf_lw ih1 ⟨rfl, rfl, rfl, rfl, rfl, rfl, rfl, rfl, rfl, rfl, rfl, lvE (nI_1 (y + jz)), trivial⟩
def ply1B (n s w g m c T : Nat) (o go po : Int32) (p x : Nat) (z : (mM × mN × tW) × Int32) (jz : Nat) : (mM × mN × tW) × Int32 := (((itN (plz1B n s w g m c T o go po x (x + jz)) ((z.1.1, z.1.2), z.2) 1).1.1, (itN (plz1B n s w g m c T o go po x (x + jz)) ((z.1.1, z.1.2), z.2) 1).1.2), (itN (plz1B n s w g m c T o go po x (x + jz)) ((z.1.1, z.1.2), z.2) 1).2)
theorem ply1_I {n s w g m p c T : Nat} {o go po : Int32} {x : Nat} {z : (mM × mN × tW) × Int32} (I : plnI z.1.1 n s w g m 1 p) : ∀ j, plnI (itN (ply1B n s w g m c T o go po p x) z j).1.1 n s w g m 1 p
  | 0 => I
  | j + 1 => by
    have ih := ply1_I (c := c) (T := T) (o := o) (go := go) (po := po) (x := x) I j
    rw [itN_s]
    generalize itN (ply1B n s w g m c T o go po p x) z j = u at ih ⊢
    unfold ply1B
    exact plz1_I (z := ((u.1.1, u.1.2), u.2)) ih _
theorem l_ply1 (E : gE) {d : Nat} (hd : 9 ≤ d) {n s w g m p c T : Nat} (o go po : Int32) (h : hp_T) (hG : gr h) (M : mM) (N : mN) (W : tW) (I : plnI M n s w g m 1 p) (hgo : ∃ q, q ≤ 9 ∧ go = nI q) (hc : c < w * g) (hT : T ≤ 120) (x : Nat) (hx : x < p) (be : Int32) {v : Option Value} {hz : hp_T} (K : gf E mX12_plan d 342 [(0, .ref (E.1 + 247)), (1, .int (nI 1)), (2, .int o), (3, .int go), (4, .int po), (5, .int (nI c)), (6, .int (nI T)), (7, .int (nI m)), (8, .int ((itN (ply1B n s w g m c T o go po p x) ((M, N, W), be) (1 : Nat)).2)), (9, .int (nI x))] [] (sP h ((itN (ply1B n s w g m c T o go po p x) ((M, N, W), be) (1 : Nat)).1.1) ((itN (ply1B n s w g m c T o go po p x) ((M, N, W), be) (1 : Nat)).1.2).1 ((itN (ply1B n s w g m c T o go po p x) ((M, N, W), be) (1 : Nat)).1.2).2) v hz) : ∀ (kz jz : Nat), jz + kz = (1 : Nat) → gf E mX12_plan d 134 [(0, .ref (E.1 + 247)), (1, .int (nI 1)), (2, .int o), (3, .int go), (4, .int po), (5, .int (nI c)), (6, .int (nI T)), (7, .int (nI m)), (8, .int ((itN (ply1B n s w g m c T o go po p x) ((M, N, W), be) jz).2)), (9, .int (nI x)), (10, .int (nI (x + jz)))] [] (sP h ((itN (ply1B n s w g m c T o go po p x) ((M, N, W), be) jz).1.1) ((itN (ply1B n s w g m c T o go po p x) ((M, N, W), be) jz).1.2).1 ((itN (ply1B n s w g m c T o go po p x) ((M, N, W), be) jz).1.2).2) v hz := by
  have hp8 : p ≤ 8 := I.2.2.2.2.2.1
  intro kz
  induction kz with
  | zero =>
    intro jz hj
    have hj : (1 : Nat) = jz := by omega
    subst hj
    have Iz : plnI (itN (ply1B n s w g m c T o go po p x) ((M, N, W), be) (1 : Nat)).1.1 n s w g m 1 p := ply1_I (z := ((M, N, W), be)) I (1 : Nat)
    generalize ez : (itN (ply1B n s w g m c T o go po p x) ((M, N, W), be) (1 : Nat)) = z at K Iz ⊢
    refine gf_iload dX12_plan_134 rfl ?_
    refine gf_iload_n 1 dX12_plan_136 rfl rfl ?_
    refine gf_iconst (1) dX12_plan_137 rfl ?_
    refine gf_icmp_le 148 dX12_plan_138 rfl (fun _ => ?_) (fun q => absurd (by decide) q)
    refine gf_iload dX12_plan_148 rfl ?_
    refine gf_iconst (1) dX12_plan_150 rfl ?_
    refine gf_iadd dX12_plan_151 ?_
    rw [nI_1]
    refine gf_icmp_ge 342 dX12_plan_152 rfl (fun _ => ?_) (fun q => absurd (nI_le (by omega) (by omega)) q)
    exact gf_lw K ⟨rfl, rfl, rfl, rfl, rfl, rfl, rfl, rfl, rfl, rfl, trivial⟩
  | succ kz ih =>
    intro jz hj
    have ih1 := ih (jz + 1) (by omega)
    have Iz : plnI (itN (ply1B n s w g m c T o go po p x) ((M, N, W), be) jz).1.1 n s w g m 1 p := ply1_I (z := ((M, N, W), be)) I jz
    rw [show (itN (ply1B n s w g m c T o go po p x) ((M, N, W), be) (jz + 1)) = ply1B n s w g m c T o go po p x (itN (ply1B n s w g m c T o go po p x) ((M, N, W), be) jz) jz from itN_s _ _ _] at ih1
    generalize (itN (ply1B n s w g m c T o go po p x) ((M, N, W), be) jz) = z at ih1 Iz ⊢
    refine gf_iload dX12_plan_134 rfl ?_
    refine gf_iload_n 1 dX12_plan_136 rfl rfl ?_
    refine gf_iconst (1) dX12_plan_137 rfl ?_
    refine gf_icmp_le 148 dX12_plan_138 rfl (fun _ => ?_) (fun q => absurd (by decide) q)
    refine gf_iload dX12_plan_148 rfl ?_
    refine gf_iconst (1) dX12_plan_150 rfl ?_
    refine gf_iadd dX12_plan_151 ?_
    rw [nI_1]
    refine gf_icmp_ge 342 dX12_plan_152 rfl (fun q => absurd q (nI_ge (by omega) (by omega))) (fun _ => ?_)
    refine gf_iload_n 1 dX12_plan_155 rfl rfl ?_
    refine gf_iconst (2) dX12_plan_156 rfl ?_
    refine gf_icmp_le 167 dX12_plan_157 rfl (fun _ => ?_) (fun q => absurd (by decide) q)
    refine gf_iload dX12_plan_167 rfl ?_
    refine gf_istore dX12_plan_169 (Nat.le_of_ble_eq_true rfl) ?_
    refine gf_lw (l_plz1 E (by omega) (n := n) (s := s) (w := w) (g := g) (m := m) (p := p) (c := c) (T := T) o go po h hG z.1.1 z.1.2.1 z.1.2.2 Iz hgo hc hT x (x + jz) hx (by omega) z.2 ?_ 1 0 (by omega)) ⟨rfl, rfl, rfl, rfl, rfl, rfl, rfl, rfl, rfl, rfl, rfl, rfl, trivial⟩
    refine gf_iinc (1) dX12_plan_336 rfl rfl (Nat.le_of_ble_eq_true rfl) ?_
    refine gf_goto 134 dX12_plan_339 rfl ?_
    rw [show ply1B n s w g m c T o go po p x z jz = (((itN (plz1B n s w g m c T o go po x (x + jz)) ((z.1.1, z.1.2), z.2) 1).1.1, (itN (plz1B n s w g m c T o go po x (x + jz)) ((z.1.1, z.1.2), z.2) 1).1.2), (itN (plz1B n s w g m c T o go po x (x + jz)) ((z.1.1, z.1.2), z.2) 1).2) from rfl] at ih1
    exact gf_lw ih1 ⟨rfl, rfl, rfl, rfl, rfl, rfl, rfl, rfl, rfl, rfl, lvE (nI_1 (x + jz)), trivial⟩
def plx1B (n s w g m c T : Nat) (o go po : Int32) (p : Nat) (z : (mM × mN × tW) × Int32) (jz : Nat) : (mM × mN × tW) × Int32 := (((itN (ply1B n s w g m c T o go po p jz) ((z.1.1, z.1.2), z.2) 1).1.1, (itN (ply1B n s w g m c T o go po p jz) ((z.1.1, z.1.2), z.2) 1).1.2), (itN (ply1B n s w g m c T o go po p jz) ((z.1.1, z.1.2), z.2) 1).2)
theorem plx1_I {n s w g m p c T : Nat} {o go po : Int32} {z : (mM × mN × tW) × Int32} (I : plnI z.1.1 n s w g m 1 p) : ∀ j, plnI (itN (plx1B n s w g m c T o go po p) z j).1.1 n s w g m 1 p
  | 0 => I
  | j + 1 => by
    have ih := plx1_I (c := c) (T := T) (o := o) (go := go) (po := po) I j
    rw [itN_s]
    generalize itN (plx1B n s w g m c T o go po p) z j = u at ih ⊢
    unfold plx1B
    exact ply1_I (z := ((u.1.1, u.1.2), u.2)) ih _
theorem l_plx1 (E : gE) {d : Nat} (hd : 9 ≤ d) {n s w g m p c T : Nat} (o go po : Int32) (h : hp_T) (hG : gr h) (M : mM) (N : mN) (W : tW) (I : plnI M n s w g m 1 p) (hgo : ∃ q, q ≤ 9 ∧ go = nI q) (hc : c < w * g) (hT : T ≤ 120) (be : Int32) {v : Option Value} {hz : hp_T} (K : gf E mX12_plan d 348 [(0, .ref (E.1 + 247)), (1, .int (nI 1)), (2, .int o), (3, .int go), (4, .int po), (5, .int (nI c)), (6, .int (nI T)), (7, .int (nI m)), (8, .int ((itN (plx1B n s w g m c T o go po p) ((M, N, W), be) p).2))] [] (sP h ((itN (plx1B n s w g m c T o go po p) ((M, N, W), be) p).1.1) ((itN (plx1B n s w g m c T o go po p) ((M, N, W), be) p).1.2).1 ((itN (plx1B n s w g m c T o go po p) ((M, N, W), be) p).1.2).2) v hz) : ∀ (kz jz : Nat), jz + kz = p → gf E mX12_plan d 109 [(0, .ref (E.1 + 247)), (1, .int (nI 1)), (2, .int o), (3, .int go), (4, .int po), (5, .int (nI c)), (6, .int (nI T)), (7, .int (nI m)), (8, .int ((itN (plx1B n s w g m c T o go po p) ((M, N, W), be) jz).2)), (9, .int (nI jz))] [] (sP h ((itN (plx1B n s w g m c T o go po p) ((M, N, W), be) jz).1.1) ((itN (plx1B n s w g m c T o go po p) ((M, N, W), be) jz).1.2).1 ((itN (plx1B n s w g m c T o go po p) ((M, N, W), be) jz).1.2).2) v hz := by
  have hp8 : p ≤ 8 := I.2.2.2.2.2.1
  intro kz
  induction kz with
  | zero =>
    intro jz hj
    have hj : p = jz := by omega
    subst hj
    have Iz : plnI (itN (plx1B n s w g m c T o go po p) ((M, N, W), be) p).1.1 n s w g m 1 p := plx1_I (z := ((M, N, W), be)) I p
    generalize ez : (itN (plx1B n s w g m c T o go po p) ((M, N, W), be) p) = z at K Iz ⊢
    refine gf_iload dX12_plan_109 rfl ?_
    refine gf_aload_n 0 dX12_plan_111 rfl rfl ?_
    refine gf_getI flX12_427 rfl dX12_plan_112 (gt_247 hG) ?_
    rw [show hp_i (sP h z.1.1 z.1.2.1 z.1.2.2) 247 60 = nI p from Iz.2.2.2.2.1]
    refine gf_icmp_ge 348 dX12_plan_115 rfl (fun _ => ?_) (fun q => absurd (Int32.le_refl _) q)
    exact gf_lw K ⟨rfl, rfl, rfl, rfl, rfl, rfl, rfl, rfl, rfl, trivial⟩
  | succ kz ih =>
    intro jz hj
    have ih1 := ih (jz + 1) (by omega)
    have Iz : plnI (itN (plx1B n s w g m c T o go po p) ((M, N, W), be) jz).1.1 n s w g m 1 p := plx1_I (z := ((M, N, W), be)) I jz
    rw [show (itN (plx1B n s w g m c T o go po p) ((M, N, W), be) (jz + 1)) = plx1B n s w g m c T o go po p (itN (plx1B n s w g m c T o go po p) ((M, N, W), be) jz) jz from itN_s _ _ _] at ih1
    generalize (itN (plx1B n s w g m c T o go po p) ((M, N, W), be) jz) = z at ih1 Iz ⊢
    refine gf_iload dX12_plan_109 rfl ?_
    refine gf_aload_n 0 dX12_plan_111 rfl rfl ?_
    refine gf_getI flX12_427 rfl dX12_plan_112 (gt_247 hG) ?_
    rw [show hp_i (sP h z.1.1 z.1.2.1 z.1.2.2) 247 60 = nI p from Iz.2.2.2.2.1]
    refine gf_icmp_ge 348 dX12_plan_115 rfl (fun q => absurd q (nI_ge (by omega) (by have := I.2.2.2.2.2.1; omega))) (fun _ => ?_)
    refine gf_iload_n 1 dX12_plan_118 rfl rfl ?_
    refine gf_iconst (1) dX12_plan_119 rfl ?_
    refine gf_icmp_le 130 dX12_plan_120 rfl (fun _ => ?_) (fun q => absurd (by decide) q)
    refine gf_iload dX12_plan_130 rfl ?_
    refine gf_istore dX12_plan_132 (Nat.le_of_ble_eq_true rfl) ?_
    refine gf_lw (l_ply1 E (by omega) (n := n) (s := s) (w := w) (g := g) (m := m) (p := p) (c := c) (T := T) o go po h hG z.1.1 z.1.2.1 z.1.2.2 Iz hgo hc hT jz (by omega) z.2 ?_ 1 0 (by omega)) ⟨rfl, rfl, rfl, rfl, rfl, rfl, rfl, rfl, rfl, rfl, rfl, trivial⟩
    refine gf_iinc (1) dX12_plan_342 rfl rfl (Nat.le_of_ble_eq_true rfl) ?_
    refine gf_goto 109 dX12_plan_345 rfl ?_
    rw [show plx1B n s w g m c T o go po p z jz = (((itN (ply1B n s w g m c T o go po p jz) ((z.1.1, z.1.2), z.2) 1).1.1, (itN (ply1B n s w g m c T o go po p jz) ((z.1.1, z.1.2), z.2) 1).1.2), (itN (ply1B n s w g m c T o go po p jz) ((z.1.1, z.1.2), z.2) 1).2) from rfl] at ih1
    exact gf_lw ih1 ⟨rfl, rfl, rfl, rfl, rfl, rfl, rfl, rfl, rfl, lvE (nI_1 jz), trivial⟩
def mps2 (m : Nat) (o go po : Int32) (x y q : Nat) (M : mM) : mM := (mstT (mstT M m o (M 46 x) go po) (m + 1) o (M 46 y) go po)
def plg2 (n s w g m c T : Nat) (o go po : Int32) (x y q : Nat) (M : mM) (W : tW) : mM := goF n s w g (m + 2) c T (mps2 m o go po x y q M, W)
def plw2 (n s w g m : Nat) (o go po : Int32) (x y q : Nat) (M : mM) (W : tW) : qS := goZ n s w g (mps2 m o go po x y q M, W)
def pll2 (n s w g m c T : Nat) (o go po : Int32) (x y q : Nat) (M : mM) (W : tW) : Int32 := itN (fun f v => f + mloV (plg2 n s w g m c T o go po x y q M W) v) 0 (w * g)
theorem plg2_row {n s w g m c T : Nat} {o go po : Int32} {x y q : Nat} {M : mM} {W : tW} {r : Nat} (h0 : r ≠ 0) (hr : r < 53) (hr2 : r < 41 ∨ 44 < r) : plg2 n s w g m c T o go po x y q M W r = M r := by
  unfold plg2 mps2
  rw [go_row (by omega) h0]
  dsimp only
  rw [mst_row hr2, mst_row hr2]
theorem pln_F2 {M : mM} {n s w g m p x y q : Nat} {o go po : Int32} (I : plnI M n s w g m 2 p) (hgo : ∃ q, q ≤ 9 ∧ go = nI q) (hx : x < p) (hy : y < p) (hq : q < p) : refI (mstT (mstT M m o (M 46 x) go po) (m + 1) o (M 46 y) go po) n s w g ∧ preI (mstT (mstT M m o (M 46 x) go po) (m + 1) o (M 46 y) go po) w g (m + 2) := by
  have r : ∀ {r : Nat}, r < 41 ∨ 44 < r → (mstT (mstT M m o (M 46 x) go po) (m + 1) o (M 46 y) go po) r = M r := fun hr => by rw [mst_row hr, mst_row hr]
  refine ⟨refI_of (fun k _ => congrFun (r (by omega)) k) (fun r' hr => r (by omega)) I.1, by rw [r (by omega)]; exact I.2.1.1, by rw [r (by omega)]; exact I.2.1.2, by rw [r (by omega)]; exact I.2.2.1.1, I.2.2.1.2, fun e he => ?_, fun e he => ?_⟩
  · rw [mst_43, mst_43]
    repeat' split
    all_goals first | exact hgo | exact I.2.2.2.1.1 e (by omega)
  · rw [mst_42, mst_42]
    repeat' split
    all_goals first | exact I.2.2.2.2.2.2 _ hx | exact I.2.2.2.2.2.2 _ hy | exact I.2.2.2.2.2.2 _ hq | exact I.2.2.2.1.2 e (by omega)
def plz2B (n s w g m c T : Nat) (o go po : Int32) (x y : Nat) (z : (mM × mN × tW) × Int32) (jz : Nat) : (mM × mN × tW) × Int32 := (if z.2 = (-1) then (((up2 (up2 (up2 (plg2 n s w g m c T o go po x y (y + jz) z.1.1 z.1.2.2) 85 0 ((plg2 n s w g m c T o go po x y (y + jz) z.1.1 z.1.2.2) 46 x)) 85 1 ((up2 (plg2 n s w g m c T o go po x y (y + jz) z.1.1 z.1.2.2) 85 0 ((plg2 n s w g m c T o go po x y (y + jz) z.1.1 z.1.2.2) 46 x)) 46 y)) 85 2 ((up2 (up2 (plg2 n s w g m c T o go po x y (y + jz) z.1.1 z.1.2.2) 85 0 ((plg2 n s w g m c T o go po x y (y + jz) z.1.1 z.1.2.2) 46 x)) 85 1 ((up2 (plg2 n s w g m c T o go po x y (y + jz) z.1.1 z.1.2.2) 85 0 ((plg2 n s w g m c T o go po x y (y + jz) z.1.1 z.1.2.2) 46 x)) 46 y)) 46 (y + jz))), (z.1.2.1, (plw2 n s w g m o go po x y (y + jz) z.1.1 z.1.2.2).2)), (pll2 n s w g m c T o go po x y (y + jz) z.1.1 z.1.2.2)) else (if (pll2 n s w g m c T o go po x y (y + jz) z.1.1 z.1.2.2) < z.2 then (((up2 (up2 (up2 (plg2 n s w g m c T o go po x y (y + jz) z.1.1 z.1.2.2) 85 0 ((plg2 n s w g m c T o go po x y (y + jz) z.1.1 z.1.2.2) 46 x)) 85 1 ((up2 (plg2 n s w g m c T o go po x y (y + jz) z.1.1 z.1.2.2) 85 0 ((plg2 n s w g m c T o go po x y (y + jz) z.1.1 z.1.2.2) 46 x)) 46 y)) 85 2 ((up2 (up2 (plg2 n s w g m c T o go po x y (y + jz) z.1.1 z.1.2.2) 85 0 ((plg2 n s w g m c T o go po x y (y + jz) z.1.1 z.1.2.2) 46 x)) 85 1 ((up2 (plg2 n s w g m c T o go po x y (y + jz) z.1.1 z.1.2.2) 85 0 ((plg2 n s w g m c T o go po x y (y + jz) z.1.1 z.1.2.2) 46 x)) 46 y)) 46 (y + jz))), (z.1.2.1, (plw2 n s w g m o go po x y (y + jz) z.1.1 z.1.2.2).2)), (pll2 n s w g m c T o go po x y (y + jz) z.1.1 z.1.2.2)) else (((plg2 n s w g m c T o go po x y (y + jz) z.1.1 z.1.2.2), (z.1.2.1, (plw2 n s w g m o go po x y (y + jz) z.1.1 z.1.2.2).2)), z.2)))
theorem plz2_row {n s w g m c T : Nat} {o go po : Int32} {x y : Nat} (u : (mM × mN × tW) × Int32) (j : Nat) {r : Nat} (h : r ≠ 85) : (plz2B n s w g m c T o go po x y u j).1.1 r = plg2 n s w g m c T o go po x y (y + j) u.1.1 u.1.2.2 r := by
  unfold plz2B
  repeat' split
  all_goals first | rfl | (dsimp only; rw [up2_row h, up2_row h, up2_row h])
theorem plz2_I {n s w g m p c T : Nat} {o go po : Int32} {x y : Nat} {z : (mM × mN × tW) × Int32} (I : plnI z.1.1 n s w g m 2 p) : ∀ j, plnI (itN (plz2B n s w g m c T o go po x y) z j).1.1 n s w g m 2 p
  | 0 => I
  | j + 1 => by
    have ih := plz2_I (c := c) (T := T) (o := o) (go := go) (po := po) (x := x) (y := y) I j
    rw [itN_s]
    generalize itN (plz2B n s w g m c T o go po x y) z j = u at ih ⊢
    have r : ∀ {r : Nat}, r ≠ 0 → r < 53 → r < 41 ∨ 44 < r → (plz2B n s w g m c T o go po x y u j).1.1 r = u.1.1 r := fun {r} h0 hr hr2 => by
      rw [plz2_row u j (by omega)]
      exact plg2_row h0 hr hr2
    refine plnI_of (M := u.1.1) ?_ (fun r' h0 hr hr2 => r h0 hr hr2) ?_ ?_ ih
    · intro k hk
      rw [plz2_row u j (by decide)]
      unfold plg2 mps2
      rw [go_0 (by omega)]
      dsimp only
      rw [mst_row (by decide), mst_row (by decide)]
    · intro e he
      rw [plz2_row u j (by decide)]
      unfold plg2 mps2
      rw [go_row (by decide) (by decide)]
      dsimp only
      rw [mst_43, if_neg (by omega), mst_43, if_neg (by omega)]
    · intro e he
      rw [plz2_row u j (by decide)]
      unfold plg2 mps2
      rw [go_row (by decide) (by decide)]
      dsimp only
      rw [mst_42, if_neg (by omega), mst_42, if_neg (by omega)]
theorem l_plz2 (E : gE) {d : Nat} (hd : 9 ≤ d) {n s w g m p c T : Nat} (o go po : Int32) (h : hp_T) (hG : gr h) (M : mM) (N : mN) (W : tW) (I : plnI M n s w g m 2 p) (hgo : ∃ q, q ≤ 9 ∧ go = nI q) (hc : c < w * g) (hT : T ≤ 120) (x y : Nat) (hx : x < p) (hy : y < p) (be : Int32) {v : Option Value} {hz : hp_T} (K : gf E mX12_plan d 336 [(0, .ref (E.1 + 247)), (1, .int (nI 2)), (2, .int o), (3, .int go), (4, .int po), (5, .int (nI c)), (6, .int (nI T)), (7, .int (nI m)), (8, .int ((itN (plz2B n s w g m c T o go po x y) ((M, N, W), be) (1 : Nat)).2)), (9, .int (nI x)), (10, .int (nI y))] [] (sP h ((itN (plz2B n s w g m c T o go po x y) ((M, N, W), be) (1 : Nat)).1.1) ((itN (plz2B n s w g m c T o go po x y) ((M, N, W), be) (1 : Nat)).1.2).1 ((itN (plz2B n s w g m c T o go po x y) ((M, N, W), be) (1 : Nat)).1.2).2) v hz) : ∀ (kz jz : Nat), jz + kz = (1 : Nat) → gf E mX12_plan d 171 [(0, .ref (E.1 + 247)), (1, .int (nI 2)), (2, .int o), (3, .int go), (4, .int po), (5, .int (nI c)), (6, .int (nI T)), (7, .int (nI m)), (8, .int ((itN (plz2B n s w g m c T o go po x y) ((M, N, W), be) jz).2)), (9, .int (nI x)), (10, .int (nI y)), (11, .int (nI (y + jz)))] [] (sP h ((itN (plz2B n s w g m c T o go po x y) ((M, N, W), be) jz).1.1) ((itN (plz2B n s w g m c T o go po x y) ((M, N, W), be) jz).1.2).1 ((itN (plz2B n s w g m c T o go po x y) ((M, N, W), be) jz).1.2).2) v hz := by
  have hp8 : p ≤ 8 := I.2.2.2.2.2.1
  intro kz
  induction kz with
  | zero =>
    intro jz hj
    have hj : (1 : Nat) = jz := by omega
    subst hj
    have Iz : plnI (itN (plz2B n s w g m c T o go po x y) ((M, N, W), be) (1 : Nat)).1.1 n s w g m 2 p := plz2_I (z := ((M, N, W), be)) I (1 : Nat)
    generalize ez : (itN (plz2B n s w g m c T o go po x y) ((M, N, W), be) (1 : Nat)) = z at K Iz ⊢
    refine gf_iload dX12_plan_171 rfl ?_
    refine gf_iload_n 1 dX12_plan_173 rfl rfl ?_
    refine gf_iconst (2) dX12_plan_174 rfl ?_
    refine gf_icmp_le 185 dX12_plan_175 rfl (fun _ => ?_) (fun q => absurd (by decide) q)
    refine gf_iload dX12_plan_185 rfl ?_
    refine gf_iconst (1) dX12_plan_187 rfl ?_
    refine gf_iadd dX12_plan_188 ?_
    rw [nI_1]
    refine gf_icmp_ge 336 dX12_plan_189 rfl (fun _ => ?_) (fun q => absurd (nI_le (by omega) (by omega)) q)
    exact gf_lw K ⟨rfl, rfl, rfl, rfl, rfl, rfl, rfl, rfl, rfl, rfl, rfl, trivial⟩
  | succ kz ih =>
    intro jz hj
    have ih1 := ih (jz + 1) (by omega)
    have Iz : plnI (itN (plz2B n s w g m c T o go po x y) ((M, N, W), be) jz).1.1 n s w g m 2 p := plz2_I (z := ((M, N, W), be)) I jz
    rw [show (itN (plz2B n s w g m c T o go po x y) ((M, N, W), be) (jz + 1)) = plz2B n s w g m c T o go po x y (itN (plz2B n s w g m c T o go po x y) ((M, N, W), be) jz) jz from itN_s _ _ _] at ih1
    generalize (itN (plz2B n s w g m c T o go po x y) ((M, N, W), be) jz) = z at ih1 Iz ⊢
    have hx9 : x < p := hx
    have hy9 : y < p := hy
    have IF : refI (mps2 m o go po x y (y + jz) z.1.1) n s w g ∧ preI (mps2 m o go po x y (y + jz) z.1.1) w g (m + 2) := pln_F2 (x := x) (y := y) (q := y + jz) Iz hgo (by omega) (by omega) (by omega)
    refine gf_iload dX12_plan_171 rfl ?_
    refine gf_iload_n 1 dX12_plan_173 rfl rfl ?_
    refine gf_iconst (2) dX12_plan_174 rfl ?_
    refine gf_icmp_le 185 dX12_plan_175 rfl (fun _ => ?_) (fun q => absurd (by decide) q)
    refine gf_iload dX12_plan_185 rfl ?_
    refine gf_iconst (1) dX12_plan_187 rfl ?_
    refine gf_iadd dX12_plan_188 ?_
    rw [nI_1]
    refine gf_icmp_ge 336 dX12_plan_189 rfl (fun q => absurd q (nI_ge (by omega) (by omega))) (fun _ => ?_)
    refine gf_aload_n 0 dX12_plan_192 rfl rfl ?_
    refine gf_iload dX12_plan_193 rfl ?_
    refine gf_iload_n 2 dX12_plan_195 rfl rfl ?_
    refine gf_aload_n 0 dX12_plan_196 rfl rfl ?_
    refine gf_getR flX12_158 rfl dX12_plan_197 (gt_247 hG) (gp_247_61 hG) ?_
    refine gf_iload dX12_plan_200 rfl ?_
    refine gf_iald 8 dX12_plan_202 (gt_293 hG) (gl_293 hG) rfl (by omega) (by decide) ?_
    refine gf_iload_n 3 dX12_plan_203 rfl rfl ?_
    refine gf_iload dX12_plan_204 rfl ?_
    refine gf_callV cmX12_stands lkX12_456 imX12_stands seX12_stands ⟨rfl, by decide⟩ dX12_plan_206 (d1 := d - 1) (by omega) (gt_247 hG) (e_X12_stands E (e := m) (by omega) o (z.1.1 46 x) go po h hG (up2 z.1.1 0 70 (nI z.1.2.2.1)) (uprL z.1.2.1 52 z.1.2.2.2) (by have := Iz.2.2.1.2; omega)) rfl rfl (Nat.le_of_ble_eq_true rfl) ?_
    rw [mst_sP]
    change gf _ _ _ _ _ _ (sP h (mstT z.1.1 m o (z.1.1 46 x) go po) z.1.2.1 z.1.2.2) _ _
    refine gf_iload_n 1 dX12_plan_209 rfl rfl ?_
    refine gf_iconst (1) dX12_plan_210 rfl ?_
    refine gf_icmp_le 233 dX12_plan_211 rfl (fun q => absurd q (by decide)) (fun _ => ?_)
    refine gf_aload_n 0 dX12_plan_214 rfl rfl ?_
    refine gf_iload dX12_plan_215 rfl ?_
    refine gf_iconst (1) dX12_plan_217 rfl ?_
    refine gf_iadd dX12_plan_218 ?_
    rw [nI_1]
    refine gf_iload_n 2 dX12_plan_219 rfl rfl ?_
    refine gf_aload_n 0 dX12_plan_220 rfl rfl ?_
    refine gf_getR flX12_158 rfl dX12_plan_221 (gt_247 hG) (gp_247_61 hG) ?_
    refine gf_iload dX12_plan_224 rfl ?_
    refine gf_iald 8 dX12_plan_226 (gt_293 hG) (gl_293 hG) rfl (by omega) (by decide) ?_
    refine gf_iload_n 3 dX12_plan_227 rfl rfl ?_
    refine gf_iload dX12_plan_228 rfl ?_
    refine gf_callV cmX12_stands lkX12_456 imX12_stands seX12_stands ⟨rfl, by decide⟩ dX12_plan_230 (d1 := d - 1) (by omega) (gt_247 hG) (e_X12_stands E (e := (m + 1)) (by omega) o (z.1.1 46 y) go po h hG (up2 (mstT z.1.1 m o (z.1.1 46 x) go po) 0 70 (nI z.1.2.2.1)) (uprL z.1.2.1 52 z.1.2.2.2) (by have := Iz.2.2.1.2; omega)) rfl rfl (Nat.le_of_ble_eq_true rfl) ?_
    rw [mst_sP]
    change gf _ _ _ _ _ _ (sP h (mps2 m o go po x y (y + jz) z.1.1) z.1.2.1 z.1.2.2) _ _
    refine gf_iload_n 1 dX12_plan_233 rfl rfl ?_
    refine gf_iconst (2) dX12_plan_234 rfl ?_
    refine gf_icmp_le 257 dX12_plan_235 rfl (fun _ => ?_) (fun q => absurd (by decide) q)
    refine gf_aload_n 0 dX12_plan_257 rfl rfl ?_
    refine gf_iload dX12_plan_258 rfl ?_
    refine gf_iload dX12_plan_260 rfl ?_
    refine gf_callV cmX12_goes lkX12_611 imX12_goes seX12_goes ⟨rfl, by decide⟩ dX12_plan_262 (d1 := d - 1) (by omega) (gt_247 hG) (e_X12_goes E (by omega) (n := n) (s := s) (w := w) (g := g) (m := m + 2) (c0 := c) (T := T) h hG (mps2 m o go po x y (y + jz) z.1.1) z.1.2.1 IF.1 z.1.2.2 IF.2 hc hT) rfl rfl (Nat.le_of_ble_eq_true rfl) ?_
    rw [go_hm]
    change gf _ _ _ _ _ _ (sP h (plg2 n s w g m c T o go po x y (y + jz) z.1.1 z.1.2.2) z.1.2.1 (plw2 n s w g m o go po x y (y + jz) z.1.1 z.1.2.2).2) _ _
    have hw9 : ∀ x9, x9 < 120 → ∃ k, k < 4 ∧ (plg2 n s w g m c T o go po x y (y + jz) z.1.1 z.1.2.2) 31 x9 = nI k := by rw [show (plg2 n s w g m c T o go po x y (y + jz) z.1.1 z.1.2.2) 31 = z.1.1 31 from plg2_row (by decide) (by decide) (by decide)]; exact Iz.2.1.1
    refine gf_aload_n 0 dX12_plan_265 rfl rfl ?_
    refine gf_callV cmX12_lossOfAll lkX12_623 imX12_lossOfAll seX12_lossOfAll ⟨rfl, by decide⟩ dX12_plan_266 (d1 := d - 1) (by omega) (gt_247 hG) (e_X12_lossOfAll E (by omega) (w := w) (g := g) h hG (up2 (plg2 n s w g m c T o go po x y (y + jz) z.1.1 z.1.2.2) 0 70 (nI (plw2 n s w g m o go po x y (y + jz) z.1.1 z.1.2.2).2.1)) (uprL z.1.2.1 52 (plw2 n s w g m o go po x y (y + jz) z.1.1 z.1.2.2).2.2) (show mcty (plg2 n s w g m c T o go po x y (y + jz) z.1.1 z.1.2.2) w g from (go_refI (z := ((mps2 m o go po x y (y + jz) z.1.1), z.1.2.2)) IF.1).2.1) (show ∀ x9, x9 < 120 → ∃ k, k < 4 ∧ (plg2 n s w g m c T o go po x y (y + jz) z.1.1 z.1.2.2) 31 x9 = nI k from hw9)) rfl rfl (Nat.le_of_ble_eq_true rfl) ?_
    change gf _ _ _ _ _ [.int (pll2 n s w g m c T o go po x y (y + jz) z.1.1 z.1.2.2)] (sP h (plg2 n s w g m c T o go po x y (y + jz) z.1.1 z.1.2.2) (z.1.2.1, (plw2 n s w g m o go po x y (y + jz) z.1.1 z.1.2.2).2).1 (z.1.2.1, (plw2 n s w g m o go po x y (y + jz) z.1.1 z.1.2.2).2).2) _ _
    refine gf_istore dX12_plan_269 (Nat.le_of_ble_eq_true rfl) ?_
    refine gf_lw (lv' := [(0, .ref (E.1 + 247)), (1, .int (nI 2)), (2, .int o), (3, .int go), (4, .int po), (5, .int (nI c)), (6, .int (nI T)), (7, .int (nI m)), (8, .int z.2), (9, .int (nI x)), (10, .int (nI y)), (11, .int (nI (y + jz))), (12, .int (pll2 n s w g m c T o go po x y (y + jz) z.1.1 z.1.2.2))]) ?_ ⟨rfl, rfl, rfl, rfl, rfl, rfl, rfl, rfl, rfl, rfl, rfl, rfl, rfl, trivial⟩
    refine gf_iload dX12_plan_271 rfl ?_
    refine gf_iconst (-1) dX12_plan_273 rfl ?_
    refine gf_icmp_eq 287 dX12_plan_274 rfl (fun zc274 => ?_) (fun zc274 => ?_)
    · refine gf_iload dX12_plan_287 rfl ?_
      refine gf_istore dX12_plan_289 (Nat.le_of_ble_eq_true rfl) ?_
      refine gf_aload_n 0 dX12_plan_291 rfl rfl ?_
      refine gf_getR flX12_279 rfl dX12_plan_292 (gt_247 hG) (gp_247_113 hG) ?_
      refine gf_iconst (0) dX12_plan_295 rfl ?_
      refine gf_aload_n 0 dX12_plan_296 rfl rfl ?_
      refine gf_getR flX12_158 rfl dX12_plan_297 (gt_247 hG) (gp_247_61 hG) ?_
      refine gf_iload dX12_plan_300 rfl ?_
      refine gf_iald 8 dX12_plan_302 (gt_293 hG) (gl_293 hG) rfl (by omega) (by decide) ?_
      refine gf_iast 3 dX12_plan_303 (gt_332 hG) (gl_332 hG) (show (0 : Int32) = nI 0 from rfl) (by decide) (by decide) ?_
      rw [sQ_85]
      refine gf_aload_n 0 dX12_plan_304 rfl rfl ?_
      refine gf_getR flX12_279 rfl dX12_plan_305 (gt_247 hG) (gp_247_113 hG) ?_
      refine gf_iconst (1) dX12_plan_308 rfl ?_
      refine gf_aload_n 0 dX12_plan_309 rfl rfl ?_
      refine gf_getR flX12_158 rfl dX12_plan_310 (gt_247 hG) (gp_247_61 hG) ?_
      refine gf_iload dX12_plan_313 rfl ?_
      refine gf_iald 8 dX12_plan_315 (gt_293 hG) (gl_293 hG) rfl (by omega) (by decide) ?_
      refine gf_iast 3 dX12_plan_316 (gt_332 hG) (gl_332 hG) (show (1 : Int32) = nI 1 from rfl) (by decide) (by decide) ?_
      rw [sQ_85]
      refine gf_aload_n 0 dX12_plan_317 rfl rfl ?_
      refine gf_getR flX12_279 rfl dX12_plan_318 (gt_247 hG) (gp_247_113 hG) ?_
      refine gf_iconst (2) dX12_plan_321 rfl ?_
      refine gf_aload_n 0 dX12_plan_322 rfl rfl ?_
      refine gf_getR flX12_158 rfl dX12_plan_323 (gt_247 hG) (gp_247_61 hG) ?_
      refine gf_iload dX12_plan_326 rfl ?_
      refine gf_iald 8 dX12_plan_328 (gt_293 hG) (gl_293 hG) rfl (by omega) (by decide) ?_
      refine gf_iast 3 dX12_plan_329 (gt_332 hG) (gl_332 hG) (show (2 : Int32) = nI 2 from rfl) (by decide) (by decide) ?_
      rw [sQ_85]
      refine gf_iinc (1) dX12_plan_330 rfl rfl (Nat.le_of_ble_eq_true rfl) ?_
      refine gf_goto 171 dX12_plan_333 rfl ?_
      rw [show plz2B n s w g m c T o go po x y z jz = (((up2 (up2 (up2 (plg2 n s w g m c T o go po x y (y + jz) z.1.1 z.1.2.2) 85 0 ((plg2 n s w g m c T o go po x y (y + jz) z.1.1 z.1.2.2) 46 x)) 85 1 ((up2 (plg2 n s w g m c T o go po x y (y + jz) z.1.1 z.1.2.2) 85 0 ((plg2 n s w g m c T o go po x y (y + jz) z.1.1 z.1.2.2) 46 x)) 46 y)) 85 2 ((up2 (up2 (plg2 n s w g m c T o go po x y (y + jz) z.1.1 z.1.2.2) 85 0 ((plg2 n s w g m c T o go po x y (y + jz) z.1.1 z.1.2.2) 46 x)) 85 1 ((up2 (plg2 n s w g m c T o go po x y (y + jz) z.1.1 z.1.2.2) 85 0 ((plg2 n s w g m c T o go po x y (y + jz) z.1.1 z.1.2.2) 46 x)) 46 y)) 46 (y + jz))), (z.1.2.1, (plw2 n s w g m o go po x y (y + jz) z.1.1 z.1.2.2).2)), (pll2 n s w g m c T o go po x y (y + jz) z.1.1 z.1.2.2)) from if_pos zc274] at ih1
      exact gf_lw ih1 ⟨rfl, rfl, rfl, rfl, rfl, rfl, rfl, rfl, rfl, rfl, rfl, lvE (nI_1 (y + jz)), trivial⟩
    · refine gf_iload dX12_plan_277 rfl ?_
      refine gf_iload dX12_plan_279 rfl ?_
      refine gf_icmp_lt 287 dX12_plan_281 rfl (fun zc281 => ?_) (fun zc281 => ?_)
      · refine gf_iload dX12_plan_287 rfl ?_
        refine gf_istore dX12_plan_289 (Nat.le_of_ble_eq_true rfl) ?_
        refine gf_aload_n 0 dX12_plan_291 rfl rfl ?_
        refine gf_getR flX12_279 rfl dX12_plan_292 (gt_247 hG) (gp_247_113 hG) ?_
        refine gf_iconst (0) dX12_plan_295 rfl ?_
        refine gf_aload_n 0 dX12_plan_296 rfl rfl ?_
        refine gf_getR flX12_158 rfl dX12_plan_297 (gt_247 hG) (gp_247_61 hG) ?_
        refine gf_iload dX12_plan_300 rfl ?_
        refine gf_iald 8 dX12_plan_302 (gt_293 hG) (gl_293 hG) rfl (by omega) (by decide) ?_
        refine gf_iast 3 dX12_plan_303 (gt_332 hG) (gl_332 hG) (show (0 : Int32) = nI 0 from rfl) (by decide) (by decide) ?_
        rw [sQ_85]
        refine gf_aload_n 0 dX12_plan_304 rfl rfl ?_
        refine gf_getR flX12_279 rfl dX12_plan_305 (gt_247 hG) (gp_247_113 hG) ?_
        refine gf_iconst (1) dX12_plan_308 rfl ?_
        refine gf_aload_n 0 dX12_plan_309 rfl rfl ?_
        refine gf_getR flX12_158 rfl dX12_plan_310 (gt_247 hG) (gp_247_61 hG) ?_
        refine gf_iload dX12_plan_313 rfl ?_
        refine gf_iald 8 dX12_plan_315 (gt_293 hG) (gl_293 hG) rfl (by omega) (by decide) ?_
        refine gf_iast 3 dX12_plan_316 (gt_332 hG) (gl_332 hG) (show (1 : Int32) = nI 1 from rfl) (by decide) (by decide) ?_
        rw [sQ_85]
        refine gf_aload_n 0 dX12_plan_317 rfl rfl ?_
        refine gf_getR flX12_279 rfl dX12_plan_318 (gt_247 hG) (gp_247_113 hG) ?_
        refine gf_iconst (2) dX12_plan_321 rfl ?_
        refine gf_aload_n 0 dX12_plan_322 rfl rfl ?_
        refine gf_getR flX12_158 rfl dX12_plan_323 (gt_247 hG) (gp_247_61 hG) ?_
        refine gf_iload dX12_plan_326 rfl ?_
        refine gf_iald 8 dX12_plan_328 (gt_293 hG) (gl_293 hG) rfl (by omega) (by decide) ?_
        refine gf_iast 3 dX12_plan_329 (gt_332 hG) (gl_332 hG) (show (2 : Int32) = nI 2 from rfl) (by decide) (by decide) ?_
        rw [sQ_85]
        refine gf_iinc (1) dX12_plan_330 rfl rfl (Nat.le_of_ble_eq_true rfl) ?_
        refine gf_goto 171 dX12_plan_333 rfl ?_
        rw [show plz2B n s w g m c T o go po x y z jz = (((up2 (up2 (up2 (plg2 n s w g m c T o go po x y (y + jz) z.1.1 z.1.2.2) 85 0 ((plg2 n s w g m c T o go po x y (y + jz) z.1.1 z.1.2.2) 46 x)) 85 1 ((up2 (plg2 n s w g m c T o go po x y (y + jz) z.1.1 z.1.2.2) 85 0 ((plg2 n s w g m c T o go po x y (y + jz) z.1.1 z.1.2.2) 46 x)) 46 y)) 85 2 ((up2 (up2 (plg2 n s w g m c T o go po x y (y + jz) z.1.1 z.1.2.2) 85 0 ((plg2 n s w g m c T o go po x y (y + jz) z.1.1 z.1.2.2) 46 x)) 85 1 ((up2 (plg2 n s w g m c T o go po x y (y + jz) z.1.1 z.1.2.2) 85 0 ((plg2 n s w g m c T o go po x y (y + jz) z.1.1 z.1.2.2) 46 x)) 46 y)) 46 (y + jz))), (z.1.2.1, (plw2 n s w g m o go po x y (y + jz) z.1.1 z.1.2.2).2)), (pll2 n s w g m c T o go po x y (y + jz) z.1.1 z.1.2.2)) from (if_neg zc274).trans (if_pos zc281)] at ih1
        exact gf_lw ih1 ⟨rfl, rfl, rfl, rfl, rfl, rfl, rfl, rfl, rfl, rfl, rfl, lvE (nI_1 (y + jz)), trivial⟩
      · refine gf_goto 330 dX12_plan_284 rfl ?_
        refine gf_iinc (1) dX12_plan_330 rfl rfl (Nat.le_of_ble_eq_true rfl) ?_
        refine gf_goto 171 dX12_plan_333 rfl ?_
        rw [show plz2B n s w g m c T o go po x y z jz = (((plg2 n s w g m c T o go po x y (y + jz) z.1.1 z.1.2.2), (z.1.2.1, (plw2 n s w g m o go po x y (y + jz) z.1.1 z.1.2.2).2)), z.2) from (if_neg zc274).trans (if_neg zc281)] at ih1
        exact gf_lw ih1 ⟨rfl, rfl, rfl, rfl, rfl, rfl, rfl, rfl, rfl, rfl, rfl, lvE (nI_1 (y + jz)), trivial⟩
def ply2B (n s w g m c T : Nat) (o go po : Int32) (p x : Nat) (z : (mM × mN × tW) × Int32) (jz : Nat) : (mM × mN × tW) × Int32 := (((itN (plz2B n s w g m c T o go po x ((x + 1) + jz)) ((z.1.1, z.1.2), z.2) 1).1.1, (itN (plz2B n s w g m c T o go po x ((x + 1) + jz)) ((z.1.1, z.1.2), z.2) 1).1.2), (itN (plz2B n s w g m c T o go po x ((x + 1) + jz)) ((z.1.1, z.1.2), z.2) 1).2)
theorem ply2_I {n s w g m p c T : Nat} {o go po : Int32} {x : Nat} {z : (mM × mN × tW) × Int32} (I : plnI z.1.1 n s w g m 2 p) : ∀ j, plnI (itN (ply2B n s w g m c T o go po p x) z j).1.1 n s w g m 2 p
  | 0 => I
  | j + 1 => by
    have ih := ply2_I (c := c) (T := T) (o := o) (go := go) (po := po) (x := x) I j
    rw [itN_s]
    generalize itN (ply2B n s w g m c T o go po p x) z j = u at ih ⊢
    unfold ply2B
    exact plz2_I (z := ((u.1.1, u.1.2), u.2)) ih _
theorem l_ply2 (E : gE) {d : Nat} (hd : 9 ≤ d) {n s w g m p c T : Nat} (o go po : Int32) (h : hp_T) (hG : gr h) (M : mM) (N : mN) (W : tW) (I : plnI M n s w g m 2 p) (hgo : ∃ q, q ≤ 9 ∧ go = nI q) (hc : c < w * g) (hT : T ≤ 120) (x : Nat) (hx : x < p) (be : Int32) {v : Option Value} {hz : hp_T} (K : gf E mX12_plan d 342 [(0, .ref (E.1 + 247)), (1, .int (nI 2)), (2, .int o), (3, .int go), (4, .int po), (5, .int (nI c)), (6, .int (nI T)), (7, .int (nI m)), (8, .int ((itN (ply2B n s w g m c T o go po p x) ((M, N, W), be) (p - (x + 1))).2)), (9, .int (nI x))] [] (sP h ((itN (ply2B n s w g m c T o go po p x) ((M, N, W), be) (p - (x + 1))).1.1) ((itN (ply2B n s w g m c T o go po p x) ((M, N, W), be) (p - (x + 1))).1.2).1 ((itN (ply2B n s w g m c T o go po p x) ((M, N, W), be) (p - (x + 1))).1.2).2) v hz) : ∀ (kz jz : Nat), jz + kz = (p - (x + 1)) → gf E mX12_plan d 134 [(0, .ref (E.1 + 247)), (1, .int (nI 2)), (2, .int o), (3, .int go), (4, .int po), (5, .int (nI c)), (6, .int (nI T)), (7, .int (nI m)), (8, .int ((itN (ply2B n s w g m c T o go po p x) ((M, N, W), be) jz).2)), (9, .int (nI x)), (10, .int (nI ((x + 1) + jz)))] [] (sP h ((itN (ply2B n s w g m c T o go po p x) ((M, N, W), be) jz).1.1) ((itN (ply2B n s w g m c T o go po p x) ((M, N, W), be) jz).1.2).1 ((itN (ply2B n s w g m c T o go po p x) ((M, N, W), be) jz).1.2).2) v hz := by
  have hp8 : p ≤ 8 := I.2.2.2.2.2.1
  intro kz
  induction kz with
  | zero =>
    intro jz hj
    have hj : (p - (x + 1)) = jz := by omega
    subst hj
    have Iz : plnI (itN (ply2B n s w g m c T o go po p x) ((M, N, W), be) (p - (x + 1))).1.1 n s w g m 2 p := ply2_I (z := ((M, N, W), be)) I (p - (x + 1))
    generalize ez : (itN (ply2B n s w g m c T o go po p x) ((M, N, W), be) (p - (x + 1))) = z at K Iz ⊢
    refine gf_iload dX12_plan_134 rfl ?_
    refine gf_iload_n 1 dX12_plan_136 rfl rfl ?_
    refine gf_iconst (1) dX12_plan_137 rfl ?_
    refine gf_icmp_le 148 dX12_plan_138 rfl (fun q => absurd q (by decide)) (fun _ => ?_)
    refine gf_aload_n 0 dX12_plan_141 rfl rfl ?_
    refine gf_getI flX12_427 rfl dX12_plan_142 (gt_247 hG) ?_
    rw [show hp_i (sP h z.1.1 z.1.2.1 z.1.2.2) 247 60 = nI p from Iz.2.2.2.2.1]
    refine gf_goto 152 dX12_plan_145 rfl ?_
    refine gf_icmp_ge 342 dX12_plan_152 rfl (fun _ => ?_) (fun q => absurd (nI_le (by omega) (by omega)) q)
    exact gf_lw K ⟨rfl, rfl, rfl, rfl, rfl, rfl, rfl, rfl, rfl, rfl, trivial⟩
  | succ kz ih =>
    intro jz hj
    have ih1 := ih (jz + 1) (by omega)
    have Iz : plnI (itN (ply2B n s w g m c T o go po p x) ((M, N, W), be) jz).1.1 n s w g m 2 p := ply2_I (z := ((M, N, W), be)) I jz
    rw [show (itN (ply2B n s w g m c T o go po p x) ((M, N, W), be) (jz + 1)) = ply2B n s w g m c T o go po p x (itN (ply2B n s w g m c T o go po p x) ((M, N, W), be) jz) jz from itN_s _ _ _] at ih1
    generalize (itN (ply2B n s w g m c T o go po p x) ((M, N, W), be) jz) = z at ih1 Iz ⊢
    refine gf_iload dX12_plan_134 rfl ?_
    refine gf_iload_n 1 dX12_plan_136 rfl rfl ?_
    refine gf_iconst (1) dX12_plan_137 rfl ?_
    refine gf_icmp_le 148 dX12_plan_138 rfl (fun q => absurd q (by decide)) (fun _ => ?_)
    refine gf_aload_n 0 dX12_plan_141 rfl rfl ?_
    refine gf_getI flX12_427 rfl dX12_plan_142 (gt_247 hG) ?_
    rw [show hp_i (sP h z.1.1 z.1.2.1 z.1.2.2) 247 60 = nI p from Iz.2.2.2.2.1]
    refine gf_goto 152 dX12_plan_145 rfl ?_
    refine gf_icmp_ge 342 dX12_plan_152 rfl (fun q => absurd q (nI_ge (by omega) (by omega))) (fun _ => ?_)
    refine gf_iload_n 1 dX12_plan_155 rfl rfl ?_
    refine gf_iconst (2) dX12_plan_156 rfl ?_
    refine gf_icmp_le 167 dX12_plan_157 rfl (fun _ => ?_) (fun q => absurd (by decide) q)
    refine gf_iload dX12_plan_167 rfl ?_
    refine gf_istore dX12_plan_169 (Nat.le_of_ble_eq_true rfl) ?_
    refine gf_lw (l_plz2 E (by omega) (n := n) (s := s) (w := w) (g := g) (m := m) (p := p) (c := c) (T := T) o go po h hG z.1.1 z.1.2.1 z.1.2.2 Iz hgo hc hT x ((x + 1) + jz) hx (by omega) z.2 ?_ 1 0 (by omega)) ⟨rfl, rfl, rfl, rfl, rfl, rfl, rfl, rfl, rfl, rfl, rfl, rfl, trivial⟩
    refine gf_iinc (1) dX12_plan_336 rfl rfl (Nat.le_of_ble_eq_true rfl) ?_
    refine gf_goto 134 dX12_plan_339 rfl ?_
    rw [show ply2B n s w g m c T o go po p x z jz = (((itN (plz2B n s w g m c T o go po x ((x + 1) + jz)) ((z.1.1, z.1.2), z.2) 1).1.1, (itN (plz2B n s w g m c T o go po x ((x + 1) + jz)) ((z.1.1, z.1.2), z.2) 1).1.2), (itN (plz2B n s w g m c T o go po x ((x + 1) + jz)) ((z.1.1, z.1.2), z.2) 1).2) from rfl] at ih1
    exact gf_lw ih1 ⟨rfl, rfl, rfl, rfl, rfl, rfl, rfl, rfl, rfl, rfl, lvE (nI_1 ((x + 1) + jz)), trivial⟩
def plx2B (n s w g m c T : Nat) (o go po : Int32) (p : Nat) (z : (mM × mN × tW) × Int32) (jz : Nat) : (mM × mN × tW) × Int32 := (((itN (ply2B n s w g m c T o go po p jz) ((z.1.1, z.1.2), z.2) (p - (jz + 1))).1.1, (itN (ply2B n s w g m c T o go po p jz) ((z.1.1, z.1.2), z.2) (p - (jz + 1))).1.2), (itN (ply2B n s w g m c T o go po p jz) ((z.1.1, z.1.2), z.2) (p - (jz + 1))).2)
theorem plx2_I {n s w g m p c T : Nat} {o go po : Int32} {z : (mM × mN × tW) × Int32} (I : plnI z.1.1 n s w g m 2 p) : ∀ j, plnI (itN (plx2B n s w g m c T o go po p) z j).1.1 n s w g m 2 p
  | 0 => I
  | j + 1 => by
    have ih := plx2_I (c := c) (T := T) (o := o) (go := go) (po := po) I j
    rw [itN_s]
    generalize itN (plx2B n s w g m c T o go po p) z j = u at ih ⊢
    unfold plx2B
    exact ply2_I (z := ((u.1.1, u.1.2), u.2)) ih _
theorem l_plx2 (E : gE) {d : Nat} (hd : 9 ≤ d) {n s w g m p c T : Nat} (o go po : Int32) (h : hp_T) (hG : gr h) (M : mM) (N : mN) (W : tW) (I : plnI M n s w g m 2 p) (hgo : ∃ q, q ≤ 9 ∧ go = nI q) (hc : c < w * g) (hT : T ≤ 120) (be : Int32) {v : Option Value} {hz : hp_T} (K : gf E mX12_plan d 348 [(0, .ref (E.1 + 247)), (1, .int (nI 2)), (2, .int o), (3, .int go), (4, .int po), (5, .int (nI c)), (6, .int (nI T)), (7, .int (nI m)), (8, .int ((itN (plx2B n s w g m c T o go po p) ((M, N, W), be) p).2))] [] (sP h ((itN (plx2B n s w g m c T o go po p) ((M, N, W), be) p).1.1) ((itN (plx2B n s w g m c T o go po p) ((M, N, W), be) p).1.2).1 ((itN (plx2B n s w g m c T o go po p) ((M, N, W), be) p).1.2).2) v hz) : ∀ (kz jz : Nat), jz + kz = p → gf E mX12_plan d 109 [(0, .ref (E.1 + 247)), (1, .int (nI 2)), (2, .int o), (3, .int go), (4, .int po), (5, .int (nI c)), (6, .int (nI T)), (7, .int (nI m)), (8, .int ((itN (plx2B n s w g m c T o go po p) ((M, N, W), be) jz).2)), (9, .int (nI jz))] [] (sP h ((itN (plx2B n s w g m c T o go po p) ((M, N, W), be) jz).1.1) ((itN (plx2B n s w g m c T o go po p) ((M, N, W), be) jz).1.2).1 ((itN (plx2B n s w g m c T o go po p) ((M, N, W), be) jz).1.2).2) v hz := by
  have hp8 : p ≤ 8 := I.2.2.2.2.2.1
  intro kz
  induction kz with
  | zero =>
    intro jz hj
    have hj : p = jz := by omega
    subst hj
    have Iz : plnI (itN (plx2B n s w g m c T o go po p) ((M, N, W), be) p).1.1 n s w g m 2 p := plx2_I (z := ((M, N, W), be)) I p
    generalize ez : (itN (plx2B n s w g m c T o go po p) ((M, N, W), be) p) = z at K Iz ⊢
    refine gf_iload dX12_plan_109 rfl ?_
    refine gf_aload_n 0 dX12_plan_111 rfl rfl ?_
    refine gf_getI flX12_427 rfl dX12_plan_112 (gt_247 hG) ?_
    rw [show hp_i (sP h z.1.1 z.1.2.1 z.1.2.2) 247 60 = nI p from Iz.2.2.2.2.1]
    refine gf_icmp_ge 348 dX12_plan_115 rfl (fun _ => ?_) (fun q => absurd (Int32.le_refl _) q)
    exact gf_lw K ⟨rfl, rfl, rfl, rfl, rfl, rfl, rfl, rfl, rfl, trivial⟩
  | succ kz ih =>
    intro jz hj
    have ih1 := ih (jz + 1) (by omega)
    have Iz : plnI (itN (plx2B n s w g m c T o go po p) ((M, N, W), be) jz).1.1 n s w g m 2 p := plx2_I (z := ((M, N, W), be)) I jz
    rw [show (itN (plx2B n s w g m c T o go po p) ((M, N, W), be) (jz + 1)) = plx2B n s w g m c T o go po p (itN (plx2B n s w g m c T o go po p) ((M, N, W), be) jz) jz from itN_s _ _ _] at ih1
    generalize (itN (plx2B n s w g m c T o go po p) ((M, N, W), be) jz) = z at ih1 Iz ⊢
    refine gf_iload dX12_plan_109 rfl ?_
    refine gf_aload_n 0 dX12_plan_111 rfl rfl ?_
    refine gf_getI flX12_427 rfl dX12_plan_112 (gt_247 hG) ?_
    rw [show hp_i (sP h z.1.1 z.1.2.1 z.1.2.2) 247 60 = nI p from Iz.2.2.2.2.1]
    refine gf_icmp_ge 348 dX12_plan_115 rfl (fun q => absurd q (nI_ge (by omega) (by have := I.2.2.2.2.2.1; omega))) (fun _ => ?_)
    refine gf_iload_n 1 dX12_plan_118 rfl rfl ?_
    refine gf_iconst (1) dX12_plan_119 rfl ?_
    refine gf_icmp_le 130 dX12_plan_120 rfl (fun q => absurd q (by decide)) (fun _ => ?_)
    refine gf_iload dX12_plan_123 rfl ?_
    refine gf_iconst (1) dX12_plan_125 rfl ?_
    refine gf_iadd dX12_plan_126 ?_
    rw [nI_1]
    refine gf_goto 132 dX12_plan_127 rfl ?_
    refine gf_istore dX12_plan_132 (Nat.le_of_ble_eq_true rfl) ?_
    refine gf_lw (l_ply2 E (by omega) (n := n) (s := s) (w := w) (g := g) (m := m) (p := p) (c := c) (T := T) o go po h hG z.1.1 z.1.2.1 z.1.2.2 Iz hgo hc hT jz (by omega) z.2 ?_ (p - (jz + 1)) 0 (by omega)) ⟨rfl, rfl, rfl, rfl, rfl, rfl, rfl, rfl, rfl, rfl, rfl, trivial⟩
    refine gf_iinc (1) dX12_plan_342 rfl rfl (Nat.le_of_ble_eq_true rfl) ?_
    refine gf_goto 109 dX12_plan_345 rfl ?_
    rw [show plx2B n s w g m c T o go po p z jz = (((itN (ply2B n s w g m c T o go po p jz) ((z.1.1, z.1.2), z.2) (p - (jz + 1))).1.1, (itN (ply2B n s w g m c T o go po p jz) ((z.1.1, z.1.2), z.2) (p - (jz + 1))).1.2), (itN (ply2B n s w g m c T o go po p jz) ((z.1.1, z.1.2), z.2) (p - (jz + 1))).2) from rfl] at ih1
    exact gf_lw ih1 ⟨rfl, rfl, rfl, rfl, rfl, rfl, rfl, rfl, rfl, lvE (nI_1 jz), trivial⟩
def mps3 (m : Nat) (o go po : Int32) (x y q : Nat) (M : mM) : mM := (mstT (mstT (mstT M m o (M 46 x) go po) (m + 1) o (M 46 y) go po) (m + 2) o (M 46 q) go po)
def plg3 (n s w g m c T : Nat) (o go po : Int32) (x y q : Nat) (M : mM) (W : tW) : mM := goF n s w g (m + 3) c T (mps3 m o go po x y q M, W)
def plw3 (n s w g m : Nat) (o go po : Int32) (x y q : Nat) (M : mM) (W : tW) : qS := goZ n s w g (mps3 m o go po x y q M, W)
def pll3 (n s w g m c T : Nat) (o go po : Int32) (x y q : Nat) (M : mM) (W : tW) : Int32 := itN (fun f v => f + mloV (plg3 n s w g m c T o go po x y q M W) v) 0 (w * g)
theorem plg3_row {n s w g m c T : Nat} {o go po : Int32} {x y q : Nat} {M : mM} {W : tW} {r : Nat} (h0 : r ≠ 0) (hr : r < 53) (hr2 : r < 41 ∨ 44 < r) : plg3 n s w g m c T o go po x y q M W r = M r := by
  unfold plg3 mps3
  rw [go_row (by omega) h0]
  dsimp only
  rw [mst_row hr2, mst_row hr2, mst_row hr2]
theorem pln_F3 {M : mM} {n s w g m p x y q : Nat} {o go po : Int32} (I : plnI M n s w g m 3 p) (hgo : ∃ q, q ≤ 9 ∧ go = nI q) (hx : x < p) (hy : y < p) (hq : q < p) : refI (mstT (mstT (mstT M m o (M 46 x) go po) (m + 1) o (M 46 y) go po) (m + 2) o (M 46 q) go po) n s w g ∧ preI (mstT (mstT (mstT M m o (M 46 x) go po) (m + 1) o (M 46 y) go po) (m + 2) o (M 46 q) go po) w g (m + 3) := by
  have r : ∀ {r : Nat}, r < 41 ∨ 44 < r → (mstT (mstT (mstT M m o (M 46 x) go po) (m + 1) o (M 46 y) go po) (m + 2) o (M 46 q) go po) r = M r := fun hr => by rw [mst_row hr, mst_row hr, mst_row hr]
  refine ⟨refI_of (fun k _ => congrFun (r (by omega)) k) (fun r' hr => r (by omega)) I.1, by rw [r (by omega)]; exact I.2.1.1, by rw [r (by omega)]; exact I.2.1.2, by rw [r (by omega)]; exact I.2.2.1.1, I.2.2.1.2, fun e he => ?_, fun e he => ?_⟩
  · rw [mst_43, mst_43, mst_43]
    repeat' split
    all_goals first | exact hgo | exact I.2.2.2.1.1 e (by omega)
  · rw [mst_42, mst_42, mst_42]
    repeat' split
    all_goals first | exact I.2.2.2.2.2.2 _ hx | exact I.2.2.2.2.2.2 _ hy | exact I.2.2.2.2.2.2 _ hq | exact I.2.2.2.1.2 e (by omega)
def plz3B (n s w g m c T : Nat) (o go po : Int32) (x y : Nat) (z : (mM × mN × tW) × Int32) (jz : Nat) : (mM × mN × tW) × Int32 := (if z.2 = (-1) then (((up2 (up2 (up2 (plg3 n s w g m c T o go po x y ((y + 1) + jz) z.1.1 z.1.2.2) 85 0 ((plg3 n s w g m c T o go po x y ((y + 1) + jz) z.1.1 z.1.2.2) 46 x)) 85 1 ((up2 (plg3 n s w g m c T o go po x y ((y + 1) + jz) z.1.1 z.1.2.2) 85 0 ((plg3 n s w g m c T o go po x y ((y + 1) + jz) z.1.1 z.1.2.2) 46 x)) 46 y)) 85 2 ((up2 (up2 (plg3 n s w g m c T o go po x y ((y + 1) + jz) z.1.1 z.1.2.2) 85 0 ((plg3 n s w g m c T o go po x y ((y + 1) + jz) z.1.1 z.1.2.2) 46 x)) 85 1 ((up2 (plg3 n s w g m c T o go po x y ((y + 1) + jz) z.1.1 z.1.2.2) 85 0 ((plg3 n s w g m c T o go po x y ((y + 1) + jz) z.1.1 z.1.2.2) 46 x)) 46 y)) 46 ((y + 1) + jz))), (z.1.2.1, (plw3 n s w g m o go po x y ((y + 1) + jz) z.1.1 z.1.2.2).2)), (pll3 n s w g m c T o go po x y ((y + 1) + jz) z.1.1 z.1.2.2)) else (if (pll3 n s w g m c T o go po x y ((y + 1) + jz) z.1.1 z.1.2.2) < z.2 then (((up2 (up2 (up2 (plg3 n s w g m c T o go po x y ((y + 1) + jz) z.1.1 z.1.2.2) 85 0 ((plg3 n s w g m c T o go po x y ((y + 1) + jz) z.1.1 z.1.2.2) 46 x)) 85 1 ((up2 (plg3 n s w g m c T o go po x y ((y + 1) + jz) z.1.1 z.1.2.2) 85 0 ((plg3 n s w g m c T o go po x y ((y + 1) + jz) z.1.1 z.1.2.2) 46 x)) 46 y)) 85 2 ((up2 (up2 (plg3 n s w g m c T o go po x y ((y + 1) + jz) z.1.1 z.1.2.2) 85 0 ((plg3 n s w g m c T o go po x y ((y + 1) + jz) z.1.1 z.1.2.2) 46 x)) 85 1 ((up2 (plg3 n s w g m c T o go po x y ((y + 1) + jz) z.1.1 z.1.2.2) 85 0 ((plg3 n s w g m c T o go po x y ((y + 1) + jz) z.1.1 z.1.2.2) 46 x)) 46 y)) 46 ((y + 1) + jz))), (z.1.2.1, (plw3 n s w g m o go po x y ((y + 1) + jz) z.1.1 z.1.2.2).2)), (pll3 n s w g m c T o go po x y ((y + 1) + jz) z.1.1 z.1.2.2)) else (((plg3 n s w g m c T o go po x y ((y + 1) + jz) z.1.1 z.1.2.2), (z.1.2.1, (plw3 n s w g m o go po x y ((y + 1) + jz) z.1.1 z.1.2.2).2)), z.2)))
theorem plz3_row {n s w g m c T : Nat} {o go po : Int32} {x y : Nat} (u : (mM × mN × tW) × Int32) (j : Nat) {r : Nat} (h : r ≠ 85) : (plz3B n s w g m c T o go po x y u j).1.1 r = plg3 n s w g m c T o go po x y ((y + 1) + j) u.1.1 u.1.2.2 r := by
  unfold plz3B
  repeat' split
  all_goals first | rfl | (dsimp only; rw [up2_row h, up2_row h, up2_row h])
theorem plz3_I {n s w g m p c T : Nat} {o go po : Int32} {x y : Nat} {z : (mM × mN × tW) × Int32} (I : plnI z.1.1 n s w g m 3 p) : ∀ j, plnI (itN (plz3B n s w g m c T o go po x y) z j).1.1 n s w g m 3 p
  | 0 => I
  | j + 1 => by
    have ih := plz3_I (c := c) (T := T) (o := o) (go := go) (po := po) (x := x) (y := y) I j
    rw [itN_s]
    generalize itN (plz3B n s w g m c T o go po x y) z j = u at ih ⊢
    have r : ∀ {r : Nat}, r ≠ 0 → r < 53 → r < 41 ∨ 44 < r → (plz3B n s w g m c T o go po x y u j).1.1 r = u.1.1 r := fun {r} h0 hr hr2 => by
      rw [plz3_row u j (by omega)]
      exact plg3_row h0 hr hr2
    refine plnI_of (M := u.1.1) ?_ (fun r' h0 hr hr2 => r h0 hr hr2) ?_ ?_ ih
    · intro k hk
      rw [plz3_row u j (by decide)]
      unfold plg3 mps3
      rw [go_0 (by omega)]
      dsimp only
      rw [mst_row (by decide), mst_row (by decide), mst_row (by decide)]
    · intro e he
      rw [plz3_row u j (by decide)]
      unfold plg3 mps3
      rw [go_row (by decide) (by decide)]
      dsimp only
      rw [mst_43, if_neg (by omega), mst_43, if_neg (by omega), mst_43, if_neg (by omega)]
    · intro e he
      rw [plz3_row u j (by decide)]
      unfold plg3 mps3
      rw [go_row (by decide) (by decide)]
      dsimp only
      rw [mst_42, if_neg (by omega), mst_42, if_neg (by omega), mst_42, if_neg (by omega)]
theorem l_plz3 (E : gE) {d : Nat} (hd : 9 ≤ d) {n s w g m p c T : Nat} (o go po : Int32) (h : hp_T) (hG : gr h) (M : mM) (N : mN) (W : tW) (I : plnI M n s w g m 3 p) (hgo : ∃ q, q ≤ 9 ∧ go = nI q) (hc : c < w * g) (hT : T ≤ 120) (x y : Nat) (hx : x < p) (hy : y < p) (be : Int32) {v : Option Value} {hz : hp_T} (K : gf E mX12_plan d 336 [(0, .ref (E.1 + 247)), (1, .int (nI 3)), (2, .int o), (3, .int go), (4, .int po), (5, .int (nI c)), (6, .int (nI T)), (7, .int (nI m)), (8, .int ((itN (plz3B n s w g m c T o go po x y) ((M, N, W), be) (p - (y + 1))).2)), (9, .int (nI x)), (10, .int (nI y))] [] (sP h ((itN (plz3B n s w g m c T o go po x y) ((M, N, W), be) (p - (y + 1))).1.1) ((itN (plz3B n s w g m c T o go po x y) ((M, N, W), be) (p - (y + 1))).1.2).1 ((itN (plz3B n s w g m c T o go po x y) ((M, N, W), be) (p - (y + 1))).1.2).2) v hz) : ∀ (kz jz : Nat), jz + kz = (p - (y + 1)) → gf E mX12_plan d 171 [(0, .ref (E.1 + 247)), (1, .int (nI 3)), (2, .int o), (3, .int go), (4, .int po), (5, .int (nI c)), (6, .int (nI T)), (7, .int (nI m)), (8, .int ((itN (plz3B n s w g m c T o go po x y) ((M, N, W), be) jz).2)), (9, .int (nI x)), (10, .int (nI y)), (11, .int (nI ((y + 1) + jz)))] [] (sP h ((itN (plz3B n s w g m c T o go po x y) ((M, N, W), be) jz).1.1) ((itN (plz3B n s w g m c T o go po x y) ((M, N, W), be) jz).1.2).1 ((itN (plz3B n s w g m c T o go po x y) ((M, N, W), be) jz).1.2).2) v hz := by
  have hp8 : p ≤ 8 := I.2.2.2.2.2.1
  intro kz
  induction kz with
  | zero =>
    intro jz hj
    have hj : (p - (y + 1)) = jz := by omega
    subst hj
    have Iz : plnI (itN (plz3B n s w g m c T o go po x y) ((M, N, W), be) (p - (y + 1))).1.1 n s w g m 3 p := plz3_I (z := ((M, N, W), be)) I (p - (y + 1))
    generalize ez : (itN (plz3B n s w g m c T o go po x y) ((M, N, W), be) (p - (y + 1))) = z at K Iz ⊢
    refine gf_iload dX12_plan_171 rfl ?_
    refine gf_iload_n 1 dX12_plan_173 rfl rfl ?_
    refine gf_iconst (2) dX12_plan_174 rfl ?_
    refine gf_icmp_le 185 dX12_plan_175 rfl (fun q => absurd q (by decide)) (fun _ => ?_)
    refine gf_aload_n 0 dX12_plan_178 rfl rfl ?_
    refine gf_getI flX12_427 rfl dX12_plan_179 (gt_247 hG) ?_
    rw [show hp_i (sP h z.1.1 z.1.2.1 z.1.2.2) 247 60 = nI p from Iz.2.2.2.2.1]
    refine gf_goto 189 dX12_plan_182 rfl ?_
    refine gf_icmp_ge 336 dX12_plan_189 rfl (fun _ => ?_) (fun q => absurd (nI_le (by omega) (by omega)) q)
    exact gf_lw K ⟨rfl, rfl, rfl, rfl, rfl, rfl, rfl, rfl, rfl, rfl, rfl, trivial⟩
  | succ kz ih =>
    intro jz hj
    have ih1 := ih (jz + 1) (by omega)
    have Iz : plnI (itN (plz3B n s w g m c T o go po x y) ((M, N, W), be) jz).1.1 n s w g m 3 p := plz3_I (z := ((M, N, W), be)) I jz
    rw [show (itN (plz3B n s w g m c T o go po x y) ((M, N, W), be) (jz + 1)) = plz3B n s w g m c T o go po x y (itN (plz3B n s w g m c T o go po x y) ((M, N, W), be) jz) jz from itN_s _ _ _] at ih1
    generalize (itN (plz3B n s w g m c T o go po x y) ((M, N, W), be) jz) = z at ih1 Iz ⊢
    have hx9 : x < p := hx
    have hy9 : y < p := hy
    have IF : refI (mps3 m o go po x y ((y + 1) + jz) z.1.1) n s w g ∧ preI (mps3 m o go po x y ((y + 1) + jz) z.1.1) w g (m + 3) := pln_F3 (x := x) (y := y) (q := (y + 1) + jz) Iz hgo (by omega) (by omega) (by omega)
    refine gf_iload dX12_plan_171 rfl ?_
    refine gf_iload_n 1 dX12_plan_173 rfl rfl ?_
    refine gf_iconst (2) dX12_plan_174 rfl ?_
    refine gf_icmp_le 185 dX12_plan_175 rfl (fun q => absurd q (by decide)) (fun _ => ?_)
    refine gf_aload_n 0 dX12_plan_178 rfl rfl ?_
    refine gf_getI flX12_427 rfl dX12_plan_179 (gt_247 hG) ?_
    rw [show hp_i (sP h z.1.1 z.1.2.1 z.1.2.2) 247 60 = nI p from Iz.2.2.2.2.1]
    refine gf_goto 189 dX12_plan_182 rfl ?_
    refine gf_icmp_ge 336 dX12_plan_189 rfl (fun q => absurd q (nI_ge (by omega) (by omega))) (fun _ => ?_)
    refine gf_aload_n 0 dX12_plan_192 rfl rfl ?_
    refine gf_iload dX12_plan_193 rfl ?_
    refine gf_iload_n 2 dX12_plan_195 rfl rfl ?_
    refine gf_aload_n 0 dX12_plan_196 rfl rfl ?_
    refine gf_getR flX12_158 rfl dX12_plan_197 (gt_247 hG) (gp_247_61 hG) ?_
    refine gf_iload dX12_plan_200 rfl ?_
    refine gf_iald 8 dX12_plan_202 (gt_293 hG) (gl_293 hG) rfl (by omega) (by decide) ?_
    refine gf_iload_n 3 dX12_plan_203 rfl rfl ?_
    refine gf_iload dX12_plan_204 rfl ?_
    refine gf_callV cmX12_stands lkX12_456 imX12_stands seX12_stands ⟨rfl, by decide⟩ dX12_plan_206 (d1 := d - 1) (by omega) (gt_247 hG) (e_X12_stands E (e := m) (by omega) o (z.1.1 46 x) go po h hG (up2 z.1.1 0 70 (nI z.1.2.2.1)) (uprL z.1.2.1 52 z.1.2.2.2) (by have := Iz.2.2.1.2; omega)) rfl rfl (Nat.le_of_ble_eq_true rfl) ?_
    rw [mst_sP]
    change gf _ _ _ _ _ _ (sP h (mstT z.1.1 m o (z.1.1 46 x) go po) z.1.2.1 z.1.2.2) _ _
    refine gf_iload_n 1 dX12_plan_209 rfl rfl ?_
    refine gf_iconst (1) dX12_plan_210 rfl ?_
    refine gf_icmp_le 233 dX12_plan_211 rfl (fun q => absurd q (by decide)) (fun _ => ?_)
    refine gf_aload_n 0 dX12_plan_214 rfl rfl ?_
    refine gf_iload dX12_plan_215 rfl ?_
    refine gf_iconst (1) dX12_plan_217 rfl ?_
    refine gf_iadd dX12_plan_218 ?_
    rw [nI_1]
    refine gf_iload_n 2 dX12_plan_219 rfl rfl ?_
    refine gf_aload_n 0 dX12_plan_220 rfl rfl ?_
    refine gf_getR flX12_158 rfl dX12_plan_221 (gt_247 hG) (gp_247_61 hG) ?_
    refine gf_iload dX12_plan_224 rfl ?_
    refine gf_iald 8 dX12_plan_226 (gt_293 hG) (gl_293 hG) rfl (by omega) (by decide) ?_
    refine gf_iload_n 3 dX12_plan_227 rfl rfl ?_
    refine gf_iload dX12_plan_228 rfl ?_
    refine gf_callV cmX12_stands lkX12_456 imX12_stands seX12_stands ⟨rfl, by decide⟩ dX12_plan_230 (d1 := d - 1) (by omega) (gt_247 hG) (e_X12_stands E (e := (m + 1)) (by omega) o (z.1.1 46 y) go po h hG (up2 (mstT z.1.1 m o (z.1.1 46 x) go po) 0 70 (nI z.1.2.2.1)) (uprL z.1.2.1 52 z.1.2.2.2) (by have := Iz.2.2.1.2; omega)) rfl rfl (Nat.le_of_ble_eq_true rfl) ?_
    rw [mst_sP]
    change gf _ _ _ _ _ _ (sP h (mstT (mstT z.1.1 m o (z.1.1 46 x) go po) (m + 1) o (z.1.1 46 y) go po) z.1.2.1 z.1.2.2) _ _
    refine gf_iload_n 1 dX12_plan_233 rfl rfl ?_
    refine gf_iconst (2) dX12_plan_234 rfl ?_
    refine gf_icmp_le 257 dX12_plan_235 rfl (fun q => absurd q (by decide)) (fun _ => ?_)
    refine gf_aload_n 0 dX12_plan_238 rfl rfl ?_
    refine gf_iload dX12_plan_239 rfl ?_
    refine gf_iconst (2) dX12_plan_241 rfl ?_
    refine gf_iadd dX12_plan_242 ?_
    rw [show nI m + 2 = nI (m + 2) from nI_add m 2]
    refine gf_iload_n 2 dX12_plan_243 rfl rfl ?_
    refine gf_aload_n 0 dX12_plan_244 rfl rfl ?_
    refine gf_getR flX12_158 rfl dX12_plan_245 (gt_247 hG) (gp_247_61 hG) ?_
    refine gf_iload dX12_plan_248 rfl ?_
    refine gf_iald 8 dX12_plan_250 (gt_293 hG) (gl_293 hG) rfl (by omega) (by decide) ?_
    refine gf_iload_n 3 dX12_plan_251 rfl rfl ?_
    refine gf_iload dX12_plan_252 rfl ?_
    refine gf_callV cmX12_stands lkX12_456 imX12_stands seX12_stands ⟨rfl, by decide⟩ dX12_plan_254 (d1 := d - 1) (by omega) (gt_247 hG) (e_X12_stands E (e := (m + 2)) (by omega) o (z.1.1 46 ((y + 1) + jz)) go po h hG (up2 (mstT (mstT z.1.1 m o (z.1.1 46 x) go po) (m + 1) o (z.1.1 46 y) go po) 0 70 (nI z.1.2.2.1)) (uprL z.1.2.1 52 z.1.2.2.2) (by have := Iz.2.2.1.2; omega)) rfl rfl (Nat.le_of_ble_eq_true rfl) ?_
    rw [mst_sP]
    change gf _ _ _ _ _ _ (sP h (mps3 m o go po x y ((y + 1) + jz) z.1.1) z.1.2.1 z.1.2.2) _ _
    refine gf_aload_n 0 dX12_plan_257 rfl rfl ?_
    refine gf_iload dX12_plan_258 rfl ?_
    refine gf_iload dX12_plan_260 rfl ?_
    refine gf_callV cmX12_goes lkX12_611 imX12_goes seX12_goes ⟨rfl, by decide⟩ dX12_plan_262 (d1 := d - 1) (by omega) (gt_247 hG) (e_X12_goes E (by omega) (n := n) (s := s) (w := w) (g := g) (m := m + 3) (c0 := c) (T := T) h hG (mps3 m o go po x y ((y + 1) + jz) z.1.1) z.1.2.1 IF.1 z.1.2.2 IF.2 hc hT) rfl rfl (Nat.le_of_ble_eq_true rfl) ?_
    rw [go_hm]
    change gf _ _ _ _ _ _ (sP h (plg3 n s w g m c T o go po x y ((y + 1) + jz) z.1.1 z.1.2.2) z.1.2.1 (plw3 n s w g m o go po x y ((y + 1) + jz) z.1.1 z.1.2.2).2) _ _
    have hw9 : ∀ x9, x9 < 120 → ∃ k, k < 4 ∧ (plg3 n s w g m c T o go po x y ((y + 1) + jz) z.1.1 z.1.2.2) 31 x9 = nI k := by rw [show (plg3 n s w g m c T o go po x y ((y + 1) + jz) z.1.1 z.1.2.2) 31 = z.1.1 31 from plg3_row (by decide) (by decide) (by decide)]; exact Iz.2.1.1
    refine gf_aload_n 0 dX12_plan_265 rfl rfl ?_
    refine gf_callV cmX12_lossOfAll lkX12_623 imX12_lossOfAll seX12_lossOfAll ⟨rfl, by decide⟩ dX12_plan_266 (d1 := d - 1) (by omega) (gt_247 hG) (e_X12_lossOfAll E (by omega) (w := w) (g := g) h hG (up2 (plg3 n s w g m c T o go po x y ((y + 1) + jz) z.1.1 z.1.2.2) 0 70 (nI (plw3 n s w g m o go po x y ((y + 1) + jz) z.1.1 z.1.2.2).2.1)) (uprL z.1.2.1 52 (plw3 n s w g m o go po x y ((y + 1) + jz) z.1.1 z.1.2.2).2.2) (show mcty (plg3 n s w g m c T o go po x y ((y + 1) + jz) z.1.1 z.1.2.2) w g from (go_refI (z := ((mps3 m o go po x y ((y + 1) + jz) z.1.1), z.1.2.2)) IF.1).2.1) (show ∀ x9, x9 < 120 → ∃ k, k < 4 ∧ (plg3 n s w g m c T o go po x y ((y + 1) + jz) z.1.1 z.1.2.2) 31 x9 = nI k from hw9)) rfl rfl (Nat.le_of_ble_eq_true rfl) ?_
    change gf _ _ _ _ _ [.int (pll3 n s w g m c T o go po x y ((y + 1) + jz) z.1.1 z.1.2.2)] (sP h (plg3 n s w g m c T o go po x y ((y + 1) + jz) z.1.1 z.1.2.2) (z.1.2.1, (plw3 n s w g m o go po x y ((y + 1) + jz) z.1.1 z.1.2.2).2).1 (z.1.2.1, (plw3 n s w g m o go po x y ((y + 1) + jz) z.1.1 z.1.2.2).2).2) _ _
    refine gf_istore dX12_plan_269 (Nat.le_of_ble_eq_true rfl) ?_
    refine gf_lw (lv' := [(0, .ref (E.1 + 247)), (1, .int (nI 3)), (2, .int o), (3, .int go), (4, .int po), (5, .int (nI c)), (6, .int (nI T)), (7, .int (nI m)), (8, .int z.2), (9, .int (nI x)), (10, .int (nI y)), (11, .int (nI ((y + 1) + jz))), (12, .int (pll3 n s w g m c T o go po x y ((y + 1) + jz) z.1.1 z.1.2.2))]) ?_ ⟨rfl, rfl, rfl, rfl, rfl, rfl, rfl, rfl, rfl, rfl, rfl, rfl, rfl, trivial⟩
    refine gf_iload dX12_plan_271 rfl ?_
    refine gf_iconst (-1) dX12_plan_273 rfl ?_
    refine gf_icmp_eq 287 dX12_plan_274 rfl (fun zc274 => ?_) (fun zc274 => ?_)
    · refine gf_iload dX12_plan_287 rfl ?_
      refine gf_istore dX12_plan_289 (Nat.le_of_ble_eq_true rfl) ?_
      refine gf_aload_n 0 dX12_plan_291 rfl rfl ?_
      refine gf_getR flX12_279 rfl dX12_plan_292 (gt_247 hG) (gp_247_113 hG) ?_
      refine gf_iconst (0) dX12_plan_295 rfl ?_
      refine gf_aload_n 0 dX12_plan_296 rfl rfl ?_
      refine gf_getR flX12_158 rfl dX12_plan_297 (gt_247 hG) (gp_247_61 hG) ?_
      refine gf_iload dX12_plan_300 rfl ?_
      refine gf_iald 8 dX12_plan_302 (gt_293 hG) (gl_293 hG) rfl (by omega) (by decide) ?_
      refine gf_iast 3 dX12_plan_303 (gt_332 hG) (gl_332 hG) (show (0 : Int32) = nI 0 from rfl) (by decide) (by decide) ?_
      rw [sQ_85]
      refine gf_aload_n 0 dX12_plan_304 rfl rfl ?_
      refine gf_getR flX12_279 rfl dX12_plan_305 (gt_247 hG) (gp_247_113 hG) ?_
      refine gf_iconst (1) dX12_plan_308 rfl ?_
      refine gf_aload_n 0 dX12_plan_309 rfl rfl ?_
      refine gf_getR flX12_158 rfl dX12_plan_310 (gt_247 hG) (gp_247_61 hG) ?_
      refine gf_iload dX12_plan_313 rfl ?_
      refine gf_iald 8 dX12_plan_315 (gt_293 hG) (gl_293 hG) rfl (by omega) (by decide) ?_
      refine gf_iast 3 dX12_plan_316 (gt_332 hG) (gl_332 hG) (show (1 : Int32) = nI 1 from rfl) (by decide) (by decide) ?_
      rw [sQ_85]
      refine gf_aload_n 0 dX12_plan_317 rfl rfl ?_
      refine gf_getR flX12_279 rfl dX12_plan_318 (gt_247 hG) (gp_247_113 hG) ?_
      refine gf_iconst (2) dX12_plan_321 rfl ?_
      refine gf_aload_n 0 dX12_plan_322 rfl rfl ?_
      refine gf_getR flX12_158 rfl dX12_plan_323 (gt_247 hG) (gp_247_61 hG) ?_
      refine gf_iload dX12_plan_326 rfl ?_
      refine gf_iald 8 dX12_plan_328 (gt_293 hG) (gl_293 hG) rfl (by omega) (by decide) ?_
      refine gf_iast 3 dX12_plan_329 (gt_332 hG) (gl_332 hG) (show (2 : Int32) = nI 2 from rfl) (by decide) (by decide) ?_
      rw [sQ_85]
      refine gf_iinc (1) dX12_plan_330 rfl rfl (Nat.le_of_ble_eq_true rfl) ?_
      refine gf_goto 171 dX12_plan_333 rfl ?_
      rw [show plz3B n s w g m c T o go po x y z jz = (((up2 (up2 (up2 (plg3 n s w g m c T o go po x y ((y + 1) + jz) z.1.1 z.1.2.2) 85 0 ((plg3 n s w g m c T o go po x y ((y + 1) + jz) z.1.1 z.1.2.2) 46 x)) 85 1 ((up2 (plg3 n s w g m c T o go po x y ((y + 1) + jz) z.1.1 z.1.2.2) 85 0 ((plg3 n s w g m c T o go po x y ((y + 1) + jz) z.1.1 z.1.2.2) 46 x)) 46 y)) 85 2 ((up2 (up2 (plg3 n s w g m c T o go po x y ((y + 1) + jz) z.1.1 z.1.2.2) 85 0 ((plg3 n s w g m c T o go po x y ((y + 1) + jz) z.1.1 z.1.2.2) 46 x)) 85 1 ((up2 (plg3 n s w g m c T o go po x y ((y + 1) + jz) z.1.1 z.1.2.2) 85 0 ((plg3 n s w g m c T o go po x y ((y + 1) + jz) z.1.1 z.1.2.2) 46 x)) 46 y)) 46 ((y + 1) + jz))), (z.1.2.1, (plw3 n s w g m o go po x y ((y + 1) + jz) z.1.1 z.1.2.2).2)), (pll3 n s w g m c T o go po x y ((y + 1) + jz) z.1.1 z.1.2.2)) from if_pos zc274] at ih1
      exact gf_lw ih1 ⟨rfl, rfl, rfl, rfl, rfl, rfl, rfl, rfl, rfl, rfl, rfl, lvE (nI_1 ((y + 1) + jz)), trivial⟩
    · refine gf_iload dX12_plan_277 rfl ?_
      refine gf_iload dX12_plan_279 rfl ?_
      refine gf_icmp_lt 287 dX12_plan_281 rfl (fun zc281 => ?_) (fun zc281 => ?_)
      · refine gf_iload dX12_plan_287 rfl ?_
        refine gf_istore dX12_plan_289 (Nat.le_of_ble_eq_true rfl) ?_
        refine gf_aload_n 0 dX12_plan_291 rfl rfl ?_
        refine gf_getR flX12_279 rfl dX12_plan_292 (gt_247 hG) (gp_247_113 hG) ?_
        refine gf_iconst (0) dX12_plan_295 rfl ?_
        refine gf_aload_n 0 dX12_plan_296 rfl rfl ?_
        refine gf_getR flX12_158 rfl dX12_plan_297 (gt_247 hG) (gp_247_61 hG) ?_
        refine gf_iload dX12_plan_300 rfl ?_
        refine gf_iald 8 dX12_plan_302 (gt_293 hG) (gl_293 hG) rfl (by omega) (by decide) ?_
        refine gf_iast 3 dX12_plan_303 (gt_332 hG) (gl_332 hG) (show (0 : Int32) = nI 0 from rfl) (by decide) (by decide) ?_
        rw [sQ_85]
        refine gf_aload_n 0 dX12_plan_304 rfl rfl ?_
        refine gf_getR flX12_279 rfl dX12_plan_305 (gt_247 hG) (gp_247_113 hG) ?_
        refine gf_iconst (1) dX12_plan_308 rfl ?_
        refine gf_aload_n 0 dX12_plan_309 rfl rfl ?_
        refine gf_getR flX12_158 rfl dX12_plan_310 (gt_247 hG) (gp_247_61 hG) ?_
        refine gf_iload dX12_plan_313 rfl ?_
        refine gf_iald 8 dX12_plan_315 (gt_293 hG) (gl_293 hG) rfl (by omega) (by decide) ?_
        refine gf_iast 3 dX12_plan_316 (gt_332 hG) (gl_332 hG) (show (1 : Int32) = nI 1 from rfl) (by decide) (by decide) ?_
        rw [sQ_85]
        refine gf_aload_n 0 dX12_plan_317 rfl rfl ?_
        refine gf_getR flX12_279 rfl dX12_plan_318 (gt_247 hG) (gp_247_113 hG) ?_
        refine gf_iconst (2) dX12_plan_321 rfl ?_
        refine gf_aload_n 0 dX12_plan_322 rfl rfl ?_
        refine gf_getR flX12_158 rfl dX12_plan_323 (gt_247 hG) (gp_247_61 hG) ?_
        refine gf_iload dX12_plan_326 rfl ?_
        refine gf_iald 8 dX12_plan_328 (gt_293 hG) (gl_293 hG) rfl (by omega) (by decide) ?_
        refine gf_iast 3 dX12_plan_329 (gt_332 hG) (gl_332 hG) (show (2 : Int32) = nI 2 from rfl) (by decide) (by decide) ?_
        rw [sQ_85]
        refine gf_iinc (1) dX12_plan_330 rfl rfl (Nat.le_of_ble_eq_true rfl) ?_
        refine gf_goto 171 dX12_plan_333 rfl ?_
        rw [show plz3B n s w g m c T o go po x y z jz = (((up2 (up2 (up2 (plg3 n s w g m c T o go po x y ((y + 1) + jz) z.1.1 z.1.2.2) 85 0 ((plg3 n s w g m c T o go po x y ((y + 1) + jz) z.1.1 z.1.2.2) 46 x)) 85 1 ((up2 (plg3 n s w g m c T o go po x y ((y + 1) + jz) z.1.1 z.1.2.2) 85 0 ((plg3 n s w g m c T o go po x y ((y + 1) + jz) z.1.1 z.1.2.2) 46 x)) 46 y)) 85 2 ((up2 (up2 (plg3 n s w g m c T o go po x y ((y + 1) + jz) z.1.1 z.1.2.2) 85 0 ((plg3 n s w g m c T o go po x y ((y + 1) + jz) z.1.1 z.1.2.2) 46 x)) 85 1 ((up2 (plg3 n s w g m c T o go po x y ((y + 1) + jz) z.1.1 z.1.2.2) 85 0 ((plg3 n s w g m c T o go po x y ((y + 1) + jz) z.1.1 z.1.2.2) 46 x)) 46 y)) 46 ((y + 1) + jz))), (z.1.2.1, (plw3 n s w g m o go po x y ((y + 1) + jz) z.1.1 z.1.2.2).2)), (pll3 n s w g m c T o go po x y ((y + 1) + jz) z.1.1 z.1.2.2)) from (if_neg zc274).trans (if_pos zc281)] at ih1
        exact gf_lw ih1 ⟨rfl, rfl, rfl, rfl, rfl, rfl, rfl, rfl, rfl, rfl, rfl, lvE (nI_1 ((y + 1) + jz)), trivial⟩
      · refine gf_goto 330 dX12_plan_284 rfl ?_
        refine gf_iinc (1) dX12_plan_330 rfl rfl (Nat.le_of_ble_eq_true rfl) ?_
        refine gf_goto 171 dX12_plan_333 rfl ?_
        rw [show plz3B n s w g m c T o go po x y z jz = (((plg3 n s w g m c T o go po x y ((y + 1) + jz) z.1.1 z.1.2.2), (z.1.2.1, (plw3 n s w g m o go po x y ((y + 1) + jz) z.1.1 z.1.2.2).2)), z.2) from (if_neg zc274).trans (if_neg zc281)] at ih1
        exact gf_lw ih1 ⟨rfl, rfl, rfl, rfl, rfl, rfl, rfl, rfl, rfl, rfl, rfl, lvE (nI_1 ((y + 1) + jz)), trivial⟩
def ply3B (n s w g m c T : Nat) (o go po : Int32) (p x : Nat) (z : (mM × mN × tW) × Int32) (jz : Nat) : (mM × mN × tW) × Int32 := (((itN (plz3B n s w g m c T o go po x ((x + 1) + jz)) ((z.1.1, z.1.2), z.2) (p - (((x + 1) + jz) + 1))).1.1, (itN (plz3B n s w g m c T o go po x ((x + 1) + jz)) ((z.1.1, z.1.2), z.2) (p - (((x + 1) + jz) + 1))).1.2), (itN (plz3B n s w g m c T o go po x ((x + 1) + jz)) ((z.1.1, z.1.2), z.2) (p - (((x + 1) + jz) + 1))).2)
theorem ply3_I {n s w g m p c T : Nat} {o go po : Int32} {x : Nat} {z : (mM × mN × tW) × Int32} (I : plnI z.1.1 n s w g m 3 p) : ∀ j, plnI (itN (ply3B n s w g m c T o go po p x) z j).1.1 n s w g m 3 p
  | 0 => I
  | j + 1 => by
    have ih := ply3_I (c := c) (T := T) (o := o) (go := go) (po := po) (x := x) I j
    rw [itN_s]
    generalize itN (ply3B n s w g m c T o go po p x) z j = u at ih ⊢
    unfold ply3B
    exact plz3_I (z := ((u.1.1, u.1.2), u.2)) ih _
theorem l_ply3 (E : gE) {d : Nat} (hd : 9 ≤ d) {n s w g m p c T : Nat} (o go po : Int32) (h : hp_T) (hG : gr h) (M : mM) (N : mN) (W : tW) (I : plnI M n s w g m 3 p) (hgo : ∃ q, q ≤ 9 ∧ go = nI q) (hc : c < w * g) (hT : T ≤ 120) (x : Nat) (hx : x < p) (be : Int32) {v : Option Value} {hz : hp_T} (K : gf E mX12_plan d 342 [(0, .ref (E.1 + 247)), (1, .int (nI 3)), (2, .int o), (3, .int go), (4, .int po), (5, .int (nI c)), (6, .int (nI T)), (7, .int (nI m)), (8, .int ((itN (ply3B n s w g m c T o go po p x) ((M, N, W), be) (p - (x + 1))).2)), (9, .int (nI x))] [] (sP h ((itN (ply3B n s w g m c T o go po p x) ((M, N, W), be) (p - (x + 1))).1.1) ((itN (ply3B n s w g m c T o go po p x) ((M, N, W), be) (p - (x + 1))).1.2).1 ((itN (ply3B n s w g m c T o go po p x) ((M, N, W), be) (p - (x + 1))).1.2).2) v hz) : ∀ (kz jz : Nat), jz + kz = (p - (x + 1)) → gf E mX12_plan d 134 [(0, .ref (E.1 + 247)), (1, .int (nI 3)), (2, .int o), (3, .int go), (4, .int po), (5, .int (nI c)), (6, .int (nI T)), (7, .int (nI m)), (8, .int ((itN (ply3B n s w g m c T o go po p x) ((M, N, W), be) jz).2)), (9, .int (nI x)), (10, .int (nI ((x + 1) + jz)))] [] (sP h ((itN (ply3B n s w g m c T o go po p x) ((M, N, W), be) jz).1.1) ((itN (ply3B n s w g m c T o go po p x) ((M, N, W), be) jz).1.2).1 ((itN (ply3B n s w g m c T o go po p x) ((M, N, W), be) jz).1.2).2) v hz := by
  have hp8 : p ≤ 8 := I.2.2.2.2.2.1
  intro kz
  induction kz with
  | zero =>
    intro jz hj
    have hj : (p - (x + 1)) = jz := by omega
    subst hj
    have Iz : plnI (itN (ply3B n s w g m c T o go po p x) ((M, N, W), be) (p - (x + 1))).1.1 n s w g m 3 p := ply3_I (z := ((M, N, W), be)) I (p - (x + 1))
    generalize ez : (itN (ply3B n s w g m c T o go po p x) ((M, N, W), be) (p - (x + 1))) = z at K Iz ⊢
    refine gf_iload dX12_plan_134 rfl ?_
    refine gf_iload_n 1 dX12_plan_136 rfl rfl ?_
    refine gf_iconst (1) dX12_plan_137 rfl ?_
    refine gf_icmp_le 148 dX12_plan_138 rfl (fun q => absurd q (by decide)) (fun _ => ?_)
    refine gf_aload_n 0 dX12_plan_141 rfl rfl ?_
    refine gf_getI flX12_427 rfl dX12_plan_142 (gt_247 hG) ?_
    rw [show hp_i (sP h z.1.1 z.1.2.1 z.1.2.2) 247 60 = nI p from Iz.2.2.2.2.1]
    refine gf_goto 152 dX12_plan_145 rfl ?_
    refine gf_icmp_ge 342 dX12_plan_152 rfl (fun _ => ?_) (fun q => absurd (nI_le (by omega) (by omega)) q)
    exact gf_lw K ⟨rfl, rfl, rfl, rfl, rfl, rfl, rfl, rfl, rfl, rfl, trivial⟩
  | succ kz ih =>
    intro jz hj
    have ih1 := ih (jz + 1) (by omega)
    have Iz : plnI (itN (ply3B n s w g m c T o go po p x) ((M, N, W), be) jz).1.1 n s w g m 3 p := ply3_I (z := ((M, N, W), be)) I jz
    rw [show (itN (ply3B n s w g m c T o go po p x) ((M, N, W), be) (jz + 1)) = ply3B n s w g m c T o go po p x (itN (ply3B n s w g m c T o go po p x) ((M, N, W), be) jz) jz from itN_s _ _ _] at ih1
    generalize (itN (ply3B n s w g m c T o go po p x) ((M, N, W), be) jz) = z at ih1 Iz ⊢
    refine gf_iload dX12_plan_134 rfl ?_
    refine gf_iload_n 1 dX12_plan_136 rfl rfl ?_
    refine gf_iconst (1) dX12_plan_137 rfl ?_
    refine gf_icmp_le 148 dX12_plan_138 rfl (fun q => absurd q (by decide)) (fun _ => ?_)
    refine gf_aload_n 0 dX12_plan_141 rfl rfl ?_
    refine gf_getI flX12_427 rfl dX12_plan_142 (gt_247 hG) ?_
    rw [show hp_i (sP h z.1.1 z.1.2.1 z.1.2.2) 247 60 = nI p from Iz.2.2.2.2.1]
    refine gf_goto 152 dX12_plan_145 rfl ?_
    refine gf_icmp_ge 342 dX12_plan_152 rfl (fun q => absurd q (nI_ge (by omega) (by omega))) (fun _ => ?_)
    refine gf_iload_n 1 dX12_plan_155 rfl rfl ?_
    refine gf_iconst (2) dX12_plan_156 rfl ?_
    refine gf_icmp_le 167 dX12_plan_157 rfl (fun q => absurd q (by decide)) (fun _ => ?_)
    refine gf_iload dX12_plan_160 rfl ?_
    refine gf_iconst (1) dX12_plan_162 rfl ?_
    refine gf_iadd dX12_plan_163 ?_
    rw [nI_1]
    refine gf_goto 169 dX12_plan_164 rfl ?_
    refine gf_istore dX12_plan_169 (Nat.le_of_ble_eq_true rfl) ?_
    refine gf_lw (l_plz3 E (by omega) (n := n) (s := s) (w := w) (g := g) (m := m) (p := p) (c := c) (T := T) o go po h hG z.1.1 z.1.2.1 z.1.2.2 Iz hgo hc hT x ((x + 1) + jz) hx (by omega) z.2 ?_ (p - (((x + 1) + jz) + 1)) 0 (by omega)) ⟨rfl, rfl, rfl, rfl, rfl, rfl, rfl, rfl, rfl, rfl, rfl, rfl, trivial⟩
    refine gf_iinc (1) dX12_plan_336 rfl rfl (Nat.le_of_ble_eq_true rfl) ?_
    refine gf_goto 134 dX12_plan_339 rfl ?_
    rw [show ply3B n s w g m c T o go po p x z jz = (((itN (plz3B n s w g m c T o go po x ((x + 1) + jz)) ((z.1.1, z.1.2), z.2) (p - (((x + 1) + jz) + 1))).1.1, (itN (plz3B n s w g m c T o go po x ((x + 1) + jz)) ((z.1.1, z.1.2), z.2) (p - (((x + 1) + jz) + 1))).1.2), (itN (plz3B n s w g m c T o go po x ((x + 1) + jz)) ((z.1.1, z.1.2), z.2) (p - (((x + 1) + jz) + 1))).2) from rfl] at ih1
    exact gf_lw ih1 ⟨rfl, rfl, rfl, rfl, rfl, rfl, rfl, rfl, rfl, rfl, lvE (nI_1 ((x + 1) + jz)), trivial⟩
def plx3B (n s w g m c T : Nat) (o go po : Int32) (p : Nat) (z : (mM × mN × tW) × Int32) (jz : Nat) : (mM × mN × tW) × Int32 := (((itN (ply3B n s w g m c T o go po p jz) ((z.1.1, z.1.2), z.2) (p - (jz + 1))).1.1, (itN (ply3B n s w g m c T o go po p jz) ((z.1.1, z.1.2), z.2) (p - (jz + 1))).1.2), (itN (ply3B n s w g m c T o go po p jz) ((z.1.1, z.1.2), z.2) (p - (jz + 1))).2)
theorem plx3_I {n s w g m p c T : Nat} {o go po : Int32} {z : (mM × mN × tW) × Int32} (I : plnI z.1.1 n s w g m 3 p) : ∀ j, plnI (itN (plx3B n s w g m c T o go po p) z j).1.1 n s w g m 3 p
  | 0 => I
  | j + 1 => by
    have ih := plx3_I (c := c) (T := T) (o := o) (go := go) (po := po) I j
    rw [itN_s]
    generalize itN (plx3B n s w g m c T o go po p) z j = u at ih ⊢
    unfold plx3B
    exact ply3_I (z := ((u.1.1, u.1.2), u.2)) ih _
theorem l_plx3 (E : gE) {d : Nat} (hd : 9 ≤ d) {n s w g m p c T : Nat} (o go po : Int32) (h : hp_T) (hG : gr h) (M : mM) (N : mN) (W : tW) (I : plnI M n s w g m 3 p) (hgo : ∃ q, q ≤ 9 ∧ go = nI q) (hc : c < w * g) (hT : T ≤ 120) (be : Int32) {v : Option Value} {hz : hp_T} (K : gf E mX12_plan d 348 [(0, .ref (E.1 + 247)), (1, .int (nI 3)), (2, .int o), (3, .int go), (4, .int po), (5, .int (nI c)), (6, .int (nI T)), (7, .int (nI m)), (8, .int ((itN (plx3B n s w g m c T o go po p) ((M, N, W), be) p).2))] [] (sP h ((itN (plx3B n s w g m c T o go po p) ((M, N, W), be) p).1.1) ((itN (plx3B n s w g m c T o go po p) ((M, N, W), be) p).1.2).1 ((itN (plx3B n s w g m c T o go po p) ((M, N, W), be) p).1.2).2) v hz) : ∀ (kz jz : Nat), jz + kz = p → gf E mX12_plan d 109 [(0, .ref (E.1 + 247)), (1, .int (nI 3)), (2, .int o), (3, .int go), (4, .int po), (5, .int (nI c)), (6, .int (nI T)), (7, .int (nI m)), (8, .int ((itN (plx3B n s w g m c T o go po p) ((M, N, W), be) jz).2)), (9, .int (nI jz))] [] (sP h ((itN (plx3B n s w g m c T o go po p) ((M, N, W), be) jz).1.1) ((itN (plx3B n s w g m c T o go po p) ((M, N, W), be) jz).1.2).1 ((itN (plx3B n s w g m c T o go po p) ((M, N, W), be) jz).1.2).2) v hz := by
  have hp8 : p ≤ 8 := I.2.2.2.2.2.1
  intro kz
  induction kz with
  | zero =>
    intro jz hj
    have hj : p = jz := by omega
    subst hj
    have Iz : plnI (itN (plx3B n s w g m c T o go po p) ((M, N, W), be) p).1.1 n s w g m 3 p := plx3_I (z := ((M, N, W), be)) I p
    generalize ez : (itN (plx3B n s w g m c T o go po p) ((M, N, W), be) p) = z at K Iz ⊢
    refine gf_iload dX12_plan_109 rfl ?_
    refine gf_aload_n 0 dX12_plan_111 rfl rfl ?_
    refine gf_getI flX12_427 rfl dX12_plan_112 (gt_247 hG) ?_
    rw [show hp_i (sP h z.1.1 z.1.2.1 z.1.2.2) 247 60 = nI p from Iz.2.2.2.2.1]
    refine gf_icmp_ge 348 dX12_plan_115 rfl (fun _ => ?_) (fun q => absurd (Int32.le_refl _) q)
    exact gf_lw K ⟨rfl, rfl, rfl, rfl, rfl, rfl, rfl, rfl, rfl, trivial⟩
  | succ kz ih =>
    intro jz hj
    have ih1 := ih (jz + 1) (by omega)
    have Iz : plnI (itN (plx3B n s w g m c T o go po p) ((M, N, W), be) jz).1.1 n s w g m 3 p := plx3_I (z := ((M, N, W), be)) I jz
    rw [show (itN (plx3B n s w g m c T o go po p) ((M, N, W), be) (jz + 1)) = plx3B n s w g m c T o go po p (itN (plx3B n s w g m c T o go po p) ((M, N, W), be) jz) jz from itN_s _ _ _] at ih1
    generalize (itN (plx3B n s w g m c T o go po p) ((M, N, W), be) jz) = z at ih1 Iz ⊢
    refine gf_iload dX12_plan_109 rfl ?_
    refine gf_aload_n 0 dX12_plan_111 rfl rfl ?_
    refine gf_getI flX12_427 rfl dX12_plan_112 (gt_247 hG) ?_
    rw [show hp_i (sP h z.1.1 z.1.2.1 z.1.2.2) 247 60 = nI p from Iz.2.2.2.2.1]
    refine gf_icmp_ge 348 dX12_plan_115 rfl (fun q => absurd q (nI_ge (by omega) (by have := I.2.2.2.2.2.1; omega))) (fun _ => ?_)
    refine gf_iload_n 1 dX12_plan_118 rfl rfl ?_
    refine gf_iconst (1) dX12_plan_119 rfl ?_
    refine gf_icmp_le 130 dX12_plan_120 rfl (fun q => absurd q (by decide)) (fun _ => ?_)
    refine gf_iload dX12_plan_123 rfl ?_
    refine gf_iconst (1) dX12_plan_125 rfl ?_
    refine gf_iadd dX12_plan_126 ?_
    rw [nI_1]
    refine gf_goto 132 dX12_plan_127 rfl ?_
    refine gf_istore dX12_plan_132 (Nat.le_of_ble_eq_true rfl) ?_
    refine gf_lw (l_ply3 E (by omega) (n := n) (s := s) (w := w) (g := g) (m := m) (p := p) (c := c) (T := T) o go po h hG z.1.1 z.1.2.1 z.1.2.2 Iz hgo hc hT jz (by omega) z.2 ?_ (p - (jz + 1)) 0 (by omega)) ⟨rfl, rfl, rfl, rfl, rfl, rfl, rfl, rfl, rfl, rfl, rfl, trivial⟩
    refine gf_iinc (1) dX12_plan_342 rfl rfl (Nat.le_of_ble_eq_true rfl) ?_
    refine gf_goto 109 dX12_plan_345 rfl ?_
    rw [show plx3B n s w g m c T o go po p z jz = (((itN (ply3B n s w g m c T o go po p jz) ((z.1.1, z.1.2), z.2) (p - (jz + 1))).1.1, (itN (ply3B n s w g m c T o go po p jz) ((z.1.1, z.1.2), z.2) (p - (jz + 1))).1.2), (itN (ply3B n s w g m c T o go po p jz) ((z.1.1, z.1.2), z.2) (p - (jz + 1))).2) from rfl] at ih1
    exact gf_lw ih1 ⟨rfl, rfl, rfl, rfl, rfl, rfl, rfl, rfl, rfl, lvE (nI_1 jz), trivial⟩
def mpn0 (M : mM) (m k : Nat) : mM := up2 M 0 54 (nI (m + k))
def mpnE (m k : Nat) (z : (mM × mN × tW) × Int32) : mM := up2 (up2 z.1.1 0 54 (nI m)) 0 112 (nI k)
def mpnZ (n s w g m p k c T : Nat) (o go po : Int32) (M : mM) (N : mN) (W : tW) : (mM × mN × tW) × Int32 :=
  if k = 1 then itN (plx1B n s w g m c T o go po p) ((mpn0 M m k, N, W), -1) p
  else if k = 2 then itN (plx2B n s w g m c T o go po p) ((mpn0 M m k, N, W), -1) p
  else itN (plx3B n s w g m c T o go po p) ((mpn0 M m k, N, W), -1) p
theorem plnI_0 {M : mM} {n s w g m p k : Nat} (I : refI M n s w g) (J : preI M w g m) (hp : M 0 60 = nI p ∧ p ≤ 8 ∧ ∀ i, i < p → ∃ a, a < w * g ∧ M 46 i = nI a) (hk : m + k ≤ 12) : plnI (mpn0 M m k) n s w g m k p :=
  ⟨I, ⟨J.1, J.2.1⟩, ⟨rfl, hk⟩, ⟨J.2.2.2.2.1, J.2.2.2.2.2⟩, hp⟩
theorem l_pln1 (E : gE) {d : Nat} (hd : 9 ≤ d) {n s w g m p c T : Nat} (o go po : Int32) (h : hp_T) (hG : gr h) (M : mM) (N : mN) (W : tW) (I : refI M n s w g) (J : preI M w g m) (hp : M 0 60 = nI p ∧ p ≤ 8 ∧ ∀ i, i < p → ∃ a, a < w * g ∧ M 46 i = nI a) (hk : m + 1 ≤ 12) (hgo : ∃ q, q ≤ 9 ∧ go = nI q) (hc : c < w * g) (hT : T ≤ 120) : gf E mX12_plan d 87 [(0, .ref (E.1 + 247)), (1, .int (nI 1)), (2, .int o), (3, .int go), (4, .int po), (5, .int (nI c)), (6, .int (nI T))] [] (sP h M N W) (some (.int (mpnZ n s w g m p 1 c T o go po M N W).2)) (sP h (mpnE m 1 (mpnZ n s w g m p 1 c T o go po M N W)) (mpnZ n s w g m p 1 c T o go po M N W).1.2.1 (mpnZ n s w g m p 1 c T o go po M N W).1.2.2) := by
  refine gf_aload_n 0 dX12_plan_87 rfl rfl ?_
  refine gf_getI flX12_421 rfl dX12_plan_88 (gt_247 hG) ?_
  rw [show hp_i (sP h M (N, W).1 (N, W).2) 247 54 = nI m from J.2.2.1]
  refine gf_istore dX12_plan_91 (Nat.le_of_ble_eq_true rfl) ?_
  refine gf_aload_n 0 dX12_plan_93 rfl rfl ?_
  refine gf_dup dX12_plan_94 rfl ?_
  refine gf_getI flX12_421 rfl dX12_plan_95 (gt_247 hG) ?_
  rw [show hp_i (sP h M (N, W).1 (N, W).2) 247 54 = nI m from J.2.2.1]
  refine gf_iload_n 1 dX12_plan_98 rfl rfl ?_
  refine gf_iadd dX12_plan_99 ?_
  rw [show nI m + nI 1 = nI (m + 1) from nI_add m 1]
  refine gf_putI flX12_421 rfl rfl dX12_plan_100 (gt_247 hG) ⟨rfl, rfl⟩ ?_
  rw [sP_sl _ _ _ _ _ _ (by decide)]
  refine gf_iconst (-1) dX12_plan_103 rfl ?_
  refine gf_istore dX12_plan_104 (Nat.le_of_ble_eq_true rfl) ?_
  refine gf_iconst (0) dX12_plan_106 rfl ?_
  refine gf_istore dX12_plan_107 (Nat.le_of_ble_eq_true rfl) ?_
  change gf _ _ _ _ _ _ (sP h (mpn0 M m 1) N W) _ _
  refine gf_lw (l_plx1 E (by omega) (n := n) (s := s) (w := w) (g := g) (m := m) (p := p) (c := c) (T := T) o go po h hG (mpn0 M m 1) N W (plnI_0 I J hp hk) hgo hc hT (-1) ?_ p 0 (by omega)) ⟨rfl, rfl, rfl, rfl, rfl, rfl, rfl, rfl, rfl, rfl, trivial⟩
  refine gf_lw (lv' := [(0, .ref (E.1 + 247)), (1, .int (nI 1)), (2, .int o), (3, .int go), (4, .int po), (5, .int (nI c)), (6, .int (nI T)), (7, .int (nI m)), (8, .int ((mpnZ n s w g m p 1 c T o go po M N W).2))]) ?_ ⟨rfl, rfl, rfl, rfl, rfl, rfl, rfl, rfl, rfl, trivial⟩
  refine gf_aload_n 0 dX12_plan_348 rfl rfl ?_
  refine gf_iload dX12_plan_349 rfl ?_
  refine gf_putI flX12_421 rfl rfl dX12_plan_351 (gt_247 hG) ⟨rfl, rfl⟩ ?_
  rw [sP_sl _ _ _ _ _ _ (by decide)]
  refine gf_aload_n 0 dX12_plan_354 rfl rfl ?_
  refine gf_iload_n 1 dX12_plan_355 rfl rfl ?_
  refine gf_putI flX12_434 rfl rfl dX12_plan_356 (gt_247 hG) ⟨rfl, rfl⟩ ?_
  rw [sP_sl _ _ _ _ _ _ (by decide)]
  refine gf_iload dX12_plan_359 rfl ?_
  exact gf_iretE dX12_plan_361 rfl (rfl) (rfl)
theorem l_pln2 (E : gE) {d : Nat} (hd : 9 ≤ d) {n s w g m p c T : Nat} (o go po : Int32) (h : hp_T) (hG : gr h) (M : mM) (N : mN) (W : tW) (I : refI M n s w g) (J : preI M w g m) (hp : M 0 60 = nI p ∧ p ≤ 8 ∧ ∀ i, i < p → ∃ a, a < w * g ∧ M 46 i = nI a) (hk : m + 2 ≤ 12) (hgo : ∃ q, q ≤ 9 ∧ go = nI q) (hc : c < w * g) (hT : T ≤ 120) : gf E mX12_plan d 87 [(0, .ref (E.1 + 247)), (1, .int (nI 2)), (2, .int o), (3, .int go), (4, .int po), (5, .int (nI c)), (6, .int (nI T))] [] (sP h M N W) (some (.int (mpnZ n s w g m p 2 c T o go po M N W).2)) (sP h (mpnE m 2 (mpnZ n s w g m p 2 c T o go po M N W)) (mpnZ n s w g m p 2 c T o go po M N W).1.2.1 (mpnZ n s w g m p 2 c T o go po M N W).1.2.2) := by
  refine gf_aload_n 0 dX12_plan_87 rfl rfl ?_
  refine gf_getI flX12_421 rfl dX12_plan_88 (gt_247 hG) ?_
  rw [show hp_i (sP h M (N, W).1 (N, W).2) 247 54 = nI m from J.2.2.1]
  refine gf_istore dX12_plan_91 (Nat.le_of_ble_eq_true rfl) ?_
  refine gf_aload_n 0 dX12_plan_93 rfl rfl ?_
  refine gf_dup dX12_plan_94 rfl ?_
  refine gf_getI flX12_421 rfl dX12_plan_95 (gt_247 hG) ?_
  rw [show hp_i (sP h M (N, W).1 (N, W).2) 247 54 = nI m from J.2.2.1]
  refine gf_iload_n 1 dX12_plan_98 rfl rfl ?_
  refine gf_iadd dX12_plan_99 ?_
  rw [show nI m + nI 2 = nI (m + 2) from nI_add m 2]
  refine gf_putI flX12_421 rfl rfl dX12_plan_100 (gt_247 hG) ⟨rfl, rfl⟩ ?_
  rw [sP_sl _ _ _ _ _ _ (by decide)]
  refine gf_iconst (-1) dX12_plan_103 rfl ?_
  refine gf_istore dX12_plan_104 (Nat.le_of_ble_eq_true rfl) ?_
  refine gf_iconst (0) dX12_plan_106 rfl ?_
  refine gf_istore dX12_plan_107 (Nat.le_of_ble_eq_true rfl) ?_
  change gf _ _ _ _ _ _ (sP h (mpn0 M m 2) N W) _ _
  refine gf_lw (l_plx2 E (by omega) (n := n) (s := s) (w := w) (g := g) (m := m) (p := p) (c := c) (T := T) o go po h hG (mpn0 M m 2) N W (plnI_0 I J hp hk) hgo hc hT (-1) ?_ p 0 (by omega)) ⟨rfl, rfl, rfl, rfl, rfl, rfl, rfl, rfl, rfl, rfl, trivial⟩
  refine gf_lw (lv' := [(0, .ref (E.1 + 247)), (1, .int (nI 2)), (2, .int o), (3, .int go), (4, .int po), (5, .int (nI c)), (6, .int (nI T)), (7, .int (nI m)), (8, .int ((mpnZ n s w g m p 2 c T o go po M N W).2))]) ?_ ⟨rfl, rfl, rfl, rfl, rfl, rfl, rfl, rfl, rfl, trivial⟩
  refine gf_aload_n 0 dX12_plan_348 rfl rfl ?_
  refine gf_iload dX12_plan_349 rfl ?_
  refine gf_putI flX12_421 rfl rfl dX12_plan_351 (gt_247 hG) ⟨rfl, rfl⟩ ?_
  rw [sP_sl _ _ _ _ _ _ (by decide)]
  refine gf_aload_n 0 dX12_plan_354 rfl rfl ?_
  refine gf_iload_n 1 dX12_plan_355 rfl rfl ?_
  refine gf_putI flX12_434 rfl rfl dX12_plan_356 (gt_247 hG) ⟨rfl, rfl⟩ ?_
  rw [sP_sl _ _ _ _ _ _ (by decide)]
  refine gf_iload dX12_plan_359 rfl ?_
  exact gf_iretE dX12_plan_361 rfl (rfl) (rfl)
theorem l_pln3 (E : gE) {d : Nat} (hd : 9 ≤ d) {n s w g m p c T : Nat} (o go po : Int32) (h : hp_T) (hG : gr h) (M : mM) (N : mN) (W : tW) (I : refI M n s w g) (J : preI M w g m) (hp : M 0 60 = nI p ∧ p ≤ 8 ∧ ∀ i, i < p → ∃ a, a < w * g ∧ M 46 i = nI a) (hk : m + 3 ≤ 12) (hgo : ∃ q, q ≤ 9 ∧ go = nI q) (hc : c < w * g) (hT : T ≤ 120) : gf E mX12_plan d 87 [(0, .ref (E.1 + 247)), (1, .int (nI 3)), (2, .int o), (3, .int go), (4, .int po), (5, .int (nI c)), (6, .int (nI T))] [] (sP h M N W) (some (.int (mpnZ n s w g m p 3 c T o go po M N W).2)) (sP h (mpnE m 3 (mpnZ n s w g m p 3 c T o go po M N W)) (mpnZ n s w g m p 3 c T o go po M N W).1.2.1 (mpnZ n s w g m p 3 c T o go po M N W).1.2.2) := by
  refine gf_aload_n 0 dX12_plan_87 rfl rfl ?_
  refine gf_getI flX12_421 rfl dX12_plan_88 (gt_247 hG) ?_
  rw [show hp_i (sP h M (N, W).1 (N, W).2) 247 54 = nI m from J.2.2.1]
  refine gf_istore dX12_plan_91 (Nat.le_of_ble_eq_true rfl) ?_
  refine gf_aload_n 0 dX12_plan_93 rfl rfl ?_
  refine gf_dup dX12_plan_94 rfl ?_
  refine gf_getI flX12_421 rfl dX12_plan_95 (gt_247 hG) ?_
  rw [show hp_i (sP h M (N, W).1 (N, W).2) 247 54 = nI m from J.2.2.1]
  refine gf_iload_n 1 dX12_plan_98 rfl rfl ?_
  refine gf_iadd dX12_plan_99 ?_
  rw [show nI m + nI 3 = nI (m + 3) from nI_add m 3]
  refine gf_putI flX12_421 rfl rfl dX12_plan_100 (gt_247 hG) ⟨rfl, rfl⟩ ?_
  rw [sP_sl _ _ _ _ _ _ (by decide)]
  refine gf_iconst (-1) dX12_plan_103 rfl ?_
  refine gf_istore dX12_plan_104 (Nat.le_of_ble_eq_true rfl) ?_
  refine gf_iconst (0) dX12_plan_106 rfl ?_
  refine gf_istore dX12_plan_107 (Nat.le_of_ble_eq_true rfl) ?_
  change gf _ _ _ _ _ _ (sP h (mpn0 M m 3) N W) _ _
  refine gf_lw (l_plx3 E (by omega) (n := n) (s := s) (w := w) (g := g) (m := m) (p := p) (c := c) (T := T) o go po h hG (mpn0 M m 3) N W (plnI_0 I J hp hk) hgo hc hT (-1) ?_ p 0 (by omega)) ⟨rfl, rfl, rfl, rfl, rfl, rfl, rfl, rfl, rfl, rfl, trivial⟩
  refine gf_lw (lv' := [(0, .ref (E.1 + 247)), (1, .int (nI 3)), (2, .int o), (3, .int go), (4, .int po), (5, .int (nI c)), (6, .int (nI T)), (7, .int (nI m)), (8, .int ((mpnZ n s w g m p 3 c T o go po M N W).2))]) ?_ ⟨rfl, rfl, rfl, rfl, rfl, rfl, rfl, rfl, rfl, trivial⟩
  refine gf_aload_n 0 dX12_plan_348 rfl rfl ?_
  refine gf_iload dX12_plan_349 rfl ?_
  refine gf_putI flX12_421 rfl rfl dX12_plan_351 (gt_247 hG) ⟨rfl, rfl⟩ ?_
  rw [sP_sl _ _ _ _ _ _ (by decide)]
  refine gf_aload_n 0 dX12_plan_354 rfl rfl ?_
  refine gf_iload_n 1 dX12_plan_355 rfl rfl ?_
  refine gf_putI flX12_434 rfl rfl dX12_plan_356 (gt_247 hG) ⟨rfl, rfl⟩ ?_
  rw [sP_sl _ _ _ _ _ _ (by decide)]
  refine gf_iload dX12_plan_359 rfl ?_
  exact gf_iretE dX12_plan_361 rfl (rfl) (rfl)
abbrev mpnC (M : mM) (w g m p : Nat) (k o go po c u : Int32) : Prop := (1 ≤ k ∧ k ≤ 3) ∧ (¬ nI p < k) ∧ (0 ≤ o ∧ o ≤ 8) ∧ (1 ≤ go ∧ go ≤ 9) ∧ (1 ≤ po ∧ po ≤ 9) ∧ ((0 ≤ c ∧ c < nI (w * g)) ∧ ¬ M 34 c.toNatClampNeg = 0) ∧ (1 ≤ u ∧ u ≤ 60) ∧ nI m + k ≤ 12
theorem e_X12_plan (E : gE) {d : Nat} (hd : 9 ≤ d) {n s w g m p : Nat} (k o go po c u : Int32) (h : hp_T) (hG : gr h) (M : mM) (N : mN) (R : runI M n s w g m) (W : tW) (hp : M 0 60 = nI p ∧ p ≤ 8 ∧ ∀ i, i < p → ∃ a, a < w * g ∧ M 46 i = nI a) : ev E mX12_plan d [.ref (E.1 + 247), .int k, .int o, .int go, .int po, .int c, .int u] (sP h M N W) (some (.int (if mpnC M w g m p k o go po c u then (mpnZ n s w g m p k.toNatClampNeg c.toNatClampNeg u.toNatClampNeg o go po M N W).2 else -1))) (if mpnC M w g m p k o go po c u then sP h (mpnE m k.toNatClampNeg (mpnZ n s w g m p k.toNatClampNeg c.toNatClampNeg u.toNatClampNeg o go po M N W)) (mpnZ n s w g m p k.toNatClampNeg c.toNatClampNeg u.toNatClampNeg o go po M N W).1.2.1 (mpnZ n s w g m p k.toNatClampNeg c.toNatClampNeg u.toNatClampNeg o go po M N W).1.2.2 else sP h M N W) := by
  refine ev_of rfl (fun q => absurd q (by decide)) (Nat.le_of_ble_eq_true rfl) ?_
  have hm12 := R.2.1.2.2.2.1
  have hn : w * g ≤ 120 := Nat.le_trans (Nat.mul_le_mul R.1.2.1.1.2.1 R.1.2.1.1.2.2.2) (by decide)
  by_cases hP : mpnC M w g m p k o go po c u
  · rw [if_pos hP, if_pos hP]
    have b1 : ∀ {x : Int32} {a : Nat}, 1 ≤ x → x.toInt ≤ a → x = nI x.toNatClampNeg ∧ 1 ≤ x.toNatClampNeg ∧ x.toNatClampNeg ≤ a := fun {x} {a} h1 h2 => by
      rw [fa_le, ti_1] at h1
      refine ⟨ix_nI (by omega), ?_, ?_⟩
      · show 1 ≤ x.toInt.toNat
        omega
      · show x.toInt.toNat ≤ a
        omega
    obtain ⟨hkk, hk1, hk3⟩ := b1 (x := k) (a := 3) hP.1.1 (by have q := hP.1.2; rw [fa_le, ti_3] at q; exact q)
    have hk9 : k.toNatClampNeg = 1 ∨ k.toNatClampNeg = 2 ∨ k.toNatClampNeg = 3 := by omega
    have hk12 : m + k.toNatClampNeg ≤ 12 := by
      have q := hP.2.2.2.2.2.2.2
      rw [hkk, nI_add] at q
      rcases Nat.lt_or_ge 12 (m + k.toNatClampNeg) with w9 | w9
      · exact absurd q (nI_ge (a := 12) w9 (by omega))
      · exact w9
    obtain ⟨hg9, hg1, hg2⟩ := b1 (x := go) (a := 9) hP.2.2.2.1.1 (by have q := hP.2.2.2.1.2; rw [fa_le, ti_9] at q; exact q)
    have hgo : ∃ q, q ≤ 9 ∧ go = nI q := ⟨_, hg2, hg9⟩
    obtain ⟨hu9, hu1, hu60⟩ := b1 (x := u) (a := 60) hP.2.2.2.2.2.2.1.1 (by have q := hP.2.2.2.2.2.2.1.2; rw [fa_le, ti_60] at q; exact q)
    have hu120 : u.toNatClampNeg ≤ 120 := by omega
    have hc9 : c = nI c.toNatClampNeg ∧ c.toNatClampNeg < w * g := by
      have h1 := hP.2.2.2.2.2.1.1.1
      have h2 := hP.2.2.2.2.2.1.1.2
      rw [fa_le, ti_0] at h1
      rw [fa_lt, nI_toInt (by omega)] at h2
      exact ⟨ix_nI h1, ix_lt h1 (by omega)⟩
    refine gf_iload_n 1 dX12_plan_0 rfl rfl ?_
    refine gf_i2l dX12_plan_1 ?_
    refine gf_lconst (1) dX12_plan_2 rfl ?_
    refine gf_ldc2 (3) kcX12_437 dX12_plan_3 ?_
    refine gf_callS cmX12_isIn lkX12_325 stX12_isIn dX12_plan_6 (d1 := d - 1) (by omega) (e_X12_isIn E (by omega) k.toInt64 1 3 _) rfl rfl (Nat.le_of_ble_eq_true rfl) ?_
    refine gf_if_eq 85 dX12_plan_9 rfl (fun q => absurd q (fun q => zb_0.mp q ((isIn_l z64_1 z64_3).mpr hP.1))) (fun _ => ?_)
    refine gf_iload_n 1 dX12_plan_12 rfl rfl ?_
    refine gf_aload_n 0 dX12_plan_13 rfl rfl ?_
    refine gf_getI flX12_427 rfl dX12_plan_14 (gt_247 hG) ?_
    rw [show hp_i (sP h M N W) 247 60 = nI p from hp.1]
    refine gf_icmp_gt 85 dX12_plan_17 rfl (fun q => absurd q (hP.2.1)) (fun _ => ?_)
    refine gf_iload_n 2 dX12_plan_20 rfl rfl ?_
    refine gf_callS cmX12_isOffice lkX12_451 stX12_isOffice dX12_plan_21 (d1 := d - 1) (by omega) (e_X12_isOffice E (by omega) o _) rfl rfl (Nat.le_of_ble_eq_true rfl) ?_
    refine gf_if_eq 85 dX12_plan_24 rfl (fun q => absurd q (fun q => zb_0.mp q hP.2.2.1)) (fun _ => ?_)
    refine gf_iload_n 3 dX12_plan_27 rfl rfl ?_
    refine gf_i2l dX12_plan_28 ?_
    refine gf_lconst (1) dX12_plan_29 rfl ?_
    refine gf_ldc2 (9) kcX12_443 dX12_plan_30 ?_
    refine gf_callS cmX12_isIn lkX12_325 stX12_isIn dX12_plan_33 (d1 := d - 1) (by omega) (e_X12_isIn E (by omega) go.toInt64 1 9 _) rfl rfl (Nat.le_of_ble_eq_true rfl) ?_
    refine gf_if_eq 85 dX12_plan_36 rfl (fun q => absurd q (fun q => zb_0.mp q ((isIn_l z64_1 z64_9).mpr hP.2.2.2.1))) (fun _ => ?_)
    refine gf_iload dX12_plan_39 rfl ?_
    refine gf_i2l dX12_plan_41 ?_
    refine gf_lconst (1) dX12_plan_42 rfl ?_
    refine gf_ldc2 (9) kcX12_443 dX12_plan_43 ?_
    refine gf_callS cmX12_isIn lkX12_325 stX12_isIn dX12_plan_46 (d1 := d - 1) (by omega) (e_X12_isIn E (by omega) po.toInt64 1 9 _) rfl rfl (Nat.le_of_ble_eq_true rfl) ?_
    refine gf_if_eq 85 dX12_plan_49 rfl (fun q => absurd q (fun q => zb_0.mp q ((isIn_l z64_1 z64_9).mpr hP.2.2.2.2.1))) (fun _ => ?_)
    refine gf_aload_n 0 dX12_plan_52 rfl rfl ?_
    refine gf_iload dX12_plan_53 rfl ?_
    refine gf_callV cmX12_hasHouse lkX12_482 imX12_hasHouse seX12_hasHouse ⟨rfl, by decide⟩ dX12_plan_55 (d1 := d - 1) (by omega) (gt_247 hG) (e_X12_hasHouse E (by omega) c (sP h M N W) hG (w := w) (g := g) (show mty (hp_i (sP h M N W)) w g from R.1.2.1)) rfl rfl (Nat.le_of_ble_eq_true rfl) ?_
    refine gf_if_eq 85 dX12_plan_58 rfl (fun q => absurd q (fun q => zb_0.mp q hP.2.2.2.2.2.1)) (fun _ => ?_)
    refine gf_iload dX12_plan_61 rfl ?_
    refine gf_i2l dX12_plan_63 ?_
    refine gf_lconst (1) dX12_plan_64 rfl ?_
    refine gf_ldc2 (60) kcX12_647 dX12_plan_65 ?_
    refine gf_callS cmX12_isIn lkX12_325 stX12_isIn dX12_plan_68 (d1 := d - 1) (by omega) (e_X12_isIn E (by omega) u.toInt64 1 60 _) rfl rfl (Nat.le_of_ble_eq_true rfl) ?_
    refine gf_if_eq 85 dX12_plan_71 rfl (fun q => absurd q (fun q => zb_0.mp q ((isIn_l z64_1 z64_60).mpr hP.2.2.2.2.2.2.1))) (fun _ => ?_)
    refine gf_aload_n 0 dX12_plan_74 rfl rfl ?_
    refine gf_getI flX12_421 rfl dX12_plan_75 (gt_247 hG) ?_
    rw [show hp_i (sP h M N W) 247 54 = nI m from R.2.1.2.2.1]
    refine gf_iload_n 1 dX12_plan_78 rfl rfl ?_
    refine gf_iadd dX12_plan_79 ?_
    refine gf_bipush (12) dX12_plan_80 rfl ?_
    refine gf_icmp_le 87 dX12_plan_82 rfl (fun _ => ?_) (fun q => absurd (hP.2.2.2.2.2.2.2) q)
    rcases hk9 with q | q | q
    · rw [q]
      exact gf_lw (l_pln1 E hd (n := n) (s := s) (w := w) (g := g) (m := m) (p := p) o go po h hG M N W R.1 R.2.1 hp (by omega) hgo hc9.2 hu120) ⟨rfl, lvE (by rw [← q, ← hkk]), rfl, rfl, rfl, lvE hc9.1, lvE hu9, trivial⟩
    · rw [q]
      exact gf_lw (l_pln2 E hd (n := n) (s := s) (w := w) (g := g) (m := m) (p := p) o go po h hG M N W R.1 R.2.1 hp (by omega) hgo hc9.2 hu120) ⟨rfl, lvE (by rw [← q, ← hkk]), rfl, rfl, rfl, lvE hc9.1, lvE hu9, trivial⟩
    · rw [q]
      exact gf_lw (l_pln3 E hd (n := n) (s := s) (w := w) (g := g) (m := m) (p := p) o go po h hG M N W R.1 R.2.1 hp (by omega) hgo hc9.2 hu120) ⟨rfl, lvE (by rw [← q, ← hkk]), rfl, rfl, rfl, lvE hc9.1, lvE hu9, trivial⟩
  · rw [if_neg hP, if_neg hP]
    refine gf_iload_n 1 dX12_plan_0 rfl rfl ?_
    refine gf_i2l dX12_plan_1 ?_
    refine gf_lconst (1) dX12_plan_2 rfl ?_
    refine gf_ldc2 (3) kcX12_437 dX12_plan_3 ?_
    refine gf_callS cmX12_isIn lkX12_325 stX12_isIn dX12_plan_6 (d1 := d - 1) (by omega) (e_X12_isIn E (by omega) k.toInt64 1 3 _) rfl rfl (Nat.le_of_ble_eq_true rfl) ?_
    refine gf_if_eq 85 dX12_plan_9 rfl (fun zc9 => ?_) (fun zc9 => ?_)
    · refine gf_iconst (-1) dX12_plan_85 rfl ?_
      exact gf_iretE dX12_plan_86 rfl (rfl) (rfl)
    · refine gf_iload_n 1 dX12_plan_12 rfl rfl ?_
      refine gf_aload_n 0 dX12_plan_13 rfl rfl ?_
      refine gf_getI flX12_427 rfl dX12_plan_14 (gt_247 hG) ?_
      rw [show hp_i (sP h M N W) 247 60 = nI p from hp.1]
      refine gf_icmp_gt 85 dX12_plan_17 rfl (fun zc17 => ?_) (fun zc17 => ?_)
      · refine gf_iconst (-1) dX12_plan_85 rfl ?_
        exact gf_iretE dX12_plan_86 rfl (rfl) (rfl)
      · refine gf_iload_n 2 dX12_plan_20 rfl rfl ?_
        refine gf_callS cmX12_isOffice lkX12_451 stX12_isOffice dX12_plan_21 (d1 := d - 1) (by omega) (e_X12_isOffice E (by omega) o _) rfl rfl (Nat.le_of_ble_eq_true rfl) ?_
        refine gf_if_eq 85 dX12_plan_24 rfl (fun zc24 => ?_) (fun zc24 => ?_)
        · refine gf_iconst (-1) dX12_plan_85 rfl ?_
          exact gf_iretE dX12_plan_86 rfl (rfl) (rfl)
        · refine gf_iload_n 3 dX12_plan_27 rfl rfl ?_
          refine gf_i2l dX12_plan_28 ?_
          refine gf_lconst (1) dX12_plan_29 rfl ?_
          refine gf_ldc2 (9) kcX12_443 dX12_plan_30 ?_
          refine gf_callS cmX12_isIn lkX12_325 stX12_isIn dX12_plan_33 (d1 := d - 1) (by omega) (e_X12_isIn E (by omega) go.toInt64 1 9 _) rfl rfl (Nat.le_of_ble_eq_true rfl) ?_
          refine gf_if_eq 85 dX12_plan_36 rfl (fun zc36 => ?_) (fun zc36 => ?_)
          · refine gf_iconst (-1) dX12_plan_85 rfl ?_
            exact gf_iretE dX12_plan_86 rfl (rfl) (rfl)
          · refine gf_iload dX12_plan_39 rfl ?_
            refine gf_i2l dX12_plan_41 ?_
            refine gf_lconst (1) dX12_plan_42 rfl ?_
            refine gf_ldc2 (9) kcX12_443 dX12_plan_43 ?_
            refine gf_callS cmX12_isIn lkX12_325 stX12_isIn dX12_plan_46 (d1 := d - 1) (by omega) (e_X12_isIn E (by omega) po.toInt64 1 9 _) rfl rfl (Nat.le_of_ble_eq_true rfl) ?_
            refine gf_if_eq 85 dX12_plan_49 rfl (fun zc49 => ?_) (fun zc49 => ?_)
            · refine gf_iconst (-1) dX12_plan_85 rfl ?_
              exact gf_iretE dX12_plan_86 rfl (rfl) (rfl)
            · refine gf_aload_n 0 dX12_plan_52 rfl rfl ?_
              refine gf_iload dX12_plan_53 rfl ?_
              refine gf_callV cmX12_hasHouse lkX12_482 imX12_hasHouse seX12_hasHouse ⟨rfl, by decide⟩ dX12_plan_55 (d1 := d - 1) (by omega) (gt_247 hG) (e_X12_hasHouse E (by omega) c (sP h M N W) hG (w := w) (g := g) (show mty (hp_i (sP h M N W)) w g from R.1.2.1)) rfl rfl (Nat.le_of_ble_eq_true rfl) ?_
              refine gf_if_eq 85 dX12_plan_58 rfl (fun zc58 => ?_) (fun zc58 => ?_)
              · refine gf_iconst (-1) dX12_plan_85 rfl ?_
                exact gf_iretE dX12_plan_86 rfl (rfl) (rfl)
              · refine gf_iload dX12_plan_61 rfl ?_
                refine gf_i2l dX12_plan_63 ?_
                refine gf_lconst (1) dX12_plan_64 rfl ?_
                refine gf_ldc2 (60) kcX12_647 dX12_plan_65 ?_
                refine gf_callS cmX12_isIn lkX12_325 stX12_isIn dX12_plan_68 (d1 := d - 1) (by omega) (e_X12_isIn E (by omega) u.toInt64 1 60 _) rfl rfl (Nat.le_of_ble_eq_true rfl) ?_
                refine gf_if_eq 85 dX12_plan_71 rfl (fun zc71 => ?_) (fun zc71 => ?_)
                · refine gf_iconst (-1) dX12_plan_85 rfl ?_
                  exact gf_iretE dX12_plan_86 rfl (rfl) (rfl)
                · refine gf_aload_n 0 dX12_plan_74 rfl rfl ?_
                  refine gf_getI flX12_421 rfl dX12_plan_75 (gt_247 hG) ?_
                  rw [show hp_i (sP h M N W) 247 54 = nI m from R.2.1.2.2.1]
                  refine gf_iload_n 1 dX12_plan_78 rfl rfl ?_
                  refine gf_iadd dX12_plan_79 ?_
                  refine gf_bipush (12) dX12_plan_80 rfl ?_
                  refine gf_icmp_le 87 dX12_plan_82 rfl (fun zc82 => ?_) (fun zc82 => ?_)
                  · exact absurd ⟨(isIn_l z64_1 z64_3).mp (zb_1.mp zc9), zc17, zb_1.mp zc24, (isIn_l z64_1 z64_9).mp (zb_1.mp zc36), (isIn_l z64_1 z64_9).mp (zb_1.mp zc49), zb_1.mp zc58, (isIn_l z64_1 z64_60).mp (zb_1.mp zc71), zc82⟩ hP
                  · refine gf_iconst (-1) dX12_plan_85 rfl ?_
                    exact gf_iretE dX12_plan_86 rfl (rfl) (rfl)
