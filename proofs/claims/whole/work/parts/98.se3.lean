/-! ===== class against reference: warmth goes over ===== -/
theorem wrm_at {w g c t : Nat} {wy sg wm : Int32} {X : mM} (ht : ¬ X 1 t = 0 ∧ X 3 t = 0) : ∀ k, itN (wrmB w g c wy sg wm) X k 4 t = X 4 t + fs_m (fun way => if nbo w g c way = some t then (if nI way = wy then wm + sg else wm) else 0) k
  | 0 => (Int32.add_zero _).symm
  | k + 1 => by
    have ih := wrm_at (w := w) (g := g) (c := c) (wy := wy) (sg := sg) (wm := wm) ht k
    rw [itN_s, fs_m_s, ← Int32.add_assoc, ← ih]
    have e1 : itN (wrmB w g c wy sg wm) X k 1 = X 1 := itN_row (fun Z j => wrmB_row (by decide) Z j) X k
    have e3 : itN (wrmB w g c wy sg wm) X k 3 = X 3 := itN_row (fun Z j => wrmB_row (by decide) Z j) X k
    generalize itN (wrmB w g c wy sg wm) X k = Z at e1 e3 ⊢
    unfold wrmB
    cases hq : nbo w g c k with
    | none =>
      rw [if_neg (show ¬ (none : Option Nat) = some t from fun z => by cases z)]
      exact (Int32.add_zero _).symm
    | some x =>
      by_cases q : x = t
      · subst q
        show (if ¬ Z 1 x = 0 ∧ Z 3 x = 0 then up2 Z 4 x (Z 4 x + (if nI k = wy then wm + sg else wm)) else Z) 4 x = _
        rw [if_pos (show ¬ Z 1 x = 0 ∧ Z 3 x = 0 by rw [e1, e3]; exact ht), up2_s, if_pos rfl]
      · show (if ¬ Z 1 x = 0 ∧ Z 3 x = 0 then up2 Z 4 x (Z 4 x + (if nI k = wy then wm + sg else wm)) else Z) 4 t = _
        rw [if_neg (show ¬ some x = some t from fun z => q (Option.some.inj z)), Int32.add_zero]
        split
        · exact up2_k _ _ (fun z => q z.symm)
        · rfl
theorem wrm_no {w g c t : Nat} {wy sg wm : Int32} {X : mM} (ht : ¬ (¬ X 1 t = 0 ∧ X 3 t = 0)) : ∀ k, itN (wrmB w g c wy sg wm) X k 4 t = X 4 t
  | 0 => rfl
  | k + 1 => by
    have ih := wrm_no (w := w) (g := g) (c := c) (wy := wy) (sg := sg) (wm := wm) ht k
    rw [itN_s, ← ih]
    have e1 : itN (wrmB w g c wy sg wm) X k 1 = X 1 := itN_row (fun Z j => wrmB_row (by decide) Z j) X k
    have e3 : itN (wrmB w g c wy sg wm) X k 3 = X 3 := itN_row (fun Z j => wrmB_row (by decide) Z j) X k
    generalize itN (wrmB w g c wy sg wm) X k = Z at e1 e3 ⊢
    unfold wrmB
    cases hq : nbo w g c k with
    | none => rfl
    | some x =>
      show (if ¬ Z 1 x = 0 ∧ Z 3 x = 0 then up2 Z 4 x (Z 4 x + (if nI k = wy then wm + sg else wm)) else Z) 4 t = _
      split
      · rename_i q
        refine up2_k _ _ (fun z => ?_)
        subst z
        exact ht (by rw [← e1, ← e3]; exact q)
      · rfl
theorem sp2_r {F : mM} {w g : Nat} {wy sg : Int32} {r : Nat} (h4 : r ≠ 4) (X : mM) (c : Nat) : sp2 F w g wy sg X c r = X r := by
  unfold sp2
  split
  · exact itN_row (fun Z j => wrmB_row h4 Z j) X 8
  · rfl
theorem sp2_at {F : mM} {w g t : Nat} {wy sg : Int32} {X : mM} (ht : ¬ X 1 t = 0 ∧ X 3 t = 0) : ∀ k, itN (sp2 F w g wy sg) X k 4 t = X 4 t + fs_m (fun c => if X 3 c = 1 then fs_m (fun way => if nbo w g c way = some t then (if nI way = wy then X 5 c + hzT F c + sg else X 5 c + hzT F c) else 0) 8 else 0) k
  | 0 => (Int32.add_zero _).symm
  | k + 1 => by
    have ih := sp2_at (F := F) (w := w) (g := g) (wy := wy) (sg := sg) ht k
    rw [itN_s, fs_m_s, ← Int32.add_assoc, ← ih]
    have e1 : itN (sp2 F w g wy sg) X k 1 = X 1 := itN_row (fun Z j => sp2_r (by decide) Z j) X k
    have e3 : itN (sp2 F w g wy sg) X k 3 = X 3 := itN_row (fun Z j => sp2_r (by decide) Z j) X k
    have e5 : itN (sp2 F w g wy sg) X k 5 = X 5 := itN_row (fun Z j => sp2_r (by decide) Z j) X k
    generalize itN (sp2 F w g wy sg) X k = Z at e1 e3 e5 ⊢
    unfold sp2
    rw [e3, e5]
    by_cases q : X 3 k = 1
    · rw [if_pos q, if_pos q]
      exact wrm_at (by rw [e1, e3]; exact ht) 8
    · rw [if_neg q, if_neg q]
      exact (Int32.add_zero _).symm
theorem sp2_no {F : mM} {w g t : Nat} {wy sg : Int32} {X : mM} (ht : ¬ (¬ X 1 t = 0 ∧ X 3 t = 0)) : ∀ k, itN (sp2 F w g wy sg) X k 4 t = X 4 t
  | 0 => rfl
  | k + 1 => by
    have ih := sp2_no (F := F) (w := w) (g := g) (wy := wy) (sg := sg) ht k
    rw [itN_s, ← ih]
    have e1 : itN (sp2 F w g wy sg) X k 1 = X 1 := itN_row (fun Z j => sp2_r (by decide) Z j) X k
    have e3 : itN (sp2 F w g wy sg) X k 3 = X 3 := itN_row (fun Z j => sp2_r (by decide) Z j) X k
    generalize itN (sp2 F w g wy sg) X k = Z at e1 e3 ⊢
    unfold sp2
    split
    · exact wrm_no (by rw [e1, e3]; exact ht) 8
    · rfl
theorem sp1_r {r : Nat} (h4 : r ≠ 4) (X : mM) (c : Nat) : sp1 X c r = X r := by
  unfold sp1
  split
  · exact up2_row h4
  · rfl
theorem sp1_at {X : mM} {c : Nat} : ∀ k, itN sp1 X k 4 c = if c < k ∧ (¬ X 1 c = 0 ∧ X 3 c = 0) then (if 0 < X 4 c - 2 then X 4 c - 2 else 0) else X 4 c
  | 0 => (if_neg (fun z => absurd z.1 (Nat.not_lt_zero c))).symm
  | k + 1 => by
    have ih := sp1_at (X := X) (c := c) k
    rw [itN_s]
    have e1 : itN sp1 X k 1 = X 1 := itN_row (fun Z j => sp1_r (by decide) Z j) X k
    have e3 : itN sp1 X k 3 = X 3 := itN_row (fun Z j => sp1_r (by decide) Z j) X k
    generalize itN sp1 X k = Z at ih e1 e3 ⊢
    unfold sp1
    rw [e1, e3]
    by_cases e : c = k
    · subst e
      rw [if_neg (fun z => absurd z.1 (Nat.lt_irrefl c))] at ih
      by_cases q : ¬ X 1 c = 0 ∧ X 3 c = 0
      · rw [if_pos q, up2_s, ih]
        exact (if_pos ⟨Nat.lt_succ_self c, q⟩).symm
      · rw [if_neg q, ih, if_neg (fun z => q z.2)]
    · refine Eq.trans ?_ (ih.trans ?_)
      · split
        · exact up2_k _ _ e
        · rfl
      · by_cases q : c < k ∧ (¬ X 1 c = 0 ∧ X 3 c = 0)
        · exact (if_pos q).trans (if_pos ⟨by omega, q.2⟩).symm
        · exact (if_neg q).trans (if_neg (fun z => q ⟨by have := z.1; omega, z.2⟩)).symm
/-- the class: HEAT before those that burn are told apart -/
theorem spA {F X : mM} {w g : Nat} {wy sg : Int32} {t : Nat} (ht : t < w * g) : ((¬ X 1 t = 0 ∧ X 3 t = 0) → itN (sp2 F w g wy sg) (itN sp1 X (w * g)) (w * g) 4 t = (if 0 < X 4 t - 2 then X 4 t - 2 else 0) + fs_m (fun way => onb (nbo w g t ((way + 4) % 8)) (fun c => if X 3 c = 1 then (if nI way = wy then X 5 c + hzT F c + sg else X 5 c + hzT F c) else 0)) 8) ∧ (¬ (¬ X 1 t = 0 ∧ X 3 t = 0) → itN (sp2 F w g wy sg) (itN sp1 X (w * g)) (w * g) 4 t = X 4 t) := by
  have e1 : itN sp1 X (w * g) 1 = X 1 := itN_row (fun Z j => sp1_r (by decide) Z j) X _
  have e3 : itN sp1 X (w * g) 3 = X 3 := itN_row (fun Z j => sp1_r (by decide) Z j) X _
  have e5 : itN sp1 X (w * g) 5 = X 5 := itN_row (fun Z j => sp1_r (by decide) Z j) X _
  have e4 := sp1_at (X := X) (c := t) (w * g)
  refine ⟨fun q => ?_, fun q => ?_⟩
  · rw [sp2_at (by rw [e1, e3]; exact q), e4, if_pos ⟨ht, q⟩, e3, e5]
    congr 1
    exact fs_warm ht (fun c => X 3 c = 1) (fun c way => if nI way = wy then X 5 c + hzT F c + sg else X 5 c + hzT F c)
  · rw [sp2_no (by rw [e1, e3]; exact q), e4, if_neg (fun z => q z.2)]
/-! the reference -/
def trM (M : mM) (w g t wd way : Nat) : Int32 := onb (nbo w g t ((way + 4) % 8)) (fun c => if M 53 c = 1 then M 55 c + M 36 (M 32 c).toNatClampNeg + (if ¬ wd = 0 ∧ M 37 wd = nI way then M 38 wd else 0) else 0)
theorem trM_of {M Z : mM} {w g t wd : Nat} (e : ∀ r, r = 53 ∨ r = 55 ∨ r = 36 ∨ r = 32 ∨ r = 37 ∨ r = 38 → Z r = M r) : trM Z w g t wd = trM M w g t wd := by
  funext way
  unfold trM
  rw [e 53 (by decide), e 55 (by decide), e 36 (by decide), e 32 (by decide), e 37 (by decide), e 38 (by decide)]
theorem spw_at {w g t wd : Nat} {z : mM} (hn : w * g ≤ 120) (hwd : wd ≤ 120) (h34 : ∀ c, c < w * g → z 53 c = 1 → ¬ z 34 c = 0) : ∀ k, itN (spwB w g t wd) z k 54 t = z 54 t + fs_m (trM z w g t wd) k
  | 0 => (Int32.add_zero _).symm
  | k + 1 => by
    have ih := spw_at (t := t) hn hwd h34 k
    rw [itN_s, fs_m_s, ← Int32.add_assoc, ← ih]
    have hr : ∀ r, r ≠ 54 → itN (spwB w g t wd) z k r = z r := fun r hr => spw_row z k hr
    rw [← trM_of (M := z) (Z := itN (spwB w g t wd) z k) (fun r h => hr r (by omega))]
    have h34 : ∀ c, c < w * g → itN (spwB w g t wd) z k 53 c = 1 → ¬ itN (spwB w g t wd) z k 34 c = 0 := fun c hc => by
      rw [hr 53 (by decide), hr 34 (by decide)]
      exact h34 c hc
    generalize itN (spwB w g t wd) z k = Z at h34 ⊢
    unfold spwB trM
    cases hq : nbo w g t ((k + 4) % 8) with
    | none =>
      rw [if_pos (show enc none = -1 from rfl)]
      exact (Int32.add_zero _).symm
    | some c =>
      have hc := nbo_lt hq
      rw [show enc (some c) = nI c from rfl, if_neg (nI_nm1 (by omega)), nI_clamp (by omega)]
      dsimp only [onb]
      by_cases q3 : Z 53 c = 1
      · rw [if_neg (h34 c hc q3), if_pos q3, if_pos q3]
        by_cases qw : wd = 0
        · subst qw
          rw [if_pos (show nI 0 ≤ 0 from by decide), up2_s, if_neg (fun y => y.1 rfl)]
        · rw [if_neg (show ¬ nI wd ≤ 0 by rw [fa_le, nI_toInt (by omega), ti_0]; omega)]
          by_cases q7 : Z 37 wd = nI k
          · rw [if_pos q7, up2_s, if_pos ⟨qw, q7⟩]
          · rw [if_neg q7, up2_s, if_neg (fun y => q7 y.2)]
      · rw [if_neg q3, if_neg q3, Int32.add_zero]
        split <;> rfl
theorem spwB_col {w g c wd : Nat} (z : mM) (j : Nat) {r k : Nat} (h : k ≠ c) : spwB w g c wd z j r k = z r k := by
  unfold spwB
  repeat' split
  all_goals first | rfl | exact up2_k _ _ h
theorem spw_col {w g c wd : Nat} (z : mM) {r k : Nat} (h : k ≠ c) : ∀ n, itN (spwB w g c wd) z n r k = z r k
  | 0 => rfl
  | n + 1 => (spwB_col _ n h).trans (spw_col z h n)
/-- the new HEAT -/
def hH (M : mM) (w g wd t : Nat) : Int32 := (if 2 ≤ M 54 t then M 54 t - 2 else 0) + fs_m (trM M w g t wd) 8
theorem spc_no {w g wd c : Nat} {z : mM} (h : ¬ (¬ z 34 c = 0 ∧ z 53 c = 0)) : spcB w g wd z c = up2 z 58 c 0 := by
  unfold spcB
  rw [show up2 z 58 c 0 34 = z 34 from up2_row (by decide), show up2 z 58 c 0 53 = z 53 from up2_row (by decide)]
  by_cases q : z 34 c = 0
  · rw [if_pos q]
  · rw [if_neg q, if_neg (fun y => h ⟨q, y⟩)]
theorem spc_yes {w g wd c : Nat} {z : mM} (hn : w * g ≤ 120) (hwd : wd ≤ 120) (h34 : ∀ c, c < w * g → z 53 c = 1 → ¬ z 34 c = 0) (h : ¬ z 34 c = 0 ∧ z 53 c = 0) : spcB w g wd z c 54 c = hH z w g wd c ∧ spcB w g wd z c 58 c = (if hH z w g wd c < rsW (z 31) c then 0 else 1) ∧ ∀ r k, k ≠ c → spcB w g wd z c r k = z r k := by
  have go : ∀ h0 : Int32, h0 = (if 2 ≤ z 54 c then z 54 c - 2 else 0) → itN (spwB w g c wd) (up2 (up2 z 58 c 0) 54 c h0) 8 54 c = hH z w g wd c ∧ itN (spwB w g c wd) (up2 (up2 z 58 c 0) 54 c h0) 8 31 = z 31 ∧ ∀ r k, k ≠ c → itN (spwB w g c wd) (up2 (up2 z 58 c 0) 54 c h0) 8 r k = z r k := fun h0 e0 => by
    have hr : ∀ r, r ≠ 54 → r ≠ 58 → up2 (up2 z 58 c 0) 54 c h0 r = z r := fun r h1 h2 => (up2_row h1).trans (up2_row h2)
    refine ⟨?_, ?_, fun r k hk => ?_⟩
    · rw [spw_at hn hwd (fun k hk => by rw [hr 53 (by decide) (by decide), hr 34 (by decide) (by decide)]; exact h34 k hk), up2_s, trM_of (M := z) (fun r h9 => hr r (by omega) (by omega)), e0]
      rfl
    · rw [spw_row _ _ (by decide)]
      exact hr 31 (by decide) (by decide)
    · rw [spw_col _ hk, up2_k _ _ hk, up2_k _ _ hk]
  unfold spcB
  rw [show up2 z 58 c 0 34 = z 34 from up2_row (by decide), show up2 z 58 c 0 53 = z 53 from up2_row (by decide), show up2 z 58 c 0 54 = z 54 from up2_row (by decide), if_neg h.1, if_pos h.2]
  by_cases q : 2 ≤ z 54 c
  · rw [if_pos q]
    obtain ⟨g1, g2, g3⟩ := go (z 54 c - 2) (if_pos q).symm
    generalize itN (spwB w g c wd) (up2 (up2 z 58 c 0) 54 c (z 54 c - 2)) 8 = Z at g1 g2 g3 ⊢
    rw [g1, g2, show (gf_sc 2).getD (z 31 c).toNatClampNeg 0 = rsW (z 31) c from rfl]
    by_cases q2 : hH z w g wd c < rsW (z 31) c
    · rw [if_pos q2, if_pos q2]
      exact ⟨(up2_a _ _ (by decide)).trans g1, up2_s _ _ _ _, fun r k hk => (up2_k _ _ hk).trans (g3 r k hk)⟩
    · rw [if_neg q2, if_neg q2]
      exact ⟨(up2_a _ _ (by decide)).trans g1, up2_s _ _ _ _, fun r k hk => (up2_k _ _ hk).trans (g3 r k hk)⟩
  · rw [if_neg q]
    obtain ⟨g1, g2, g3⟩ := go 0 (if_neg q).symm
    generalize itN (spwB w g c wd) (up2 (up2 z 58 c 0) 54 c 0) 8 = Z at g1 g2 g3 ⊢
    rw [g1, g2, show (gf_sc 2).getD (z 31 c).toNatClampNeg 0 = rsW (z 31) c from rfl]
    by_cases q2 : hH z w g wd c < rsW (z 31) c
    · rw [if_pos q2, if_pos q2]
      exact ⟨(up2_a _ _ (by decide)).trans g1, up2_s _ _ _ _, fun r k hk => (up2_k _ _ hk).trans (g3 r k hk)⟩
    · rw [if_neg q2, if_neg q2]
      exact ⟨(up2_a _ _ (by decide)).trans g1, up2_s _ _ _ _, fun r k hk => (up2_k _ _ hk).trans (g3 r k hk)⟩
theorem spB {w g wd : Nat} {M : mM} (hn : w * g ≤ 120) (hwd : wd ≤ 120) (h34 : ∀ c, c < w * g → M 53 c = 1 → ¬ M 34 c = 0) : ∀ k, k ≤ w * g → ∀ c, c < w * g → (c < k → ((¬ M 34 c = 0 ∧ M 53 c = 0) → itN (spcB w g wd) M k 54 c = hH M w g wd c ∧ itN (spcB w g wd) M k 58 c = (if hH M w g wd c < rsW (M 31) c then 0 else 1)) ∧ (¬ (¬ M 34 c = 0 ∧ M 53 c = 0) → itN (spcB w g wd) M k 54 c = M 54 c ∧ itN (spcB w g wd) M k 58 c = 0)) ∧ (k ≤ c → itN (spcB w g wd) M k 54 c = M 54 c) := by
  intro k
  induction k with
  | zero => exact fun _ c _ => ⟨fun z => absurd z (Nat.not_lt_zero c), fun _ => rfl⟩
  | succ k ih =>
    intro hk
    replace ih := ih (by omega)
    have hr : ∀ r, r ≠ 54 → r ≠ 58 → itN (spcB w g wd) M k r = M r := fun r h1 h2 => itN_row (fun z j => spcB_row z j h1 h2) M k
    rw [itN_s]
    generalize itN (spcB w g wd) M k = Z at ih hr ⊢
    have h34' : ∀ c, c < w * g → Z 53 c = 1 → ¬ Z 34 c = 0 := fun c hc => by
      rw [hr 53 (by decide) (by decide), hr 34 (by decide) (by decide)]
      exact h34 c hc
    have hHe : hH Z w g wd k = hH M w g wd k := by
      unfold hH
      rw [(ih k (by omega)).2 (Nat.le_refl k), trM_of (M := M) (fun r h9 => hr r (by omega) (by omega))]
    intro c hc
    obtain ⟨j1, j2⟩ := ih c hc
    by_cases q : ¬ Z 34 k = 0 ∧ Z 53 k = 0
    · obtain ⟨s1, s2, s3⟩ := spc_yes hn hwd h34' q
      rw [hHe, hr 31 (by decide) (by decide)] at s2
      rw [hHe] at s1
      refine ⟨fun h1 => ?_, fun h1 => ?_⟩
      · by_cases e : c = k
        · subst e
          rw [hr 34 (by decide) (by decide), hr 53 (by decide) (by decide)] at q
          exact ⟨fun _ => ⟨s1, s2⟩, fun z => absurd q z⟩
        · rw [s3 54 c e, s3 58 c e]
          exact j1 (by omega)
      · rw [s3 54 c (by omega)]
        exact j2 (by omega)
    · rw [spc_no q]
      refine ⟨fun h1 => ?_, fun h1 => ?_⟩
      · by_cases e : c = k
        · subst e
          rw [hr 34 (by decide) (by decide), hr 53 (by decide) (by decide)] at q
          exact ⟨fun z => absurd z q, fun _ => ⟨(up2_a _ _ (by decide)).trans (j2 (Nat.le_refl c)), up2_s _ _ _ _⟩⟩
        · rw [up2_k _ _ e, up2_k _ _ e]
          exact j1 (by omega)
      · rw [up2_k _ _ (by omega)]
        exact j2 (by omega)
