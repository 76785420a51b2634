/-! ===== the calls: policies, what is known, the latest fire ===== -/
theorem st_i (H : hp_T) (a k : Nat) (v : Int32) : hp_i (hp_setI H a k v) = up2 (hp_i H) a k v := rfl
theorem st_o (H : hp_T) (a k : Nat) (v : Int32) : (hp_tag (hp_setI H a k v) = hp_tag H ∧ hp_len (hp_setI H a k v) = hp_len H) ∧ hp_l (hp_setI H a k v) = hp_l H ∧ (hp_n (hp_setI H a k v) = hp_n H ∧ hp_s (hp_setI H a k v) = hp_s H) ∧ hp_r (hp_setI H a k v) = hp_r H := ⟨⟨rfl, rfl⟩, rfl, ⟨rfl, rfl⟩, rfl⟩
theorem sr_i (H : hp_T) (a k : Nat) (v : Option Nat) : hp_i (hp_setR H a k v) = hp_i H := rfl
theorem sr_o (H : hp_T) (a k : Nat) (v : Option Nat) : (hp_tag (hp_setR H a k v) = hp_tag H ∧ hp_len (hp_setR H a k v) = hp_len H) ∧ hp_l (hp_setR H a k v) = hp_l H ∧ (hp_n (hp_setR H a k v) = hp_n H ∧ hp_s (hp_setR H a k v) = hp_s H) ∧ hp_r (hp_setR H a k v) = up2 (hp_r H) a k v := ⟨⟨rfl, rfl⟩, rfl, ⟨rfl, rfl⟩, rfl⟩
theorem mac_row {M : mM} {n : Nat} {k o c v : Int32} {r : Nat} (h0 : r ≠ 0) (h : ¬ (47 ≤ r ∧ r ≤ 51)) : macT M n k o c v r = M r := by
  unfold macT
  rw [up2_row (show r ≠ 51 by omega), up2_row (show r ≠ 50 by omega), up2_row (show r ≠ 49 by omega), up2_row (show r ≠ 48 by omega), up2_row (show r ≠ 47 by omega), up2_row h0]
theorem cal_policy (E : gE) {H : hp_T} (R : rel9 H) (c o v : Int32) : cal9 E mX11_policy mX12_policy [.int c, .int o, .int v] H := by
  obtain ⟨M, N, w, g, m, n, p, L, G, I, P⟩ := R
  have hC := P.1.1
  have hcy := cty_n hC.1
  have e12 : hp_i H 1 2 = nI (w * g) := hC.1.2.2.2.1
  obtain ⟨r6, r7⟩ := P.2.2.1
  obtain ⟨⟨n1, n2, n3⟩, -⟩ := r6
  have k1 := e_X11_policy E (d := 100) (by decide) c o v H G hC.1 n1 n3
  rw [e12, hC.2.2.1, n1] at k1
  have hn : (¬ 200 ≤ nI n) ↔ n < 200 := by
    rw [fa_le, nI_toInt (by omega), show (200 : Int32).toInt = 200 from by decide]
    omega
  by_cases q : (((0 ≤ c ∧ c < nI (w * g)) ∧ ¬ M 34 c.toNatClampNeg = 0) ∧ (0 ≤ o ∧ o ≤ 8) ∧ (1 ≤ v ∧ v ≤ 99999) ∧ n < 200)
  · have q1 : (((0 ≤ c ∧ c < nI (w * g)) ∧ ¬ M 34 c.toNatClampNeg = 0) ∧ (0 ≤ o ∧ o ≤ 8) ∧ (1 ≤ v ∧ v ≤ 99999) ∧ (¬ 200 ≤ nI n)) := ⟨q.1, q.2.1, q.2.2.1, hn.mpr q.2.2.2⟩
    rw [if_pos q1, if_pos q1] at k1
    obtain ⟨k, hk, ek⟩ := cell_n hcy.2 q.1.1
    obtain ⟨a, ha, ea⟩ := int_n (b := 8) (K := 8) rfl (by decide) q.2.1
    obtain ⟨b, hb, eb, hb1⟩ := isM_n (t := v) (k := 99999) (by decide) q.2.2.1
    obtain ⟨H1, eH⟩ : ∃ H1, H1 = hp_setI (hp_setI (hp_setI (hp_setR (hp_setI (hp_setI (hp_setI H 158 0 (nI (n + 1))) 163 (n + 1) 2) 164 (n + 1) 0) 162 (n + 1) none) 160 (n + 1) c) 159 (n + 1) o) 161 (n + 1) v := ⟨_, rfl⟩
    rw [← eH] at k1
    have G1 : gr H1 := by
      rw [eH]
      exact gr_r162 (h := hp_setI (hp_setI (hp_setI H 158 0 (nI (n + 1))) 163 (n + 1) 2) 164 (n + 1) 0) G
    have eF : hp_i H1 = up2 (up2 (up2 (up2 (up2 (up2 (hp_i H) 158 0 (nI (n + 1))) 163 (n + 1) 2) 164 (n + 1) 0) 160 (n + 1) c) 159 (n + 1) o) 161 (n + 1) v := by
      rw [eH, st_i, st_i, st_i, sr_i, st_i, st_i, st_i]
    have eT : (hp_tag H1 = hp_tag H ∧ hp_len H1 = hp_len H) ∧ hp_l H1 = hp_l H ∧ (hp_n H1 = hp_n H ∧ hp_s H1 = hp_s H) ∧ hp_r H1 = up2 (hp_r H) 162 (n + 1) none := by
      rw [eH]
      simp only [(st_o _ _ _ _).1.1, (st_o _ _ _ _).1.2, (st_o _ _ _ _).2.1, (st_o _ _ _ _).2.2.1.1, (st_o _ _ _ _).2.2.1.2, (st_o _ _ _ _).2.2.2, (sr_o _ _ _ _).1.1, (sr_o _ _ _ _).1.2, (sr_o _ _ _ _).2.1, (sr_o _ _ _ _).2.2.1.1, (sr_o _ _ _ _).2.2.1.2, (sr_o _ _ _ _).2.2.2, and_self]
    clear eH
    have hrow : ∀ x, ¬ (158 ≤ x ∧ x < 165) → hp_i H1 x = hp_i H x := fun x hx => by
      rw [eF, up2_row (show x ≠ 161 by omega), up2_row (show x ≠ 159 by omega), up2_row (show x ≠ 160 by omega), up2_row (show x ≠ 164 by omega), up2_row (show x ≠ 163 by omega), up2_row (show x ≠ 158 by omega)]
    have hr162 : ∀ a, a ≤ n → hp_r H1 162 a = hp_r H 162 a := fun a ha => by
      rw [eT.2.2.2]
      exact up2_k (hp_r H) none (show a ≠ n + 1 by omega)
    have hsam : samT H H1 := fun a ha => ⟨hrow a (by omega), by rw [eT.2.2.2]; exact hp_upne (show a ≠ 162 by omega), by rw [eT.1.1], by rw [eT.1.2]⟩
    have I1 : isM9 H1 M N := isM_fr (fun x h1 _ => hrow x (by omega)) (fun _ _ _ => by rw [eT.2.1]) I
    have k2 := e_X12_policy E (d := 100) (by decide) c o v H1 G1 M N hC.2.1 n2 n3
    rw [if_pos q, if_pos q] at k2
    subst ek
    subst ea
    subst eb
    have r6' := rA_policy q.2.2.2 ha hk hb P.2.2.1.1
    rw [← eF] at r6'
    refine cal_1 k1 I1 k2 G1 (Pc_A (H := H) r6' (fun x h1 h2 h3 => ?_) (fun x hx _ => hrow x hx) (fun r h0 h1 h2 => ?_) (fun k h62 _ => macT_0 h62) P) (by rw [eT.2.2.1.1]; exact Nat.le_add_right _ _) (by rw [eT.2.2.1.2]; exact Nat.le_add_right _ _)
    · by_cases e : x = n + 1
      · rw [e, mac_new.1] at h3
        exact absurd h3 (by decide)
      · rw [mac_lo (by decide) (by omega)] at h3
        have B := rT_hfr hr162 hsam r7 (Nat.le_of_eq eT.2.2.1.1.symm) x h1 (by omega) h3
        obtain ⟨b1, j, b2, b3, b4, b5, b6, ⟨b7, b8, b9⟩, b10⟩ := B
        have hm : ∀ r, 25 ≤ r → r ≤ 29 → macT M n 2 (nI a) (nI k) (nI b) r = M r := fun r h1 h2 => mac_row (by omega) (by omega)
        exact ⟨b1, j, b2, b3, b4, b5, b6, ⟨b7, by rw [hm 25 (by decide) (by decide)]; exact b8, fun q hq => stmR_fr (fun r hr => hm r (by omega) (by omega)) (b9 q hq)⟩, b10⟩
    · exact mac_row h0 h2
  · have q1 : ¬ (((0 ≤ c ∧ c < nI (w * g)) ∧ ¬ M 34 c.toNatClampNeg = 0) ∧ (0 ≤ o ∧ o ≤ 8) ∧ (1 ≤ v ∧ v ≤ 99999) ∧ (¬ 200 ≤ nI n)) := fun z => q ⟨z.1, z.2.1, z.2.2.1, hn.mp z.2.2.2⟩
    rw [if_neg q1, if_neg q1] at k1
    have k2 := e_X12_policy E (d := 100) (by decide) c o v H G M N hC.2.1 n2 n3
    rw [if_neg q, if_neg q, isM_hm I] at k2
    exact cal_0 ⟨M, N, w, g, m, n, p, L, G, I, P⟩ k1 k2
theorem cal_annul (E : gE) {H : hp_T} (R : rel9 H) (t : Int32) : cal9 E mX11_annul mX12_annul [.int t] H := by
  obtain ⟨M, N, w, g, m, n, p, L, G, I, P⟩ := R
  obtain ⟨r6, r7⟩ := P.2.2.1
  have n1 := r6.1.1
  have n2 := r6.1.2.1
  have n3 := r6.1.2.2
  have k1 := e_X11_annul E (d := 100) (by decide) t H G n1 n3
  have hvo := rA_void (k := t) r6
  by_cases q : manC M n t
  · rw [if_pos (hvo.mpr q), if_pos (hvo.mpr q)] at k1
    obtain ⟨k, hk, ek, hk1⟩ := isM_n (t := t) (k := n) (by omega) q.1
    subst ek
    rw [nI_clamp (by omega)] at k1
    obtain ⟨H1, eH⟩ : ∃ H1, H1 = hp_setI (hp_setR (hp_setI (hp_setI (hp_setI H 158 0 (nI (n + 1))) 163 (n + 1) 3) 164 (n + 1) 0) 162 (n + 1) none) 164 k (nI (n + 1)) := ⟨_, rfl⟩
    rw [← eH] at k1
    have G1 : gr H1 := by
      rw [eH]
      exact gr_r162 (h := hp_setI (hp_setI (hp_setI H 158 0 (nI (n + 1))) 163 (n + 1) 3) 164 (n + 1) 0) G
    have eF : hp_i H1 = up2 (up2 (up2 (up2 (hp_i H) 158 0 (nI (n + 1))) 163 (n + 1) 3) 164 (n + 1) 0) 164 k (nI (n + 1)) := by
      rw [eH]
      rfl
    have eT : (hp_tag H1 = hp_tag H ∧ hp_len H1 = hp_len H) ∧ hp_l H1 = hp_l H ∧ (hp_n H1 = hp_n H ∧ hp_s H1 = hp_s H) ∧ hp_r H1 = up2 (hp_r H) 162 (n + 1) none := by
      rw [eH]
      simp only [(st_o _ _ _ _).1.1, (st_o _ _ _ _).1.2, (st_o _ _ _ _).2.1, (st_o _ _ _ _).2.2.1.1, (st_o _ _ _ _).2.2.1.2, (st_o _ _ _ _).2.2.2, (sr_o _ _ _ _).1.1, (sr_o _ _ _ _).1.2, (sr_o _ _ _ _).2.1, (sr_o _ _ _ _).2.2.1.1, (sr_o _ _ _ _).2.2.1.2, (sr_o _ _ _ _).2.2.2, and_self]
    clear eH
    have hrow : ∀ x, ¬ (158 ≤ x ∧ x < 165) → hp_i H1 x = hp_i H x := fun x hx => by
      rw [eF, up2_row (show x ≠ 164 by omega), up2_row (show x ≠ 164 by omega), up2_row (show x ≠ 163 by omega), up2_row (show x ≠ 158 by omega)]
    have hr162 : ∀ a, a ≤ n → hp_r H1 162 a = hp_r H 162 a := fun a ha => by
      rw [eT.2.2.2]
      exact up2_k (hp_r H) none (show a ≠ n + 1 by omega)
    have hsam : samT H H1 := fun a ha => ⟨hrow a (by omega), by rw [eT.2.2.2]; exact hp_upne (show a ≠ 162 by omega), by rw [eT.1.1], by rw [eT.1.2]⟩
    have I1 : isM9 H1 M N := isM_fr (fun x h1 _ => hrow x (by omega)) (fun _ _ _ => by rw [eT.2.1]) I
    have k2 := e_X12_annul E (d := 100) (by decide) (nI k) H1 G1 M N n2 n3
    rw [if_pos q, if_pos q, nI_clamp (show k < 2147483648 by omega)] at k2
    have hM : ∀ r, r ≠ 0 → ¬ (47 ≤ r ∧ r ≤ 51) → macT (up2 M 51 k (nI (n + 1))) n 3 0 0 (nI k) r = M r := fun r h0 h1 => (mac_row h0 h1).trans (up2_row (by omega))
    have r6' := rA_annul q.2.2.2 ⟨hk1, hk⟩ r6
    rw [← eF] at r6'
    refine cal_1 k1 I1 k2 G1 (Pc_A (H := H) r6' (fun x h1 h2 h3 => ?_) (fun x hx _ => hrow x hx) (fun r h0 _ h2 => hM r h0 h2) (fun k h62 _ => (macT_0 h62).trans (congrFun (up2_row (by decide)) k)) P) (by rw [eT.2.2.1.1]; exact Nat.le_add_right _ _) (by rw [eT.2.2.1.2]; exact Nat.le_add_right _ _)
    by_cases e : x = n + 1
    · rw [e, mac_new.1] at h3
      exact absurd h3 (by decide)
    · rw [mac_lo (by decide) (by omega), up2_row (show 47 ≠ 51 by decide)] at h3
      have B := rT_hfr hr162 hsam r7 (Nat.le_of_eq eT.2.2.1.1.symm) x h1 (by omega) h3
      obtain ⟨b1, j, b2, b3, b4, b5, b6, ⟨b7, b8, b9⟩, b10⟩ := B
      exact ⟨b1, j, b2, b3, b4, b5, b6, ⟨b7, by rw [hM 25 (by decide) (by decide)]; exact b8, fun q hq => stmR_fr (fun r hr => hM r (by omega) (by omega)) (b9 q hq)⟩, b10⟩
  · rw [if_neg (fun z => q (hvo.mp z)), if_neg (fun z => q (hvo.mp z))] at k1
    have k2 := e_X12_annul E (d := 100) (by decide) t H G M N n2 n3
    rw [if_neg q, if_neg q, isM_hm I] at k2
    exact cal_0 ⟨M, N, w, g, m, n, p, L, G, I, P⟩ k1 k2
/-! reads of the latest fire -/
theorem cal_lost (E : gE) {H : hp_T} (R : rel9 H) : cal9 E mX11_lost mX12_lost [] H := by
  obtain ⟨M, N, w, g, m, n, p, L, G, I, P⟩ := R
  obtain ⟨⟨l1, -⟩, l2⟩ := P.2.2.2.2
  have k1 := e_X11_lost E (d := 100) (by decide) H G
  have k2 := e_X12_lost E (d := 100) (by decide) H G
  rw [show hp_i H 247 = M 0 from (I 0 (by decide)).1] at k2
  rw [l1] at k1
  by_cases q : M 0 90 = 0
  · rw [if_pos q] at k1 k2
    exact cal_0 ⟨M, N, w, g, m, n, p, L, G, I, P⟩ k1 k2
  · rw [if_neg q] at k1 k2
    rw [(l2 q).2.1] at k1
    exact cal_0 ⟨M, N, w, g, m, n, p, L, G, I, P⟩ k1 k2
theorem cal_settled (E : gE) {H : hp_T} (R : rel9 H) (t : Int32) : cal9 E mX11_settled mX12_settled [.int t] H := by
  obtain ⟨M, N, w, g, m, n, p, L, G, I, P⟩ := R
  obtain ⟨⟨l1, -⟩, l2⟩ := P.2.2.2.2
  have k1 := e_X11_settled E (d := 100) (by decide) t H G
  have k2 := e_X12_settled E (d := 100) (by decide) t H G
  rw [show hp_i H 247 = M 0 from (I 0 (by decide)).1, show hp_i H 328 = M 81 from (I 81 (by decide)).1] at k2
  rw [l1] at k1
  by_cases q : ¬ M 0 90 = 0 ∧ (0 ≤ t ∧ t ≤ 8)
  · rw [if_pos q] at k1 k2
    obtain ⟨k, hk, ek⟩ := int_n (b := 8) (K := 8) rfl (by decide) q.2
    subst ek
    rw [nI_clamp (by omega)] at k1 k2
    rw [(l2 q.1).2.2.2.2.2 k (by omega)] at k1
    exact cal_0 ⟨M, N, w, g, m, n, p, L, G, I, P⟩ k1 k2
  · rw [if_neg q] at k1 k2
    exact cal_0 ⟨M, N, w, g, m, n, p, L, G, I, P⟩ k1 k2
theorem cal_claim (E : gE) {H : hp_T} (R : rel9 H) (t u : Int32) : cal9 E mX11_claim mX12_claim [.int t, .int u] H := by
  obtain ⟨M, N, w, g, m, n, p, L, G, I, P⟩ := R
  obtain ⟨⟨l1, -⟩, l2⟩ := P.2.2.2.2
  have k1 := e_X11_claim E (d := 100) (by decide) t u H G
  have k2 := e_X12_claim E (d := 100) (by decide) t u H G M N
  rw [isM_hm I] at k2
  by_cases q : ¬ M 0 90 = 0 ∧ (1 ≤ t ∧ t ≤ 200)
  · obtain ⟨k, hk, ek, hk1⟩ := isM_n (t := t) (k := 200) (by decide) q.2
    subst ek
    have hk201 : k < 201 := by omega
    obtain ⟨c1, c2, c3⟩ := (l2 q.1).2.2.2.2.1 k hk201
    have e : (if isCl H (nI k) then claV H (nI k).toNatClampNeg u else -1) = (if mclC M (nI k) then mclV M (nI k).toNatClampNeg u else -1) := by
      by_cases y : M 78 k = 0
      · rw [if_neg (show ¬ isCl H (nI k) from fun z => z.2 (by rw [nI_clamp (by omega), c1]; exact y)), if_neg (show ¬ mclC M (nI k) from fun z => z.2 (by rw [nI_clamp (by omega)]; exact y))]
      · rw [if_pos (show isCl H (nI k) from ⟨⟨by rw [l1]; exact q.1, q.2⟩, by rw [nI_clamp (by omega), c1]; exact y⟩), if_pos (show mclC M (nI k) from ⟨q, by rw [nI_clamp (by omega)]; exact y⟩)]
        unfold claV mclV
        rw [nI_clamp (by omega), c2, c3]
    rw [e] at k1
    exact cal_0 ⟨M, N, w, g, m, n, p, L, G, I, P⟩ k1 k2
  · rw [if_neg (show ¬ isCl H t from fun z => q ⟨by rw [← l1]; exact z.1.1, z.1.2⟩)] at k1
    rw [if_neg (show ¬ mclC M t from fun z => q z.1)] at k2
    exact cal_0 ⟨M, N, w, g, m, n, p, L, G, I, P⟩ k1 k2
theorem cal_came (E : gE) {H : hp_T} (R : rel9 H) (t u : Int32) : cal9 E mX11_came mX12_came [.int t, .int u] H := by
  obtain ⟨M, N, w, g, m, n, p, L, G, I, P⟩ := R
  obtain ⟨⟨l1, -, ⟨me, l3, l4, l5⟩, -⟩, l2⟩ := P.2.2.2.2
  have k1 := e_X11_came E (d := 100) (by decide) t u H G l4 l3
  have k2 := e_X12_came E (d := 100) (by decide) t u H G M N l5 l3
  rw [isM_hm I] at k2
  unfold mcaV at k2
  rw [l1, l4] at k1
  by_cases q : ¬ M 0 90 = 0 ∧ (0 ≤ t ∧ t ≤ nI me - 1)
  · rw [if_pos q] at k1
    rw [if_pos (show mcaC M me t from q)] at k2
    have hme : 1 ≤ me := by
      rcases Nat.eq_zero_or_pos me with z | z
      · subst z
        have h1 := q.2.1
        have h2 := q.2.2
        rw [fa_le, ti_0] at h1
        rw [fa_le, show (nI 0 - 1 : Int32).toInt = -1 from by decide] at h2
        omega
      · exact z
    obtain ⟨k, hk, ek⟩ := cell_n (by omega) ((lt_le1 (c := t) hme (by omega)).mp q.2)
    subst ek
    rw [nI_clamp (by omega)] at k1 k2
    obtain ⟨c1, c2, c3⟩ := (l2 q.1).2.2.2.1 me l5 l3 k hk
    rw [c1, c2, c3] at k1
    exact cal_0 ⟨M, N, w, g, m, n, p, L, G, I, P⟩ k1 k2
  · rw [if_neg q] at k1
    rw [if_neg (show ¬ mcaC M me t from q)] at k2
    exact cal_0 ⟨M, N, w, g, m, n, p, L, G, I, P⟩ k1 k2
theorem cal_burnt (E : gE) {H : hp_T} (R : rel9 H) (t u : Int32) : cal9 E mX11_burnt mX12_burnt [.int t, .int u] H := by
  obtain ⟨M, N, w, g, m, n, p, L, G, I, P⟩ := R
  have hC := P.1.1
  have hcy := cty_n hC.1
  have e12 : hp_i H 1 2 = nI (w * g) := hC.1.2.2.2.1
  obtain ⟨⟨l1, ⟨mc, l3, l4⟩, -⟩, l2⟩ := P.2.2.2.2
  have k1 := e_X11_burnt E (d := 100) (by decide) t u H G hC.1
  have k2 := e_X12_burnt E (d := 100) (by decide) t u H G M N l4 l3
  rw [isM_hm I] at k2
  unfold mbuV at k2
  rw [l1, e12] at k1
  by_cases q : ¬ M 0 90 = 0 ∧ (0 ≤ t ∧ t < nI (w * g))
  · have emc : mc = w * g := nI_inj (by omega) (by omega) (l4.symm.trans (l2 q.1).1)
    subst emc
    have hle := lt_le1 (c := t) hcy.1 (by omega)
    obtain ⟨k, hk, ek⟩ := cell_n hcy.2 q.2
    subst ek
    rw [nI_clamp (by omega)] at k1
    obtain ⟨c1, c2, c3, c4, c5, c6, c7⟩ := (l2 q.1).2.2.1 k hk
    rw [c1, c2, c3, c4, c5, c6, c7] at k1
    by_cases y : M 68 k = 0
    · rw [if_neg (fun z => z.2.2 y)] at k1
      rw [if_neg (show ¬ mbuC M (w * g) (nI k) from fun z => z.2 (by rw [nI_clamp (by omega)]; exact y))] at k2
      exact cal_0 ⟨M, N, w, g, m, n, p, L, G, I, P⟩ k1 k2
    · rw [if_pos ⟨q.1, q.2, y⟩] at k1
      rw [if_pos (show mbuC M (w * g) (nI k) from ⟨⟨q.1, hle.mpr q.2⟩, by rw [nI_clamp (by omega)]; exact y⟩), nI_clamp (by omega)] at k2
      exact cal_0 ⟨M, N, w, g, m, n, p, L, G, I, P⟩ k1 k2
  · rw [if_neg (fun z => q ⟨z.1, z.2.1⟩)] at k1
    have hno : ¬ mbuC M mc t := fun z => by
      have emc : mc = w * g := nI_inj (by omega) (by omega) (l4.symm.trans (l2 z.1.1).1)
      subst emc
      exact q ⟨z.1.1, (lt_le1 (c := t) hcy.1 (by omega)).mp z.1.2⟩
    rw [if_neg hno] at k2
    exact cal_0 ⟨M, N, w, g, m, n, p, L, G, I, P⟩ k1 k2
