/-! ===== null in a local; the class: some, premiumBy, askBy, goTo, helpersAt, findHelpers ===== -/
section GN
variable {E : gE} {M : gM} {d pc : Nat} {lv : List (Nat × Value)} {rest : List Value} {h h' : hp_T} {v : Option Value}
theorem gf_aload_nN {j : Fin 4} (i : Nat) (hdg : decode M.2.1 pc = .ok (.aload_n j, 1)) (hi : (j : Nat) = i) (he : lvg lv i = some .null) (k : gf E M d (pc + 1) lv (.null :: rest) h v h') : gf E M d pc lv (rest) h v h' := gf_pure (fun hA hl kk => lv_aload_nN hA.1 hA.2.1 hdg hi (lvg_at hl he) (kk _ hl)) k
theorem gf_aloadN {i : Nat} (hdg : decode M.2.1 pc = .ok (.aload i, 2)) (he : lvg lv i = some .null) (k : gf E M d (pc + 2) lv (.null :: rest) h v h') : gf E M d pc lv (rest) h v h' := gf_pure (fun hA hl kk => lv_aloadN hA.1 hA.2.1 hdg (lvg_at hl he) (kk _ hl)) k
theorem gf_astore_nN {j : Fin 4} (i : Nat) (hdg : decode M.2.1 pc = .ok (.astore_n j, 1)) (hi : (j : Nat) = i) (hn : i < M.2.2.1) (k : gf E M d (pc + 1) (lvu lv i .null) (rest) h v h') : gf E M d pc lv (.null :: rest) h v h' := gf_pure (fun hA hl kk => lv_astore_nN hA.1 hA.2.1 hdg hi hl hn rfl (fun ls2 hl2 => kk ls2 (lvu_has hl2))) k
theorem gf_astoreN {i : Nat} (hdg : decode M.2.1 pc = .ok (.astore i, 2)) (hn : i < M.2.2.1) (k : gf E M d (pc + 2) (lvu lv i .null) (rest) h v h') : gf E M d pc lv (.null :: rest) h v h' := gf_pure (fun hA hl kk => lv_astoreN hA.1 hA.2.1 hdg hl hn rfl (fun ls2 hl2 => kk ls2 (lvu_has hl2))) k
end GN
def tcd (h : hp_T) (b : Nat) : Nat → Int32 := hp_i h ((hp_r h b 1).getD 0)
def tkd (h : hp_T) (b : Nat) : Nat → Int32 := hp_i h ((hp_r h b 2).getD 0)
def tfr (h : hp_T) (b : Nat) : Nat → Int32 := hp_i h ((hp_r h b 3).getD 0)
def tn (h : hp_T) (b : Nat) : Nat := (hp_i h b 0).toNatClampNeg
/-- at b lie terms in order -/
def tOK (h : hp_T) (b : Nat) : Prop := ∃ L, trm h b (tn h b) L (tcd h b) (tkd h b) (tfr h b)
def kR (S : kS) (w : Nat → Int32) : kS := (upr S.1 8 w, S.2)
theorem upr_upr (X : Nat → Nat → Int32) (o : Nat) (f g : Nat → Int32) : upr (upr X o f) o g = upr X o g := by
  funext x; unfold upr; split <;> rfl
theorem kR_R (S : kS) (w w' : Nat → Int32) : kR (kR S w) w' = kR S w' := by unfold kR; rw [upr_upr]
theorem kW_R (S : kS) (W : Nat × (Nat → Int32)) : kW S W = kR S W.2 := rfl
theorem kR_id (S : kS) : kR S (S.1 8) = S := by unfold kR; rw [upr_id]
/-- a statement of this kind that holds, from i on -/
def smF (S : kS) (cd kd fr : Nat → Int32) (kind : Int32) : Nat → Nat → (Nat → Int32) → Bool × (Nat → Int32)
  | 0, _, w => (false, w)
  | k + 1, i, w => if kd i = kind then (if vofV (stm (kR S w) cd fr i) = 0 then smF S cd kd fr kind k (i + 1) (stm (kR S w) cd fr i).2 else (true, (stm (kR S w) cd fr i).2)) else smF S cd kd fr kind k (i + 1) w
def someS (h : hp_T) (S : kS) (t : Option Nat) (kind : Int32) : Bool × (Nat → Int32) := match t with
  | none => (false, S.1 8)
  | some b => smF S (tcd h b) (tkd h b) (tfr h b) kind (tn h b) 0 (S.1 8)
abbrev tref (E : gE) (t : Option Nat) : Value := va_rf (t.map (fun x => E.1 + x))
theorem l_X6_some (E : gE) {d : Nat} (hd : 3 ≤ d) {b n L : Nat} {cd kd fr : Nat → Int32} (kind : Int32) (h : hp_T) (hG : gr h) (S : kS) (T : trm h b n L cd kd fr) : ∀ (kz jz : Nat) (w : Nat → Int32), jz + kz = n → gf E mX6_some d 8 [(0, .ref (E.1 + 171)), (1, .ref (E.1 + b)), (2, .int kind), (3, .int (nI jz))] [] (hk h (kR S w)) (some (.int (zb ((smF S cd kd fr kind kz jz w).1 = true)))) (hk h (kR S (smF S cd kd fr kind kz jz w).2)) := by
  have T0 := T
  obtain ⟨hTb, hn0, hn24, hL6, hb3, ca, ka, fa, hge, hr, hca, hka, hfa, hfr, hcd, -⟩ := T
  have hR2 : ∀ Z : kS, hp_r (hk h Z) b 2 = some ka := fun Z => by rw [hk_hr h Z hb3]; exact hr.2.1
  have hkai : ∀ Z : kS, hp_i (hk h Z) ka = kd := fun Z => by rw [hk_hi h Z hge.2.1]; exact hka.2.2
  have hbi : ∀ Z : kS, hp_i (hk h Z) b 0 = nI n := fun Z => by rw [hk_hi h Z hb3]; exact hn0
  intro kz
  induction kz with
  | zero =>
    intro jz w hj
    have hj : n = jz := by omega
    subst hj
    refine gf_iload_n 3 dX6_some_8 rfl rfl ?_
    refine gf_aload_n 1 dX6_some_9 rfl rfl ?_
    refine gf_getI flX6_103 rfl dX6_some_10 hTb ?_
    refine gf_icmp_ge 43 dX6_some_13 rfl (fun _ => ?_) (fun q => absurd (by rw [hbi]; exact Int32.le_refl _) q)
    refine gf_iconst (0) dX6_some_43 rfl ?_
    exact gf_zretE dX6_some_44 rfl (rfl) ((zb_f (fun q => Bool.noConfusion (show false = true from q))).symm) (rfl)
  | succ kz ih =>
    intro jz w hj
    refine gf_iload_n 3 dX6_some_8 rfl rfl ?_
    refine gf_aload_n 1 dX6_some_9 rfl rfl ?_
    refine gf_getI flX6_103 rfl dX6_some_10 hTb ?_
    refine gf_icmp_ge 43 dX6_some_13 rfl (fun q => absurd q (by rw [hbi]; exact nI_ge (by omega) (by omega))) (fun _ => ?_)
    refine gf_aload_n 1 dX6_some_16 rfl rfl ?_
    refine gf_getR flX6_106 rfl dX6_some_17 hTb (hR2 _) ?_
    refine gf_iload_n 3 dX6_some_20 rfl rfl ?_
    refine gf_iald n dX6_some_21 hka.1 hka.2.1 rfl (by omega) (by omega) ?_
    rw [hkai]
    refine gf_iload_n 2 dX6_some_22 rfl rfl ?_
    refine gf_icmp_ne 37 dX6_some_23 rfl (fun zc23 => ?_) (fun zc23 => ?_)
    · refine gf_iinc (1) dX6_some_37 rfl rfl (Nat.le_of_ble_eq_true rfl) ?_
      refine gf_goto 8 dX6_some_40 rfl ?_
      rw [show smF S cd kd fr kind (kz + 1) jz w = smF S cd kd fr kind kz (jz + 1) w from (if_neg zc23)]
      exact gf_lw (ih (jz + 1) _ (by omega)) ⟨rfl, rfl, rfl, lvE (nI_1 jz), trivial⟩
    · refine gf_aload_n 0 dX6_some_26 rfl rfl ?_
      refine gf_aload_n 1 dX6_some_27 rfl rfl ?_
      refine gf_iload_n 3 dX6_some_28 rfl rfl ?_
      refine gf_callV cmX6_valueOf lkX6_87 imX6_valueOf seX6_valueOf ⟨rfl, by decide⟩ dX6_some_29 (d1 := d - 1) (by omega) (gt_171 (gr_k _ hG)) (e_X6_valueOf E (by omega) (i := jz) h hG (kR S w) T0 (by omega)) rfl rfl (Nat.le_of_ble_eq_true rfl) ?_
      rw [kW_R, kR_R]
      refine gf_if_eq 37 dX6_some_32 rfl (fun zc32 => ?_) (fun zc32 => ?_)
      · refine gf_iinc (1) dX6_some_37 rfl rfl (Nat.le_of_ble_eq_true rfl) ?_
        refine gf_goto 8 dX6_some_40 rfl ?_
        rw [show smF S cd kd fr kind (kz + 1) jz w = smF S cd kd fr kind kz (jz + 1) (stm (kR S w) cd fr jz).2 from ((if_pos zc23).trans (if_pos zc32))]
        exact gf_lw (ih (jz + 1) _ (by omega)) ⟨rfl, rfl, rfl, lvE (nI_1 jz), trivial⟩
      · have eT : smF S cd kd fr kind (kz + 1) jz w = (true, (stm (kR S w) cd fr jz).2) := (if_pos zc23).trans (if_neg zc32)
        refine gf_iconst (1) dX6_some_35 rfl ?_
        exact gf_zretE dX6_some_36 rfl (rfl) ((zb_t (show (smF S cd kd fr kind (kz + 1) jz w).1 = true by rw [eT])).symm) (by rw [eT])
theorem e_X6_some (E : gE) {d : Nat} (hd : 3 ≤ d) (kind : Int32) (h : hp_T) (hG : gr h) (S : kS) (t : Option Nat) (hT : ∀ b, t = some b → tOK h b) : ev E mX6_some d [.ref (E.1 + 171), tref E t, .int kind] (hk h S) (some (.int (zb ((someS h S t kind).1 = true)))) (hk h (kR S (someS h S t kind).2)) := by
  cases t with
  | none =>
    show ev E mX6_some d [.ref (E.1 + 171), .null, .int kind] _ _ _
    refine ev_of rfl (fun q => absurd q (by decide)) (Nat.le_of_ble_eq_true rfl) ?_
    refine gf_aload_nN 1 dX6_some_0 rfl rfl ?_
    refine gf_ifnonnull_no dX6_some_1 ?_
    refine gf_iconst (0) dX6_some_4 rfl ?_
    exact gf_zretE dX6_some_5 rfl (rfl) ((zb_f (fun q => Bool.noConfusion (show false = true from q))).symm) (by show _ = hk h (kR S (S.1 8)); rw [kR_id])
  | some b =>
    obtain ⟨L, T⟩ := hT b rfl
    show ev E mX6_some d [.ref (E.1 + 171), .ref (E.1 + b), .int kind] _ _ _
    refine ev_of rfl (fun q => absurd q (by decide)) (Nat.le_of_ble_eq_true rfl) ?_
    refine gf_aload_n 1 dX6_some_0 rfl rfl ?_
    refine gf_ifnonnull_yes 6 dX6_some_1 rfl ?_
    refine gf_iconst (0) dX6_some_6 rfl ?_
    refine gf_istore_n 3 dX6_some_7 rfl (Nat.le_of_ble_eq_true rfl) ?_
    rw [show hk h S = hk h (kR S (S.1 8)) by rw [kR_id]]
    exact gf_lw (l_X6_some E hd kind h hG S T (tn h b) 0 (S.1 8) (by omega)) ⟨rfl, rfl, rfl, rfl, trivial⟩
def max0 (x : Int32) : Int32 := if 0 < x then x else 0
def prmS (h : hp_T) (S : kS) (t : Option Nat) : Int32 × (Nat → Int32) := match t with
  | none => (0, S.1 8)
  | some b => if hp_i h b 5 = -1 then (0, S.1 8) else (max0 (vofV (stm S (tcd h b) (tfr h b) (hp_i h b 5).toNatClampNeg)), (stm S (tcd h b) (tfr h b) (hp_i h b 5).toNatClampNeg).2)
theorem e_X6_premiumBy (E : gE) {d : Nat} (hd : 3 ≤ d) (h : hp_T) (hG : gr h) (S : kS) (t : Option Nat) (hT : ∀ b, t = some b → tOK h b) : ev E mX6_premiumBy d [.ref (E.1 + 171), tref E t] (hk h S) (some (.int (prmS h S t).1)) (hk h (kR S (prmS h S t).2)) := by
  cases t with
  | none =>
    show ev E mX6_premiumBy d [.ref (E.1 + 171), .null] _ _ _
    refine ev_of rfl (fun q => absurd q (by decide)) (Nat.le_of_ble_eq_true rfl) ?_
    refine gf_aload_nN 1 dX6_premiumBy_0 rfl rfl ?_
    refine gf_ifnull_yes 12 dX6_premiumBy_1 rfl ?_
    refine gf_iconst (0) dX6_premiumBy_12 rfl ?_
    exact gf_iretE dX6_premiumBy_13 rfl (rfl) (by show _ = hk h (kR S (S.1 8)); rw [kR_id])
  | some b =>
    obtain ⟨L, T⟩ := hT b rfl
    have T0 := T
    obtain ⟨hTb, hn0, hn24, hL6, hb3, ca, ka, fa, hge, hr, hca, hka, hfa, hfr, hcd, hpa, hpr⟩ := T
    have hb5 : ∀ Z : kS, hp_i (hk h Z) b 5 = hp_i h b 5 := fun Z => by rw [hk_hi h Z hb3]
    show ev E mX6_premiumBy d [.ref (E.1 + 171), .ref (E.1 + b)] _ _ _
    refine ev_of rfl (fun q => absurd q (by decide)) (Nat.le_of_ble_eq_true rfl) ?_
    refine gf_aload_n 1 dX6_premiumBy_0 rfl rfl ?_
    refine gf_ifnull_no dX6_premiumBy_1 ?_
    refine gf_aload_n 1 dX6_premiumBy_4 rfl rfl ?_
    refine gf_getI flX6_82 rfl dX6_premiumBy_5 hTb ?_
    rw [hb5]
    refine gf_iconst (-1) dX6_premiumBy_8 rfl ?_
    refine gf_icmp_ne 14 dX6_premiumBy_9 rfl (fun zc9 => ?_) (fun zc9 => ?_)
    · have hv5 : ∃ j, j < tn h b ∧ hp_i h b 5 = nI j := hpr.resolve_left zc9
      obtain ⟨j5, hj5, hj⟩ := hv5
      have eP : prmS h S (some b) = (max0 (vofV (stm S (tcd h b) (tfr h b) j5)), (stm S (tcd h b) (tfr h b) j5).2) := by
        refine (if_neg zc9 : prmS h S (some b) = _).trans ?_
        rw [hj, nI_clamp (by omega)]
      refine gf_iconst (0) dX6_premiumBy_14 rfl ?_
      refine gf_aload_n 0 dX6_premiumBy_15 rfl rfl ?_
      refine gf_aload_n 1 dX6_premiumBy_16 rfl rfl ?_
      refine gf_aload_n 1 dX6_premiumBy_17 rfl rfl ?_
      refine gf_getI flX6_82 rfl dX6_premiumBy_18 hTb ?_
      rw [hb5, hj]
      refine gf_callV cmX6_valueOf lkX6_87 imX6_valueOf seX6_valueOf ⟨rfl, by decide⟩ dX6_premiumBy_21 (d1 := d - 1) (by omega) (gt_171 (gr_k _ hG)) (e_X6_valueOf E (by omega) (i := j5) h hG S T0 hj5) rfl rfl (Nat.le_of_ble_eq_true rfl) ?_
      refine gf_max lkX6_91 kMmax.1 kMmax.2.1 kMmax.2.2 dX6_premiumBy_24 (by omega) (Nat.le_of_ble_eq_true rfl) ?_
      exact gf_iretE dX6_premiumBy_27 rfl (by rw [eP]; rfl) (by rw [eP]; rfl)
    · refine gf_iconst (0) dX6_premiumBy_12 rfl ?_
      exact gf_iretE dX6_premiumBy_13 rfl (by rw [show prmS h S (some b) = (0, S.1 8) from if_pos zc9]) (by rw [show prmS h S (some b) = (0, S.1 8) from if_pos zc9, kR_id])
