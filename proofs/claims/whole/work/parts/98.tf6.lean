/-! ===== the calls: terms, both sides ===== -/
theorem trm0_i (h : hp_T) : hp_i (trm0 h) = up2 (hp_i h) 150 0 0 := rfl
theorem cal_tm_bad (E : gE) {H : hp_T} {M : mM} {N : mN} {w g m n p L a c wt b : Nat} {t : Int32} (G : gr H) (I : isM9 H M N) (P : Pc H M w g m n p L) (hq : M 0 2 = nI a ∧ M 0 37 = nI c ∧ M 0 39 = nI wt ∧ M 0 41 = nI b) (hT : isTm t n) (h4 : trmY rdS L H 4 = rd0 H 4) (st : stp9 (rdR M L (pQ M a c wt b)).2 (trmY rdS L H)) : cal9 E mX11_terms mX12_terms [.int t] H := by
  obtain ⟨⟨a1, a2, hL6⟩, e4, hT1, -⟩ := P.2.2.2.1.1
  obtain ⟨⟨n1, n2, hn⟩, -⟩ := P.2.2.1.1
  have k1 := e_X11_terms E (d := 100) (by decide) t H G (txI_rR P.2.2.2.1.1) n1 hn
  unfold trmV trmR at k1
  rw [if_pos hT, if_pos hT] at k1
  generalize trmY rdS L H = Y at k1 h4 st
  have hY : ¬ Y 0 1 = 0 := by rw [st.2.1]; exact st.1
  rw [if_neg hY, if_neg hY] at k1
  have I1 : isM9 (trm0 (hb H 150 8 Y)) M N := isM_up (by decide) (isM_fr (fun x h1 _ => hb_out H Y (by omega)) (fun _ _ _ => rfl) I)
  have G1 : gr (trm0 (hb H 150 8 Y)) := G
  have k2 := e_X12_terms E (d := 100) (by decide) t hL6 (trm0 (hb H 150 8 Y)) G1 M N (pQ M a c wt b) a2 hT1 n2 hn
  rw [mte_yes hT, if_neg st.1, pM_id hq] at k2
  obtain ⟨o1, o2, o3⟩ := rdM_old (M := M) (L := L) (a := a) (c := c) (w := wt) (b := b) hL6
  have hr : ∀ x, ¬ (150 ≤ x ∧ x < 158) → hp_i (trm0 (hb H 150 8 Y)) x = hp_i H x := fun x hx => by
    rw [trm0_i, up2_row (show x ≠ 150 by omega)]
    exact hb_out H Y (by omega)
  have hi : ∀ k, k < 8 → hp_i (hb H 150 8 Y) (150 + k) = Y k := fun k hk => hb_in H Y hk
  refine cal_1 k1 I1 k2 G1 (Pc_T (n1 := n) (L1 := 0) ?_ ?_ ?_ (fun x hx hx2 => hr x (by omega)) (fun r h0 h1 h2 => rdM_r hL6 h0 h1) (fun k hk => rdM_k hL6 (by omega) (by omega) (by omega) (by omega) (by omega)) P) (Nat.le_add_right _ _) (Nat.le_add_right _ _)
  · exact rA_fr (fun x hx => hr x (by omega)) ⟨rdM_k (k := 62) hL6 (by decide) (by decide) (by decide) (by decide) (by decide), rdM_k (k := 68) hL6 (by decide) (by decide) (by decide) (by decide) (by decide)⟩ (fun x hx => rdM_r hL6 (by omega) (by omega)) P.2.2.1.1
  · exact rT_old (fun x hx _ => ⟨hr x (by omega), rfl, rfl, rfl⟩) (Nat.le_refl _) (fun _ _ => rfl) (fun x _ => congrFun (rdM_r (r := 47) hL6 (by decide) (by decide)) x) (fun x h1 _ => o1 x h1) (fun r h1 i h2 _ => o2 r h1 i h2) (fun i h1 _ => o3 i h1) P.2.2.1.2
  · refine rRV_rd (F := hp_i H) hL6 ?_ ?_ ?_ ?_ P.2.2.2.1
    · rw [trm0_i, up2_s]
    · rw [trm0_i, up2_k _ _ (show 1 ≠ 0 by decide)]
      exact (congrFun (hi 0 (by decide)) 1).trans st.2.1
    · rw [trm0_i, up2_k _ _ (show 2 ≠ 0 by decide)]
      exact (congrFun (hi 0 (by decide)) 2).trans st.2.2
    · rw [trm0_i, up2_row (show 154 ≠ 150 by decide)]
      exact (hi 4 (by decide)).trans h4
/-- the heap with the new object -/
theorem rdH_ob {H : hp_T} {Y : rZ} {j c : Nat} (G : gr H) (hj : Y 0 3 = nI j) (hj24 : j ≤ 24) (hc : Y 0 4 = nI c) (hc6 : c ≤ 600) : obF (rdH H Y) (hp_n H) j c Y ∧ (∀ x, 333 ≤ x → x < hp_n H → hp_i (rdH H Y) x = hp_i H x ∧ hp_r (rdH H Y) x = hp_r H x ∧ hp_tag (rdH H Y) x = hp_tag H x ∧ hp_len (rdH H Y) x = hp_len H x) ∧ hp_s (rdH H Y) ≤ hp_s H + 700 := by
  have h3 := G.1
  have hlo := lo_rd G Y
  unfold rdH at hlo ⊢
  rw [hj, hc, nI_clamp (by omega), nI_clamp (by omega)] at hlo ⊢
  have hN : ∀ x, x ≠ hp_n H → _ := fun x hx => hp_new_ne (hb H 150 8 Y) 10 0 (hp_N 10) (x := x) hx
  have T := tm_obj (g := hp_new (hb H 150 8 Y) 10 0 (hp_N 10)) (b := hp_n H) (ct := j) (cl := c) rfl h3
  obtain ⟨t1, t2, t3, t4, t5, t6⟩ := T
  have e1 : hp_i (hp_new (hb H 150 8 Y) 10 0 (hp_N 10)) 151 = Y 1 := (hN 151 (by omega)).2.2.1.trans (hb_in H Y (b := 150) (n := 8) (o := 1) (by decide))
  have e2 : hp_i (hp_new (hb H 150 8 Y) 10 0 (hp_N 10)) 152 = Y 2 := (hN 152 (by omega)).2.2.1.trans (hb_in H Y (b := 150) (n := 8) (o := 2) (by decide))
  have e3 : hp_i (hp_new (hb H 150 8 Y) 10 0 (hp_N 10)) 153 = Y 3 := (hN 153 (by omega)).2.2.1.trans (hb_in H Y (b := 150) (n := 8) (o := 3) (by decide))
  rw [e2] at t2 t5
  rw [e1] at t4
  rw [e3] at t6
  refine ⟨⟨hlo.2.2, t2, t3, t4, t5, t6⟩, fun x h1 h2 => ?_, ?_⟩
  · obtain ⟨u1, u2, u3, u4⟩ := t1 x h2
    obtain ⟨v1, v2, v3, v4, v5⟩ := hN x (by omega)
    exact ⟨u3.trans (v3.trans (hb_out H Y (by omega))), u4.trans v5, u1.trans v1, u2.trans v2⟩
  · have hs : hp_s (tmH (hp_new (hb H 150 8 Y) 10 0 (hp_N 10)) (hp_n H) j c) = hp_s H + hp_N 10 + c + j + (j + 1) := rfl
    have h10 : hp_N 10 ≤ 50 := by decide
    omega
theorem trmG_i (h : hp_T) (o : Int32) (n b : Nat) : hp_i (trmG h o n b) = up2 (up2 (up2 (up2 (hp_i h) 158 0 (nI (n + 1))) 163 (n + 1) 1) 164 (n + 1) 0) 159 (n + 1) o := rfl
theorem trmG_r (h : hp_T) (o : Int32) (n b : Nat) : hp_r (trmG h o n b) = up2 (up2 (hp_r h) 162 (n + 1) none) 162 (n + 1) (some b) := rfl
