/-- a byte of the words -/
def wb (w : Nat) : Nat := ((gf_tb.getD 1 []).getD w 0).toNatClampNeg
theorem wb_e : ∀ w, w < 121 → (gf_tb.getD 1 []).getD w 0 = nI (wb w) ∧ wb w < 256 := by decide +kernel
/-- the word that begins at a: kz bytes of the words to go, in the word number wd, at i -/
def wdS (tx : Nat → Nat) (L a : Nat) : Nat → Nat → Nat → Bool → Nat
  | 0, _, _, _ => 25
  | kz + 1, wd, i, sm => if ¬ wb (120 - kz) = 32 then wdS tx L a kz wd (i + 1) (sm && decide (i < L ∧ srt (tx i) = 1) && decide (tx i = wb (120 - kz)))
    else if sm = true ∧ ¬ decide (i < L ∧ srt (tx i) = 1) = true then wd else wdS tx L a kz (wd + 1) a true
def wrd (tx : Nat → Nat) (L a : Nat) : Nat := wdS tx L a 121 0 a true
def bI (b : Bool) : Int32 := if b = true then 1 else 0
theorem l_wordAt (E : gE) {d : Nat} (hd : 4 ≤ d) {L fa : Nat} (h : hp_T) (hG : gr h) (Z : Nat → Nat → Int32) (I : txI Z L) (hf : fa ≤ 600) : ∀ (kz jz wd i : Nat) (sm : Bool), jz + kz = 121 → wd ≤ jz → i ≤ 600 + jz → gf E mX9_wordAt d 10 [(0, .ref (E.1 + 150)), (1, .int (nI fa)), (2, .int (nI wd)), (3, .int (nI i)), (4, .int (bI sm)), (5, .int (nI jz))] [] (hb h 150 8 Z) (some (.int (nI (wdS (txt Z) L fa (kz) (wd) (i) (sm))))) (hb h 150 8 Z) := by
  have hI6 := I.2.1
  have hk2 : (1 : Nat) < 2 := by decide
  intro kz
  induction kz with
  | zero =>
    intro jz wd i sm hj hw hi
    have hj : jz = 121 := by omega
    subst hj
    refine gf_iload dX9_wordAt_10 rfl ?_
    refine gf_ldcS (k := 1) (by decide) rfl rfl dX9_wordAt_12 ?_
    refine gf_callVS cmJ0_length_8abf5 lkX9_94 imJ0_length_8abf5 seJ0_length_8abf5 rfl hk2 dX9_wordAt_14 (d1 := d - 1) (by omega) (e_length E (by omega) _ hk2) rfl rfl (Nat.le_of_ble_eq_true rfl) ?_
    refine gf_icmp_ge 125 dX9_wordAt_17 rfl (fun _ => ?_) (fun q => absurd (Int32.le_refl _) q)
    refine gf_bipush (25) dX9_wordAt_125 rfl ?_
    exact gf_iretE dX9_wordAt_127 rfl (rfl) (rfl)
  | succ kz ih =>
    intro jz wd i sm hj hw hi
    have hjz : 120 - kz = jz := by omega
    obtain ⟨hwb, hwb2⟩ := wb_e jz (by omega)
    have eW : (wdS (txt Z) L fa (kz + 1) (wd) (i) (sm)) = (if ¬ wb jz = 32 then (wdS (txt Z) L fa (kz) (wd) (i + 1) (sm && decide (i < L ∧ srt (txt Z i) = 1) && decide (txt Z i = wb jz))) else if sm = true ∧ ¬ decide (i < L ∧ srt (txt Z i) = 1) = true then wd else (wdS (txt Z) L fa (kz) (wd + 1) (fa) (true))) := by
      show (if ¬ wb (120 - kz) = 32 then _ else _) = _
      rw [hjz]
    rw [eW]
    suffices hs : ∀ q : Bool, (q = decide (i < L ∧ srt (txt Z i) = 1)) → gf E mX9_wordAt d 46 [(0, .ref (E.1 + 150)), (1, .int (nI fa)), (2, .int (nI wd)), (3, .int (nI i)), (4, .int (bI sm)), (5, .int (nI jz))] [.int (bI q)] (hb h 150 8 Z) (some (.int (nI (if ¬ wb jz = 32 then (wdS (txt Z) L fa (kz) (wd) (i + 1) (sm && q && decide (txt Z i = wb jz))) else if sm = true ∧ ¬ q = true then wd else (wdS (txt Z) L fa (kz) (wd + 1) (fa) (true)))))) (hb h 150 8 Z) by
      have hs := hs _ rfl

      refine gf_iload dX9_wordAt_10 rfl ?_
      refine gf_ldcS (k := 1) (by decide) rfl rfl dX9_wordAt_12 ?_
      refine gf_callVS cmJ0_length_8abf5 lkX9_94 imJ0_length_8abf5 seJ0_length_8abf5 rfl hk2 dX9_wordAt_14 (d1 := d - 1) (by omega) (e_length E (by omega) _ hk2) rfl rfl (Nat.le_of_ble_eq_true rfl) ?_
      refine gf_icmp_ge 125 dX9_wordAt_17 rfl (fun q => absurd q (nI_ge (b := 121) (by omega) (by omega))) (fun _ => ?_)
      refine gf_iload_n 3 dX9_wordAt_20 rfl rfl ?_
      refine gf_aload_n 0 dX9_wordAt_21 rfl rfl ?_
      refine gf_getI flX9_37 rfl dX9_wordAt_22 (gt_150 hG) ?_
      rw [show hp_i (hb h 150 8 Z) 150 0 = nI L from I.1]
      refine gf_icmp_ge 45 dX9_wordAt_25 rfl (fun zc25 => ?_) (fun zc25 => ?_)
      · have hge : ¬ i < L := fun q => absurd zc25 (nI_ge q (by omega))
        refine gf_iconst (0) dX9_wordAt_45 rfl ?_
        exact (show (0 : Int32) = bI (decide (i < L ∧ srt (txt Z i) = 1)) from by rw [decide_eq_false (fun q => hge q.1)]; rfl) ▸ hs
      · have hlt : i < L := by rcases Nat.lt_or_ge i L with q | q; exact q; exact absurd (nI_le q (by omega)) zc25
        refine gf_aload_n 0 dX9_wordAt_28 rfl rfl ?_
        refine gf_getR flX9_25 rfl dX9_wordAt_29 (gt_150 hG) (gp_150_8 hG) ?_
        refine gf_iload_n 3 dX9_wordAt_32 rfl rfl ?_
        refine gf_iald 600 dX9_wordAt_33 (gt_154 hG) (gl_154 hG) rfl (by omega) (by decide) ?_
        rw [show hp_i (hb h 150 8 Z) 154 i = nI (txt Z i) from (txt_e I hlt).1]
        refine gf_callS cmX9_sortOf lkX9_71 stX9_sortOf dX9_wordAt_34 (d1 := d - 1) (by omega) (e_sortOf E (by omega) _ (txt_e I hlt).2) rfl rfl (Nat.le_of_ble_eq_true rfl) ?_
        refine gf_iconst (1) dX9_wordAt_37 rfl ?_
        refine gf_icmp_ne 45 dX9_wordAt_38 rfl (fun zc38 => ?_) (fun zc38 => ?_)
        · have hns : ¬ srt (txt Z i) = 1 := fun q => zc38 (by rw [q]; rfl)
          refine gf_iconst (0) dX9_wordAt_45 rfl ?_
          exact (show (0 : Int32) = bI (decide (i < L ∧ srt (txt Z i) = 1)) from by rw [decide_eq_false (fun q => hns q.2)]; rfl) ▸ hs
        · have hs1 : srt (txt Z i) = 1 := (nI_eq (b := 1) (by have := srt_3 (txt Z i); omega) (by omega)).mp zc38
          refine gf_iconst (1) dX9_wordAt_41 rfl ?_
          refine gf_goto 46 dX9_wordAt_42 rfl ?_
          exact (show (1 : Int32) = bI (decide (i < L ∧ srt (txt Z i) = 1)) from by rw [decide_eq_true ⟨hlt, hs1⟩]; rfl) ▸ hs
    intro q hq
    refine gf_istore dX9_wordAt_46 (Nat.le_of_ble_eq_true rfl) ?_
    refine gf_ldcS (k := 1) (by decide) rfl rfl dX9_wordAt_48 ?_
    refine gf_iload dX9_wordAt_50 rfl ?_
    refine gf_callVS cmJ0_charAt_5068e lkX9_96 imJ0_charAt_5068e seJ0_charAt_5068e rfl hk2 dX9_wordAt_52 (d1 := d - 1) (by omega) (e_charAt E (by omega) _ hk2 (show jz < 121 by omega)) rfl rfl (Nat.le_of_ble_eq_true rfl) ?_
    rw [hwb]
    refine gf_bipush (32) dX9_wordAt_55 rfl ?_
    refine gf_icmp_eq 99 dX9_wordAt_57 rfl (fun zc57 => ?_) (fun zc57 => ?_)
    · have h32 : wb jz = 32 := (nI_eq (b := 32) (by omega) (by omega)).mp zc57
      refine gf_iload dX9_wordAt_99 rfl ?_
      refine gf_if_eq 111 dX9_wordAt_101 rfl (fun zc101 => ?_) (fun zc101 => ?_)
      · have bs0 : sm = false := by cases sm; rfl; exact absurd zc101 (by decide)
        have hnr : ¬ (sm = true ∧ ¬ q = true) := fun w => by rw [bs0] at w; exact absurd w.1 (by decide)
        refine gf_iinc (1) dX9_wordAt_111 rfl rfl (Nat.le_of_ble_eq_true rfl) ?_
        refine gf_iload_n 1 dX9_wordAt_114 rfl rfl ?_
        refine gf_istore_n 3 dX9_wordAt_115 rfl (Nat.le_of_ble_eq_true rfl) ?_
        refine gf_iconst (1) dX9_wordAt_116 rfl ?_
        refine gf_istore dX9_wordAt_117 (Nat.le_of_ble_eq_true rfl) ?_
        refine gf_iinc (1) dX9_wordAt_119 rfl rfl (Nat.le_of_ble_eq_true rfl) ?_
        refine gf_goto 10 dX9_wordAt_122 rfl ?_
        rw [if_neg (not_not_intro h32), if_neg hnr]
        exact gf_lw (ih (jz + 1) (wd + 1) fa true (by omega) (by omega) (by omega)) ⟨rfl, rfl, lvE (nI_1 wd), rfl, rfl, lvE (nI_1 jz), trivial⟩
      · have bs1 : sm = true := by cases sm; exact absurd rfl zc101; rfl
        refine gf_iload dX9_wordAt_104 rfl ?_
        refine gf_if_ne 111 dX9_wordAt_106 rfl (fun zc106 => ?_) (fun zc106 => ?_)
        · have hnr : ¬ (sm = true ∧ ¬ q = true) := fun w => zc106 (by cases q; rfl; exact absurd rfl w.2)
          refine gf_iinc (1) dX9_wordAt_111 rfl rfl (Nat.le_of_ble_eq_true rfl) ?_
          refine gf_iload_n 1 dX9_wordAt_114 rfl rfl ?_
          refine gf_istore_n 3 dX9_wordAt_115 rfl (Nat.le_of_ble_eq_true rfl) ?_
          refine gf_iconst (1) dX9_wordAt_116 rfl ?_
          refine gf_istore dX9_wordAt_117 (Nat.le_of_ble_eq_true rfl) ?_
          refine gf_iinc (1) dX9_wordAt_119 rfl rfl (Nat.le_of_ble_eq_true rfl) ?_
          refine gf_goto 10 dX9_wordAt_122 rfl ?_
          rw [if_neg (not_not_intro h32), if_neg hnr]
          exact gf_lw (ih (jz + 1) (wd + 1) fa true (by omega) (by omega) (by omega)) ⟨rfl, rfl, lvE (nI_1 wd), rfl, rfl, lvE (nI_1 jz), trivial⟩
        · have bq0 : q = false := by cases q; rfl; exact absurd zc106 (by decide)
          refine gf_iload_n 2 dX9_wordAt_109 rfl rfl ?_
          exact gf_iretE dX9_wordAt_110 rfl (by rw [if_neg (not_not_intro h32), if_pos ⟨bs1, by rw [bq0]; decide⟩]) (rfl)
    · have h32 : ¬ wb jz = 32 := fun w => zc57 (by rw [w]; rfl)
      refine gf_iload dX9_wordAt_60 rfl ?_
      refine gf_if_eq 90 dX9_wordAt_62 rfl (fun zc62 => ?_) (fun zc62 => ?_)
      · have bs0 : sm = false := by cases sm; rfl; exact absurd zc62 (by decide)
        refine gf_iconst (0) dX9_wordAt_90 rfl ?_
        refine gf_istore dX9_wordAt_91 (Nat.le_of_ble_eq_true rfl) ?_
        refine gf_iinc (1) dX9_wordAt_93 rfl rfl (Nat.le_of_ble_eq_true rfl) ?_
        refine gf_goto 119 dX9_wordAt_96 rfl ?_
        refine gf_iinc (1) dX9_wordAt_119 rfl rfl (Nat.le_of_ble_eq_true rfl) ?_
        refine gf_goto 10 dX9_wordAt_122 rfl ?_
        rw [if_pos h32]
        exact gf_lw (ih (jz + 1) wd (i + 1) (sm && q && decide (txt Z i = wb jz)) (by omega) (by omega) (by omega)) ⟨rfl, rfl, rfl, lvE (nI_1 i), lvE (show (0 : Int32) = bI (sm && q && decide (txt Z i = wb jz)) from by rw [bs0]; rfl), lvE (nI_1 jz), trivial⟩
      · have bs1 : sm = true := by cases sm; exact absurd rfl zc62; rfl
        refine gf_iload dX9_wordAt_65 rfl ?_
        refine gf_if_eq 90 dX9_wordAt_67 rfl (fun zc67 => ?_) (fun zc67 => ?_)
        · have bq0 : q = false := by cases q; rfl; exact absurd zc67 (by decide)
          refine gf_iconst (0) dX9_wordAt_90 rfl ?_
          refine gf_istore dX9_wordAt_91 (Nat.le_of_ble_eq_true rfl) ?_
          refine gf_iinc (1) dX9_wordAt_93 rfl rfl (Nat.le_of_ble_eq_true rfl) ?_
          refine gf_goto 119 dX9_wordAt_96 rfl ?_
          refine gf_iinc (1) dX9_wordAt_119 rfl rfl (Nat.le_of_ble_eq_true rfl) ?_
          refine gf_goto 10 dX9_wordAt_122 rfl ?_
          rw [if_pos h32]
          exact gf_lw (ih (jz + 1) wd (i + 1) (sm && q && decide (txt Z i = wb jz)) (by omega) (by omega) (by omega)) ⟨rfl, rfl, rfl, lvE (nI_1 i), lvE (show (0 : Int32) = bI (sm && q && decide (txt Z i = wb jz)) from by rw [bq0, Bool.and_false]; rfl), lvE (nI_1 jz), trivial⟩
        · have bq1 : q = true := by cases q; exact absurd rfl zc67; rfl
          have hqL : i < L := by rw [bq1] at hq; exact (of_decide_eq_true hq.symm).1
          have hb2 := (txt_e I hqL).2
          refine gf_aload_n 0 dX9_wordAt_70 rfl rfl ?_
          refine gf_getR flX9_25 rfl dX9_wordAt_71 (gt_150 hG) (gp_150_8 hG) ?_
          refine gf_iload_n 3 dX9_wordAt_74 rfl rfl ?_
          refine gf_iald 600 dX9_wordAt_75 (gt_154 hG) (gl_154 hG) rfl (by omega) (by decide) ?_
          rw [show hp_i (hb h 150 8 Z) 154 i = nI (txt Z i) from (txt_e I hqL).1]
          refine gf_ldcS (k := 1) (by decide) rfl rfl dX9_wordAt_76 ?_
          refine gf_iload dX9_wordAt_78 rfl ?_
          refine gf_callVS cmJ0_charAt_5068e lkX9_96 imJ0_charAt_5068e seJ0_charAt_5068e rfl hk2 dX9_wordAt_80 (d1 := d - 1) (by omega) (e_charAt E (by omega) _ hk2 (show jz < 121 by omega)) rfl rfl (Nat.le_of_ble_eq_true rfl) ?_
          rw [hwb]
          refine gf_icmp_ne 90 dX9_wordAt_83 rfl (fun zc83 => ?_) (fun zc83 => ?_)
          · have hne : ¬ txt Z i = wb jz := fun w => zc83 (by rw [w])
            refine gf_iconst (0) dX9_wordAt_90 rfl ?_
            refine gf_istore dX9_wordAt_91 (Nat.le_of_ble_eq_true rfl) ?_
            refine gf_iinc (1) dX9_wordAt_93 rfl rfl (Nat.le_of_ble_eq_true rfl) ?_
            refine gf_goto 119 dX9_wordAt_96 rfl ?_
            refine gf_iinc (1) dX9_wordAt_119 rfl rfl (Nat.le_of_ble_eq_true rfl) ?_
            refine gf_goto 10 dX9_wordAt_122 rfl ?_
            rw [if_pos h32]
            exact gf_lw (ih (jz + 1) wd (i + 1) (sm && q && decide (txt Z i = wb jz)) (by omega) (by omega) (by omega)) ⟨rfl, rfl, rfl, lvE (nI_1 i), lvE (show (0 : Int32) = bI (sm && q && decide (txt Z i = wb jz)) from by rw [decide_eq_false hne, Bool.and_false]; rfl), lvE (nI_1 jz), trivial⟩
          · have heq : txt Z i = wb jz := (nI_eq (by omega) (by omega)).mp zc83
            refine gf_iconst (1) dX9_wordAt_86 rfl ?_
            refine gf_goto 91 dX9_wordAt_87 rfl ?_
            refine gf_istore dX9_wordAt_91 (Nat.le_of_ble_eq_true rfl) ?_
            refine gf_iinc (1) dX9_wordAt_93 rfl rfl (Nat.le_of_ble_eq_true rfl) ?_
            refine gf_goto 119 dX9_wordAt_96 rfl ?_
            refine gf_iinc (1) dX9_wordAt_119 rfl rfl (Nat.le_of_ble_eq_true rfl) ?_
            refine gf_goto 10 dX9_wordAt_122 rfl ?_
            rw [if_pos h32]
            exact gf_lw (ih (jz + 1) wd (i + 1) (sm && q && decide (txt Z i = wb jz)) (by omega) (by omega) (by omega)) ⟨rfl, rfl, rfl, lvE (nI_1 i), lvE (show (1 : Int32) = bI (sm && q && decide (txt Z i = wb jz)) from by rw [bs1, bq1, decide_eq_true heq]; rfl), lvE (nI_1 jz), trivial⟩
theorem e_X9_wordAt (E : gE) {d : Nat} (hd : 4 ≤ d) {L fa : Nat} (h : hp_T) (hG : gr h) (Z : Nat → Nat → Int32) (I : txI Z L) (hf : fa ≤ 600) : ev E mX9_wordAt d [.ref (E.1 + 150), .int (nI fa)] (hb h 150 8 Z) (some (.int (nI (wrd (txt Z) L fa)))) (hb h 150 8 Z) := by
  refine ev_of rfl (fun q => absurd q (by decide)) (Nat.le_of_ble_eq_true rfl) ?_
  refine gf_iconst (0) dX9_wordAt_0 rfl ?_
  refine gf_istore_n 2 dX9_wordAt_1 rfl (Nat.le_of_ble_eq_true rfl) ?_
  refine gf_iload_n 1 dX9_wordAt_2 rfl rfl ?_
  refine gf_istore_n 3 dX9_wordAt_3 rfl (Nat.le_of_ble_eq_true rfl) ?_
  refine gf_iconst (1) dX9_wordAt_4 rfl ?_
  refine gf_istore dX9_wordAt_5 (Nat.le_of_ble_eq_true rfl) ?_
  refine gf_iconst (0) dX9_wordAt_7 rfl ?_
  refine gf_istore dX9_wordAt_8 (Nat.le_of_ble_eq_true rfl) ?_
  exact gf_lw (l_wordAt E hd h hG Z I hf 121 0 0 fa true (by omega) (by omega) (by omega)) ⟨rfl, rfl, rfl, rfl, rfl, rfl, trivial⟩
