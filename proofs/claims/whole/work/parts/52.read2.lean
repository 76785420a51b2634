/-! ===== the class: the reader's rows, items, facts, parts ===== -/
def rwL (it : rZ → Bool × rZ) (r : Nat) : Nat → rZ → Bool × rZ
  | 0, Z => (true, Z)
  | n + 1, Z => if rjn r (rtok Z) = true then rbd (it (rnxt Z)) (fun Y => rwL it r n (remi Y (rtok Z) 0)) else (true, Z)
def rowS (it : rZ → Bool × rZ) (r : Nat) (Z : rZ) : Bool × rZ := rbd (it Z) (fun Y => rwL it r 600 Y)
def facS (fa r0 cm : rZ → Bool × rZ) (o : Nat) (Z : rZ) : Bool × rZ :=
  if rtok Z = 9 then rbd (rpas Z 9) (fun Y => (true, remi Y 9 0))
  else if rtok Z = 10 then rbd (rpas Z 10) (fun Y => rnum Y 10 8)
  else if rtok Z = 11 then rbd (rent Z 11 (nI o)) (fun Y => rbd (fa Y) (fun Y2 => (true, remi Y2 11 0)))
  else if rtok Z = 91 then rbd (rent Z 91 (nI o)) (fun Y => rbd (r0 Y) (fun Y2 => rpas Y2 93))
  else cm Z
def cmpS (r2 : rZ → Bool × rZ) (Z : rZ) : Bool × rZ := rbd (r2 Z) (fun Y => if rtok Y = 60 ∨ rtok Y = 62 ∨ rtok Y = 61 then rbd (rpas Y (rtok Y)) (fun Y2 => rbd (r2 Y2) (fun Y3 => (true, remi Y3 (rtok Y) 0))) else (false, rref Y 1 (rher Y)))
def parS (r2 : rZ → Bool × rZ) (o : Nat) (Z : rZ) : Bool × rZ :=
  if rtok Z = 23 then rnum Z 23 99999
  else if rtok Z ≤ 6 then rbd (rpas Z (rtok Z)) (fun Y => (true, remi Y (rtok Z) 0))
  else if rtok Z = 7 ∨ rtok Z = 8 then rbd (rpas Z (rtok Z)) (fun Y => rbd (rent Y 40 (nI o)) (fun Y => rbd (r2 Y) (fun Y => rbd (rpas Y 44) (fun Y => rbd (r2 Y) (fun Y => rbd (rpas Y 41) (fun Y => (true, remi Y (rtok Z) 0)))))))
  else rbd (rent Z 40 (nI o)) (fun Y => rbd (r2 Y) (fun Y => rpas Y 41))
theorem rjn_24 (r : Nat) : rjn r 24 = false := by
  unfold rjn
  split
  · decide
  · split
    · decide
    · split <;> decide
theorem rjn_n {r : Nat} {t : Int32} (h : rjn r t = true) : ¬ t = 24 := fun q => by rw [q, rjn_24] at h; cases h
/-- what a piece of the reader does to the cells -/
def pcO (E : gE) (y : gM) (d : Nat) (as : List Value) (g : rZ → Bool × rZ) (h : hp_T) : Prop := ∀ Z, rdI Z → ev E y d (.ref (E.1 + 150) :: as) (hb h 150 8 Z) (some (.int (bI (g Z).1))) (hb h 150 8 (g Z).2) ∧ rdI (g Z).2
theorem rwL_I {it : rZ → Bool × rZ} {r : Nat} (hI : ∀ Z, rdI Z → rdI (it Z).2) : ∀ n Z, rdI Z → rdI (rwL it r n Z).2
  | 0, _, I => I
  | n + 1, Z, I => by
    unfold rwL
    split
    · rename_i e
      exact rbd_I (hI _ (rnxt_I I (rjn_n e))) (fun Y hY => rwL_I hI n _ (remi_I hY))
    · exact I
theorem l_readRow (E : gE) {d : Nat} (hd : 3 ≤ d) {r o : Nat} (it : rZ → Bool × rZ) (h : hp_T) (hG : gr h) (hr : r < 4) (hit : pcO E mX9_readItem (d - 1) [.int (nI r), .int (nI o)] it h) : ∀ (n : Nat), n ≤ 600 → ∀ Z, rdI Z → gf E mX9_readRow d 13 [(0, .ref (E.1 + 150)), (1, .int (nI r)), (2, .int (nI o)), (3, .int (nI (600 - n)))] [] (hb h 150 8 Z) (some (.int (bI (rwL it r n Z).1))) (hb h 150 8 (rwL it r n Z).2) := by
  intro n
  induction n with
  | zero =>
    intro _ Z I
    refine gf_iload_n 3 dX9_readRow_13 rfl rfl ?_
    refine gf_sipush (600) dX9_readRow_14 rfl ?_
    refine gf_icmp_ge 72 dX9_readRow_17 rfl (fun _ => ?_) (fun q => absurd (nI_le (a := 600) (by omega) (by omega)) q)
    refine gf_iconst (1) dX9_readRow_72 rfl ?_
    exact gf_bret dX9_readRow_73 rfl (rfl) (rfl)
  | succ n ih =>
    intro hn Z I
    refine gf_iload_n 3 dX9_readRow_13 rfl rfl ?_
    refine gf_sipush (600) dX9_readRow_14 rfl ?_
    refine gf_icmp_ge 72 dX9_readRow_17 rfl (fun q => absurd q (nI_ge (b := 600) (by omega) (by omega))) (fun _ => ?_)
    refine gf_iload_n 1 dX9_readRow_20 rfl rfl ?_
    refine gf_aload_n 0 dX9_readRow_21 rfl rfl ?_
    refine gf_callV cmX9_token lkX9_55 imX9_token seX9_token ⟨rfl, by decide⟩ dX9_readRow_22 (d1 := d - 1) (by omega) (gt_150 hG) (e_X9_token E (by omega) h hG Z I) rfl rfl (Nat.le_of_ble_eq_true rfl) ?_
    refine gf_callS cmX9_joins lkX9_117 stX9_joins dX9_readRow_25 (d1 := d - 1) (by omega) (e_X9_joins E (rtok Z) _ hr) rfl rfl (Nat.le_of_ble_eq_true rfl) ?_
    refine gf_if_eq 72 dX9_readRow_28 rfl (fun zc28 => ?_) (fun zc28 => ?_)
    · have hb28 := bI_f zc28
      refine gf_iconst (1) dX9_readRow_72 rfl ?_
      exact gf_bret dX9_readRow_73 rfl (by rw [show rwL it r (n + 1) Z = _ from if_neg (by rw [hb28]; decide)]; first | done | rfl) (by rw [show rwL it r (n + 1) Z = _ from if_neg (by rw [hb28]; decide)]; first | done | rfl)
    · have hjn : rjn r (rtok Z) = true := bI_t zc28
      have hit1 := hit (rnxt Z) (rnxt_I I (rjn_n hjn))
      have hb28 := bI_t zc28
      refine gf_aload_n 0 dX9_readRow_31 rfl rfl ?_
      refine gf_callV cmX9_token lkX9_55 imX9_token seX9_token ⟨rfl, by decide⟩ dX9_readRow_32 (d1 := d - 1) (by omega) (gt_150 hG) (e_X9_token E (by omega) h hG Z I) rfl rfl (Nat.le_of_ble_eq_true rfl) ?_
      refine gf_istore dX9_readRow_35 (Nat.le_of_ble_eq_true rfl) ?_
      refine gf_aload_n 0 dX9_readRow_37 rfl rfl ?_
      refine gf_dup dX9_readRow_38 rfl ?_
      refine gf_getI flX9_49 rfl dX9_readRow_39 (gt_150 hG) ?_
      refine gf_iconst (1) dX9_readRow_42 rfl ?_
      refine gf_iadd dX9_readRow_43 ?_
      refine gf_putI flX9_49 rfl rfl dX9_readRow_44 (gt_150 hG) ⟨rfl, rfl⟩ ?_
      rw [rd_0]
      change gf _ _ _ _ _ _ (hb h 150 8 (rnxt Z)) _ _
      refine gf_aload_n 0 dX9_readRow_47 rfl rfl ?_
      refine gf_iload_n 1 dX9_readRow_48 rfl rfl ?_
      refine gf_iload_n 2 dX9_readRow_49 rfl rfl ?_
      refine gf_callV cmX9_readItem lkX9_114 imX9_readItem seX9_readItem ⟨rfl, by decide⟩ dX9_readRow_50 (d1 := d - 1) (by omega) (gt_150 hG) (hit1.1) rfl rfl (Nat.le_of_ble_eq_true rfl) ?_
      refine gf_if_ne 58 dX9_readRow_53 rfl (fun zc53 => ?_) (fun zc53 => ?_)
      · have hb53 := bI_t zc53
        refine gf_aload_n 0 dX9_readRow_58 rfl rfl ?_
        refine gf_iload dX9_readRow_59 rfl ?_
        refine gf_iconst (0) dX9_readRow_61 rfl ?_
        refine gf_callV cmX9_emit lkX9_120 imX9_emit seX9_emit ⟨rfl, by decide⟩ dX9_readRow_62 (d1 := d - 1) (by omega) (gt_150 hG) (e_X9_emit E (by omega) (rtok Z) 0 h hG (it (rnxt Z)).2 hit1.2) rfl rfl (Nat.le_of_ble_eq_true rfl) ?_
        refine gf_pop dX9_readRow_65 rfl ?_
        refine gf_iinc (1) dX9_readRow_66 rfl rfl (Nat.le_of_ble_eq_true rfl) ?_
        refine gf_goto 13 dX9_readRow_69 rfl ?_
        rw [show rwL it r (n + 1) Z = rwL it r n (remi (it (rnxt Z)).2 (rtok Z) 0) from (if_pos hjn).trans (rbd_t hb53)]
        exact gf_lw (ih (by omega) _ (remi_I hit1.2)) ⟨rfl, rfl, rfl, lvE (show nI (600 - (n + 1)) + 1 = nI (600 - n) from by rw [nI_1]; exact congrArg nI (by omega)), trivial⟩
      · have hb53 := bI_f zc53
        refine gf_iconst (0) dX9_readRow_56 rfl ?_
        exact gf_bret dX9_readRow_57 rfl (by rw [show rwL it r (n + 1) Z = _ from (if_pos hjn).trans (rbd_f hb53)]; first | done | rfl) (by rw [show rwL it r (n + 1) Z = _ from (if_pos hjn).trans (rbd_f hb53)]; first | done | rfl)
theorem e_X9_readRow (E : gE) {d : Nat} (hd : 3 ≤ d) {r o : Nat} (it : rZ → Bool × rZ) (h : hp_T) (hG : gr h) (hr : r < 4) (hit : pcO E mX9_readItem (d - 1) [.int (nI r), .int (nI o)] it h) : pcO E mX9_readRow d [.int (nI r), .int (nI o)] (rowS it r) h := by
  intro Z I
  have hit1 := hit Z I
  refine ⟨?_, rbd_I hit1.2 (fun Y hY => rwL_I (fun Z I => (hit Z I).2) 600 Y hY)⟩
  refine ev_of rfl (fun q => absurd q (by decide)) (Nat.le_of_ble_eq_true rfl) ?_
  refine gf_aload_n 0 dX9_readRow_0 rfl rfl ?_
  refine gf_iload_n 1 dX9_readRow_1 rfl rfl ?_
  refine gf_iload_n 2 dX9_readRow_2 rfl rfl ?_
  refine gf_callV cmX9_readItem lkX9_114 imX9_readItem seX9_readItem ⟨rfl, by decide⟩ dX9_readRow_3 (d1 := d - 1) (by omega) (gt_150 hG) (hit1.1) rfl rfl (Nat.le_of_ble_eq_true rfl) ?_
  refine gf_if_ne 11 dX9_readRow_6 rfl (fun zc6 => ?_) (fun zc6 => ?_)
  · have hb6 := bI_t zc6
    refine gf_iconst (0) dX9_readRow_11 rfl ?_
    refine gf_istore_n 3 dX9_readRow_12 rfl (Nat.le_of_ble_eq_true rfl) ?_
    rw [show rowS it r Z = rwL it r 600 (it Z).2 from rbd_t hb6]
    exact gf_lw (l_readRow E hd it h hG hr hit 600 (by omega) _ hit1.2) ⟨rfl, rfl, rfl, rfl, trivial⟩
  · have hb6 := bI_f zc6
    refine gf_iconst (0) dX9_readRow_9 rfl ?_
    exact gf_bret dX9_readRow_10 rfl (by rw [show rowS it r Z = _ from rbd_f hb6]; first | done | rfl) (by rw [show rowS it r Z = _ from rbd_f hb6]; first | done | rfl)
theorem e_X9_readItem_0 (E : gE) {d : Nat} (hd : 3 ≤ d) {o : Nat} (g : rZ → Bool × rZ) (h : hp_T) (hG : gr h) (hg : pcO E mX9_readRow (d - 1) [.int (nI 1), .int (nI o)] g h) : pcO E mX9_readItem d [.int (nI 0), .int (nI o)] g h := by
  intro Z I
  have hg1 := hg Z I
  refine ⟨?_, hg1.2⟩
  refine ev_of rfl (fun q => absurd q (by decide)) (Nat.le_of_ble_eq_true rfl) ?_
  refine gf_iload_n 1 dX9_readItem_0 rfl rfl ?_
  refine gf_tableIn 28 dX9_readItem_1 (by decide) (by decide) (by rfl) rfl ?_
  refine gf_aload_n 0 dX9_readItem_28 rfl rfl ?_
  refine gf_iconst (1) dX9_readItem_29 rfl ?_
  refine gf_iload_n 2 dX9_readItem_30 rfl rfl ?_
  refine gf_callV cmX9_readRow lkX9_107 imX9_readRow seX9_readRow ⟨rfl, by decide⟩ dX9_readItem_31 (d1 := d - 1) (by omega) (gt_150 hG) (hg1.1) rfl rfl (Nat.le_of_ble_eq_true rfl) ?_
  exact gf_bret dX9_readItem_34 rfl (rfl) (rfl)
theorem e_X9_readItem_1 (E : gE) {d : Nat} (hd : 3 ≤ d) {o : Nat} (g : rZ → Bool × rZ) (h : hp_T) (hG : gr h) (hg : pcO E mX9_readFact (d - 1) [.int (nI o)] g h) : pcO E mX9_readItem d [.int (nI 1), .int (nI o)] g h := by
  intro Z I
  have hg1 := hg Z I
  refine ⟨?_, hg1.2⟩
  refine ev_of rfl (fun q => absurd q (by decide)) (Nat.le_of_ble_eq_true rfl) ?_
  refine gf_iload_n 1 dX9_readItem_0 rfl rfl ?_
  refine gf_tableIn 35 dX9_readItem_1 (by decide) (by decide) (by rfl) rfl ?_
  refine gf_aload_n 0 dX9_readItem_35 rfl rfl ?_
  refine gf_iload_n 2 dX9_readItem_36 rfl rfl ?_
  refine gf_callV cmX9_readFact lkX9_123 imX9_readFact seX9_readFact ⟨rfl, by decide⟩ dX9_readItem_37 (d1 := d - 1) (by omega) (gt_150 hG) (hg1.1) rfl rfl (Nat.le_of_ble_eq_true rfl) ?_
  exact gf_bret dX9_readItem_40 rfl (rfl) (rfl)
theorem e_X9_readItem_2 (E : gE) {d : Nat} (hd : 3 ≤ d) {o : Nat} (g : rZ → Bool × rZ) (h : hp_T) (hG : gr h) (hg : pcO E mX9_readRow (d - 1) [.int (nI 3), .int (nI o)] g h) : pcO E mX9_readItem d [.int (nI 2), .int (nI o)] g h := by
  intro Z I
  have hg1 := hg Z I
  refine ⟨?_, hg1.2⟩
  refine ev_of rfl (fun q => absurd q (by decide)) (Nat.le_of_ble_eq_true rfl) ?_
  refine gf_iload_n 1 dX9_readItem_0 rfl rfl ?_
  refine gf_tableIn 41 dX9_readItem_1 (by decide) (by decide) (by rfl) rfl ?_
  refine gf_aload_n 0 dX9_readItem_41 rfl rfl ?_
  refine gf_iconst (3) dX9_readItem_42 rfl ?_
  refine gf_iload_n 2 dX9_readItem_43 rfl rfl ?_
  refine gf_callV cmX9_readRow lkX9_107 imX9_readRow seX9_readRow ⟨rfl, by decide⟩ dX9_readItem_44 (d1 := d - 1) (by omega) (gt_150 hG) (hg1.1) rfl rfl (Nat.le_of_ble_eq_true rfl) ?_
  exact gf_bret dX9_readItem_47 rfl (rfl) (rfl)
theorem e_X9_readItem_3 (E : gE) {d : Nat} (hd : 3 ≤ d) {o : Nat} (g : rZ → Bool × rZ) (h : hp_T) (hG : gr h) (hg : pcO E mX9_readPart (d - 1) [.int (nI o)] g h) : pcO E mX9_readItem d [.int (nI 3), .int (nI o)] g h := by
  intro Z I
  have hg1 := hg Z I
  refine ⟨?_, hg1.2⟩
  refine ev_of rfl (fun q => absurd q (by decide)) (Nat.le_of_ble_eq_true rfl) ?_
  refine gf_iload_n 1 dX9_readItem_0 rfl rfl ?_
  refine gf_tableOut 48 dX9_readItem_1 (by decide) rfl ?_
  refine gf_aload_n 0 dX9_readItem_48 rfl rfl ?_
  refine gf_iload_n 2 dX9_readItem_49 rfl rfl ?_
  refine gf_callV cmX9_readPart lkX9_126 imX9_readPart seX9_readPart ⟨rfl, by decide⟩ dX9_readItem_50 (d1 := d - 1) (by omega) (gt_150 hG) (hg1.1) rfl rfl (Nat.le_of_ble_eq_true rfl) ?_
  exact gf_bret dX9_readItem_53 rfl (rfl) (rfl)
theorem rent_o {Z : rZ} {t : Int32} {o : Nat} (ho : o ≤ 6) (h : (rent Z t (nI o)).1 = true) : o < 6 := by
  unfold rent at h
  split at h
  · split at h
    · rename_i e
      rcases Nat.lt_or_ge o 6 with q | q
      · exact q
      · exact absurd e (nI_nlt (b := 6) q (by omega))
    · cases h
  · cases h
theorem facS_I {fa r0 cm : rZ → Bool × rZ} {o : Nat} {Z : rZ} (I : rdI Z) (ho : o ≤ 6) (hfa : o < 6 → ∀ Y, rdI Y → rdI (fa Y).2) (hr0 : o < 6 → ∀ Y, rdI Y → rdI (r0 Y).2) (hcm : ∀ Y, rdI Y → rdI (cm Y).2) : rdI (facS fa r0 cm o Z).2 := by
  unfold facS
  split
  · exact rbd_I (rpas_I I (by decide)) (fun Y hY => remi_I hY)
  · split
    · exact rbd_I (rpas_I I (by decide)) (fun Y hY => rnum_I hY)
    · split
      · cases e : (rent Z 11 (nI o)).1 with
        | false => rw [rbd_f e]; exact rent_I I (by decide)
        | true => rw [rbd_t e]; exact rbd_I (hfa (rent_o ho e) _ (rent_I I (by decide))) (fun Y hY => remi_I hY)
      · split
        · cases e : (rent Z 91 (nI o)).1 with
          | false => rw [rbd_f e]; exact rent_I I (by decide)
          | true => rw [rbd_t e]; exact rbd_I (hr0 (rent_o ho e) _ (rent_I I (by decide))) (fun Y hY => rpas_I hY (by decide))
        · exact hcm _ I
theorem e_X9_readFact (E : gE) {d : Nat} (hd : 4 ≤ d) {o : Nat} (fa r0 cm : rZ → Bool × rZ) (h : hp_T) (hG : gr h) (ho : o ≤ 6) (hfa : o < 6 → pcO E mX9_readFact (d - 1) [.int (nI (o + 1))] fa h) (hr0 : o < 6 → pcO E mX9_readRow (d - 1) [.int (nI 0), .int (nI (o + 1))] r0 h) (hcm : pcO E mX9_readComparison (d - 1) [.int (nI o)] cm h) : pcO E mX9_readFact d [.int (nI o)] (facS fa r0 cm o) h := by
  intro Z I
  have hc1 := hcm Z I
  refine ⟨?_, facS_I I ho (fun w Y hY => (hfa w Y hY).2) (fun w Y hY => (hr0 w Y hY).2) (fun Y hY => (hcm Y hY).2)⟩
  refine ev_of rfl (fun q => absurd q (by decide)) (Nat.le_of_ble_eq_true rfl) ?_
  refine gf_aload_n 0 dX9_readFact_0 rfl rfl ?_
  refine gf_callV cmX9_token lkX9_55 imX9_token seX9_token ⟨rfl, by decide⟩ dX9_readFact_1 (d1 := d - 1) (by omega) (gt_150 hG) (e_X9_token E (by omega) h hG Z I) rfl rfl (Nat.le_of_ble_eq_true rfl) ?_
  by_cases zs4_9 : rtok Z = 9
  · refine gf_lookup 120 dX9_readFact_4 (by decide) (off := 116) (by rw [zs4_9]; decide) rfl ?_
    refine gf_aload_n 0 dX9_readFact_120 rfl rfl ?_
    refine gf_bipush (9) dX9_readFact_121 rfl ?_
    refine gf_callV cmX9_pass lkX9_110 imX9_pass seX9_pass ⟨rfl, by decide⟩ dX9_readFact_123 (d1 := d - 1) (by omega) (gt_150 hG) (e_X9_pass E (by omega) 9 h hG Z I) rfl rfl (Nat.le_of_ble_eq_true rfl) ?_
    refine gf_if_eq 143 dX9_readFact_126 rfl (fun zc126 => ?_) (fun zc126 => ?_)
    · have hb126 := bI_f zc126
      refine gf_iconst (0) dX9_readFact_143 rfl ?_
      exact gf_bret dX9_readFact_144 rfl (by rw [show facS fa r0 cm o Z = _ from (if_pos zs4_9).trans (rbd_f hb126)]; first | done | rfl) (by rw [show facS fa r0 cm o Z = _ from (if_pos zs4_9).trans (rbd_f hb126)]; first | done | rfl)
    · have hb126 := bI_t zc126
      refine gf_aload_n 0 dX9_readFact_129 rfl rfl ?_
      refine gf_bipush (9) dX9_readFact_130 rfl ?_
      refine gf_iconst (0) dX9_readFact_132 rfl ?_
      refine gf_callV cmX9_emit lkX9_120 imX9_emit seX9_emit ⟨rfl, by decide⟩ dX9_readFact_133 (d1 := d - 1) (by omega) (gt_150 hG) (e_X9_emit E (by omega) 9 0 h hG (rpas Z 9).2 (rpas_I I (by decide))) rfl rfl (Nat.le_of_ble_eq_true rfl) ?_
      refine gf_if_eq 143 dX9_readFact_136 rfl (fun q => absurd q (by decide)) (fun _ => ?_)
      refine gf_iconst (1) dX9_readFact_139 rfl ?_
      refine gf_goto 144 dX9_readFact_140 rfl ?_
      exact gf_bret dX9_readFact_144 rfl (by rw [show facS fa r0 cm o Z = _ from (if_pos zs4_9).trans (rbd_t hb126)]; first | done | rfl) (by rw [show facS fa r0 cm o Z = _ from (if_pos zs4_9).trans (rbd_t hb126)]; first | done | rfl)
  by_cases zs4_10 : rtok Z = 10
  · refine gf_lookup 145 dX9_readFact_4 (by decide) (off := 141) (by rw [zs4_10]; decide) rfl ?_
    refine gf_aload_n 0 dX9_readFact_145 rfl rfl ?_
    refine gf_bipush (10) dX9_readFact_146 rfl ?_
    refine gf_callV cmX9_pass lkX9_110 imX9_pass seX9_pass ⟨rfl, by decide⟩ dX9_readFact_148 (d1 := d - 1) (by omega) (gt_150 hG) (e_X9_pass E (by omega) 10 h hG Z I) rfl rfl (Nat.le_of_ble_eq_true rfl) ?_
    refine gf_if_eq 169 dX9_readFact_151 rfl (fun zc151 => ?_) (fun zc151 => ?_)
    · have hb151 := bI_f zc151
      refine gf_iconst (0) dX9_readFact_169 rfl ?_
      exact gf_bret dX9_readFact_170 rfl (by rw [show facS fa r0 cm o Z = _ from (if_neg zs4_9).trans ((if_pos zs4_10).trans (rbd_f hb151))]; first | done | rfl) (by rw [show facS fa r0 cm o Z = _ from (if_neg zs4_9).trans ((if_pos zs4_10).trans (rbd_f hb151))]; first | done | rfl)
    · have hb151 := bI_t zc151
      refine gf_aload_n 0 dX9_readFact_154 rfl rfl ?_
      refine gf_bipush (10) dX9_readFact_155 rfl ?_
      refine gf_bipush (8) dX9_readFact_157 rfl ?_
      refine gf_callV cmX9_readNumber lkX9_132 imX9_readNumber seX9_readNumber ⟨rfl, by decide⟩ dX9_readFact_159 (d1 := d - 1) (by omega) (gt_150 hG) (e_X9_readNumber E (by omega) 10 8 h hG (rpas Z 10).2 (rpas_I I (by decide))) rfl rfl (Nat.le_of_ble_eq_true rfl) ?_
      refine gf_if_eq 169 dX9_readFact_162 rfl (fun zc162 => ?_) (fun zc162 => ?_)
      · have hb162 := bI_f zc162
        refine gf_iconst (0) dX9_readFact_169 rfl ?_
        exact gf_bret dX9_readFact_170 rfl (by rw [show facS fa r0 cm o Z = _ from (if_neg zs4_9).trans ((if_pos zs4_10).trans (rbd_t hb151))]; first | done | (rw [hb162]; first | done | rfl)) (by rw [show facS fa r0 cm o Z = _ from (if_neg zs4_9).trans ((if_pos zs4_10).trans (rbd_t hb151))]; first | done | rfl)
      · have hb162 := bI_t zc162
        refine gf_iconst (1) dX9_readFact_165 rfl ?_
        refine gf_goto 170 dX9_readFact_166 rfl ?_
        exact gf_bret dX9_readFact_170 rfl (by rw [show facS fa r0 cm o Z = _ from (if_neg zs4_9).trans ((if_pos zs4_10).trans (rbd_t hb151))]; first | done | (rw [hb162]; first | done | rfl)) (by rw [show facS fa r0 cm o Z = _ from (if_neg zs4_9).trans ((if_pos zs4_10).trans (rbd_t hb151))]; first | done | rfl)
  by_cases zs4_11 : rtok Z = 11
  · refine gf_lookup 48 dX9_readFact_4 (by decide) (off := 44) (by rw [zs4_11]; decide) rfl ?_
    refine gf_aload_n 0 dX9_readFact_48 rfl rfl ?_
    refine gf_bipush (11) dX9_readFact_49 rfl ?_
    refine gf_iload_n 1 dX9_readFact_51 rfl rfl ?_
    refine gf_callV cmX9_enter lkX9_129 imX9_enter seX9_enter ⟨rfl, by decide⟩ dX9_readFact_52 (d1 := d - 1) (by omega) (gt_150 hG) (e_X9_enter E (by omega) 11 (nI o) h hG Z I) rfl rfl (Nat.le_of_ble_eq_true rfl) ?_
    refine gf_if_eq 82 dX9_readFact_55 rfl (fun zc55 => ?_) (fun zc55 => ?_)
    · have hb55 := bI_f zc55
      refine gf_iconst (0) dX9_readFact_82 rfl ?_
      exact gf_bret dX9_readFact_83 rfl (by rw [show facS fa r0 cm o Z = _ from (if_neg zs4_9).trans ((if_neg zs4_10).trans ((if_pos zs4_11).trans (rbd_f hb55)))]; first | done | rfl) (by rw [show facS fa r0 cm o Z = _ from (if_neg zs4_9).trans ((if_neg zs4_10).trans ((if_pos zs4_11).trans (rbd_f hb55)))]; first | done | rfl)
    · have hb55 := bI_t zc55
      have ho6 := rent_o ho hb55
      have hf1 := hfa ho6 (rent Z 11 (nI o)).2 (rent_I I (by decide))
      refine gf_aload_n 0 dX9_readFact_58 rfl rfl ?_
      refine gf_iload_n 1 dX9_readFact_59 rfl rfl ?_
      refine gf_iconst (1) dX9_readFact_60 rfl ?_
      refine gf_iadd dX9_readFact_61 ?_
      rw [nI_1]
      refine gf_callV cmX9_readFact lkX9_123 imX9_readFact seX9_readFact ⟨rfl, by decide⟩ dX9_readFact_62 (d1 := d - 1) (by omega) (gt_150 hG) (hf1.1) rfl rfl (Nat.le_of_ble_eq_true rfl) ?_
      refine gf_if_eq 82 dX9_readFact_65 rfl (fun zc65 => ?_) (fun zc65 => ?_)
      · have hb65 := bI_f zc65
        refine gf_iconst (0) dX9_readFact_82 rfl ?_
        exact gf_bret dX9_readFact_83 rfl (by rw [show facS fa r0 cm o Z = _ from (if_neg zs4_9).trans ((if_neg zs4_10).trans ((if_pos zs4_11).trans ((rbd_t hb55).trans (rbd_f hb65))))]; first | done | rfl) (by rw [show facS fa r0 cm o Z = _ from (if_neg zs4_9).trans ((if_neg zs4_10).trans ((if_pos zs4_11).trans ((rbd_t hb55).trans (rbd_f hb65))))]; first | done | rfl)
      · have hb65 := bI_t zc65
        refine gf_aload_n 0 dX9_readFact_68 rfl rfl ?_
        refine gf_bipush (11) dX9_readFact_69 rfl ?_
        refine gf_iconst (0) dX9_readFact_71 rfl ?_
        refine gf_callV cmX9_emit lkX9_120 imX9_emit seX9_emit ⟨rfl, by decide⟩ dX9_readFact_72 (d1 := d - 1) (by omega) (gt_150 hG) (e_X9_emit E (by omega) 11 0 h hG _ hf1.2) rfl rfl (Nat.le_of_ble_eq_true rfl) ?_
        refine gf_if_eq 82 dX9_readFact_75 rfl (fun q => absurd q (by decide)) (fun _ => ?_)
        refine gf_iconst (1) dX9_readFact_78 rfl ?_
        refine gf_goto 83 dX9_readFact_79 rfl ?_
        exact gf_bret dX9_readFact_83 rfl (by rw [show facS fa r0 cm o Z = _ from (if_neg zs4_9).trans ((if_neg zs4_10).trans ((if_pos zs4_11).trans ((rbd_t hb55).trans (rbd_t hb65))))]; first | done | rfl) (by rw [show facS fa r0 cm o Z = _ from (if_neg zs4_9).trans ((if_neg zs4_10).trans ((if_pos zs4_11).trans ((rbd_t hb55).trans (rbd_t hb65))))]; first | done | rfl)
  by_cases zs4_91 : rtok Z = 91
  · refine gf_lookup 84 dX9_readFact_4 (by decide) (off := 80) (by rw [zs4_91]; decide) rfl ?_
    refine gf_aload_n 0 dX9_readFact_84 rfl rfl ?_
    refine gf_bipush (91) dX9_readFact_85 rfl ?_
    refine gf_iload_n 1 dX9_readFact_87 rfl rfl ?_
    refine gf_callV cmX9_enter lkX9_129 imX9_enter seX9_enter ⟨rfl, by decide⟩ dX9_readFact_88 (d1 := d - 1) (by omega) (gt_150 hG) (e_X9_enter E (by omega) 91 (nI o) h hG Z I) rfl rfl (Nat.le_of_ble_eq_true rfl) ?_
    refine gf_if_eq 118 dX9_readFact_91 rfl (fun zc91 => ?_) (fun zc91 => ?_)
    · have hb91 := bI_f zc91
      refine gf_iconst (0) dX9_readFact_118 rfl ?_
      exact gf_bret dX9_readFact_119 rfl (by rw [show facS fa r0 cm o Z = _ from (if_neg zs4_9).trans ((if_neg zs4_10).trans ((if_neg zs4_11).trans ((if_pos zs4_91).trans (rbd_f hb91))))]; first | done | rfl) (by rw [show facS fa r0 cm o Z = _ from (if_neg zs4_9).trans ((if_neg zs4_10).trans ((if_neg zs4_11).trans ((if_pos zs4_91).trans (rbd_f hb91))))]; first | done | rfl)
    · have hb91 := bI_t zc91
      have ho6 := rent_o ho hb91
      have hr1 := hr0 ho6 (rent Z 91 (nI o)).2 (rent_I I (by decide))
      refine gf_aload_n 0 dX9_readFact_94 rfl rfl ?_
      refine gf_iconst (0) dX9_readFact_95 rfl ?_
      refine gf_iload_n 1 dX9_readFact_96 rfl rfl ?_
      refine gf_iconst (1) dX9_readFact_97 rfl ?_
      refine gf_iadd dX9_readFact_98 ?_
      rw [nI_1]
      refine gf_callV cmX9_readRow lkX9_107 imX9_readRow seX9_readRow ⟨rfl, by decide⟩ dX9_readFact_99 (d1 := d - 1) (by omega) (gt_150 hG) (hr1.1) rfl rfl (Nat.le_of_ble_eq_true rfl) ?_
      refine gf_if_eq 118 dX9_readFact_102 rfl (fun zc102 => ?_) (fun zc102 => ?_)
      · have hb102 := bI_f zc102
        refine gf_iconst (0) dX9_readFact_118 rfl ?_
        exact gf_bret dX9_readFact_119 rfl (by rw [show facS fa r0 cm o Z = _ from (if_neg zs4_9).trans ((if_neg zs4_10).trans ((if_neg zs4_11).trans ((if_pos zs4_91).trans ((rbd_t hb91).trans (rbd_f hb102)))))]; first | done | rfl) (by rw [show facS fa r0 cm o Z = _ from (if_neg zs4_9).trans ((if_neg zs4_10).trans ((if_neg zs4_11).trans ((if_pos zs4_91).trans ((rbd_t hb91).trans (rbd_f hb102)))))]; first | done | rfl)
      · have hb102 := bI_t zc102
        refine gf_aload_n 0 dX9_readFact_105 rfl rfl ?_
        refine gf_bipush (93) dX9_readFact_106 rfl ?_
        refine gf_callV cmX9_pass lkX9_110 imX9_pass seX9_pass ⟨rfl, by decide⟩ dX9_readFact_108 (d1 := d - 1) (by omega) (gt_150 hG) (e_X9_pass E (by omega) 93 h hG _ hr1.2) rfl rfl (Nat.le_of_ble_eq_true rfl) ?_
        refine gf_if_eq 118 dX9_readFact_111 rfl (fun zc111 => ?_) (fun zc111 => ?_)
        · have hb111 := bI_f zc111
          refine gf_iconst (0) dX9_readFact_118 rfl ?_
          exact gf_bret dX9_readFact_119 rfl (by rw [show facS fa r0 cm o Z = _ from (if_neg zs4_9).trans ((if_neg zs4_10).trans ((if_neg zs4_11).trans ((if_pos zs4_91).trans ((rbd_t hb91).trans (rbd_t hb102)))))]; first | done | (rw [hb111]; first | done | rfl)) (by rw [show facS fa r0 cm o Z = _ from (if_neg zs4_9).trans ((if_neg zs4_10).trans ((if_neg zs4_11).trans ((if_pos zs4_91).trans ((rbd_t hb91).trans (rbd_t hb102)))))]; first | done | rfl)
        · have hb111 := bI_t zc111
          refine gf_iconst (1) dX9_readFact_114 rfl ?_
          refine gf_goto 119 dX9_readFact_115 rfl ?_
          exact gf_bret dX9_readFact_119 rfl (by rw [show facS fa r0 cm o Z = _ from (if_neg zs4_9).trans ((if_neg zs4_10).trans ((if_neg zs4_11).trans ((if_pos zs4_91).trans ((rbd_t hb91).trans (rbd_t hb102)))))]; first | done | (rw [hb111]; first | done | rfl)) (by rw [show facS fa r0 cm o Z = _ from (if_neg zs4_9).trans ((if_neg zs4_10).trans ((if_neg zs4_11).trans ((if_pos zs4_91).trans ((rbd_t hb91).trans (rbd_t hb102)))))]; first | done | rfl)
  refine gf_lookup 171 dX9_readFact_4 (by decide) (off := 167) (by have y9 : ¬ (9 : Int) = (rtok Z).toInt := fun z => zs4_9 ((fa_eq _ _).mpr z.symm); have y10 : ¬ (10 : Int) = (rtok Z).toInt := fun z => zs4_10 ((fa_eq _ _).mpr z.symm); have y11 : ¬ (11 : Int) = (rtok Z).toInt := fun z => zs4_11 ((fa_eq _ _).mpr z.symm); have y91 : ¬ (91 : Int) = (rtok Z).toInt := fun z => zs4_91 ((fa_eq _ _).mpr z.symm); simp only [Op.lookupswitch.offset]; rw [if_neg y9, if_neg y10, if_neg y11, if_neg y91]) rfl ?_
  refine gf_aload_n 0 dX9_readFact_171 rfl rfl ?_
  refine gf_iload_n 1 dX9_readFact_172 rfl rfl ?_
  refine gf_callV cmX9_readComparison lkX9_135 imX9_readComparison seX9_readComparison ⟨rfl, by decide⟩ dX9_readFact_173 (d1 := d - 1) (by omega) (gt_150 hG) (hc1.1) rfl rfl (Nat.le_of_ble_eq_true rfl) ?_
  exact gf_bret dX9_readFact_176 rfl (by rw [show facS fa r0 cm o Z = _ from (if_neg zs4_9).trans ((if_neg zs4_10).trans ((if_neg zs4_11).trans (if_neg zs4_91)))]; first | done | rfl) (by rw [show facS fa r0 cm o Z = _ from (if_neg zs4_9).trans ((if_neg zs4_10).trans ((if_neg zs4_11).trans (if_neg zs4_91)))]; first | done | rfl)
theorem cmpS_I {r2 : rZ → Bool × rZ} {Z : rZ} (I : rdI Z) (h2 : ∀ Y, rdI Y → rdI (r2 Y).2) : rdI (cmpS r2 Z).2 := by
  unfold cmpS
  refine rbd_I (h2 _ I) (fun Y hY => ?_)
  split
  · rename_i e
    refine rbd_I (rpas_I hY (fun q => by rw [q] at e; revert e; decide)) (fun Y2 hY2 => rbd_I (h2 _ hY2) (fun Y3 hY3 => remi_I hY3))
  · exact rref_I _ _ hY
theorem e_X9_readComparison (E : gE) {d : Nat} (hd : 4 ≤ d) {o : Nat} (r2 : rZ → Bool × rZ) (h : hp_T) (hG : gr h) (hr2 : pcO E mX9_readRow (d - 1) [.int (nI 2), .int (nI o)] r2 h) : pcO E mX9_readComparison d [.int (nI o)] (cmpS r2) h := by
  intro Z I
  have h21 := hr2 Z I
  refine ⟨?_, cmpS_I I (fun Y hY => (hr2 Y hY).2)⟩
  refine ev_of rfl (fun q => absurd q (by decide)) (Nat.le_of_ble_eq_true rfl) ?_
  refine gf_aload_n 0 dX9_readComparison_0 rfl rfl ?_
  refine gf_iconst (2) dX9_readComparison_1 rfl ?_
  refine gf_iload_n 1 dX9_readComparison_2 rfl rfl ?_
  refine gf_callV cmX9_readRow lkX9_107 imX9_readRow seX9_readRow ⟨rfl, by decide⟩ dX9_readComparison_3 (d1 := d - 1) (by omega) (gt_150 hG) (h21.1) rfl rfl (Nat.le_of_ble_eq_true rfl) ?_
  refine gf_if_ne 11 dX9_readComparison_6 rfl (fun zc6 => ?_) (fun zc6 => ?_)
  · have hb6 := bI_t zc6
    refine gf_aload_n 0 dX9_readComparison_11 rfl rfl ?_
    refine gf_callV cmX9_token lkX9_55 imX9_token seX9_token ⟨rfl, by decide⟩ dX9_readComparison_12 (d1 := d - 1) (by omega) (gt_150 hG) (e_X9_token E (by omega) h hG (r2 Z).2 h21.2) rfl rfl (Nat.le_of_ble_eq_true rfl) ?_
    refine gf_istore_n 2 dX9_readComparison_15 rfl (Nat.le_of_ble_eq_true rfl) ?_
    refine gf_iload_n 2 dX9_readComparison_16 rfl rfl ?_
    refine gf_bipush (60) dX9_readComparison_17 rfl ?_
    refine gf_icmp_eq 44 dX9_readComparison_19 rfl (fun zc19 => ?_) (fun zc19 => ?_)
    · have hsg : rtok (r2 Z).2 = 60 ∨ rtok (r2 Z).2 = 62 ∨ rtok (r2 Z).2 = 61 := Or.inl zc19
      refine gf_aload_n 0 dX9_readComparison_44 rfl rfl ?_
      refine gf_iload_n 2 dX9_readComparison_45 rfl rfl ?_
      refine gf_callV cmX9_pass lkX9_110 imX9_pass seX9_pass ⟨rfl, by decide⟩ dX9_readComparison_46 (d1 := d - 1) (by omega) (gt_150 hG) (e_X9_pass E (by omega) (rtok (r2 Z).2) h hG (r2 Z).2 h21.2) rfl rfl (Nat.le_of_ble_eq_true rfl) ?_
      refine gf_if_eq 74 dX9_readComparison_49 rfl (fun zc49 => ?_) (fun zc49 => ?_)
      · have hb49 := bI_f zc49
        refine gf_iconst (0) dX9_readComparison_74 rfl ?_
        exact gf_bret dX9_readComparison_75 rfl (by rw [show cmpS r2 Z = _ from (rbd_t hb6).trans ((if_pos hsg).trans (rbd_f hb49))]; first | done | rfl) (by rw [show cmpS r2 Z = _ from (rbd_t hb6).trans ((if_pos hsg).trans (rbd_f hb49))]; first | done | rfl)
      · have h22 := hr2 (rpas (r2 Z).2 (rtok (r2 Z).2)).2 (rpas_I h21.2 (fun q => by rw [q] at hsg; revert hsg; decide))
        have hb49 := bI_t zc49
        refine gf_aload_n 0 dX9_readComparison_52 rfl rfl ?_
        refine gf_iconst (2) dX9_readComparison_53 rfl ?_
        refine gf_iload_n 1 dX9_readComparison_54 rfl rfl ?_
        refine gf_callV cmX9_readRow lkX9_107 imX9_readRow seX9_readRow ⟨rfl, by decide⟩ dX9_readComparison_55 (d1 := d - 1) (by omega) (gt_150 hG) (h22.1) rfl rfl (Nat.le_of_ble_eq_true rfl) ?_
        refine gf_if_eq 74 dX9_readComparison_58 rfl (fun zc58 => ?_) (fun zc58 => ?_)
        · have hb58 := bI_f zc58
          refine gf_iconst (0) dX9_readComparison_74 rfl ?_
          exact gf_bret dX9_readComparison_75 rfl (by rw [show cmpS r2 Z = _ from (rbd_t hb6).trans ((if_pos hsg).trans ((rbd_t hb49).trans (rbd_f hb58)))]; first | done | rfl) (by rw [show cmpS r2 Z = _ from (rbd_t hb6).trans ((if_pos hsg).trans ((rbd_t hb49).trans (rbd_f hb58)))]; first | done | rfl)
        · have hb58 := bI_t zc58
          refine gf_aload_n 0 dX9_readComparison_61 rfl rfl ?_
          refine gf_iload_n 2 dX9_readComparison_62 rfl rfl ?_
          refine gf_iconst (0) dX9_readComparison_63 rfl ?_
          refine gf_callV cmX9_emit lkX9_120 imX9_emit seX9_emit ⟨rfl, by decide⟩ dX9_readComparison_64 (d1 := d - 1) (by omega) (gt_150 hG) (e_X9_emit E (by omega) (rtok (r2 Z).2) 0 h hG _ h22.2) rfl rfl (Nat.le_of_ble_eq_true rfl) ?_
          refine gf_if_eq 74 dX9_readComparison_67 rfl (fun q => absurd q (by decide)) (fun _ => ?_)
          refine gf_iconst (1) dX9_readComparison_70 rfl ?_
          refine gf_goto 75 dX9_readComparison_71 rfl ?_
          exact gf_bret dX9_readComparison_75 rfl (by rw [show cmpS r2 Z = _ from (rbd_t hb6).trans ((if_pos hsg).trans ((rbd_t hb49).trans (rbd_t hb58)))]; first | done | rfl) (by rw [show cmpS r2 Z = _ from (rbd_t hb6).trans ((if_pos hsg).trans ((rbd_t hb49).trans (rbd_t hb58)))]; first | done | rfl)
    · refine gf_iload_n 2 dX9_readComparison_22 rfl rfl ?_
      refine gf_bipush (62) dX9_readComparison_23 rfl ?_
      refine gf_icmp_eq 44 dX9_readComparison_25 rfl (fun zc25 => ?_) (fun zc25 => ?_)
      · have hsg : rtok (r2 Z).2 = 60 ∨ rtok (r2 Z).2 = 62 ∨ rtok (r2 Z).2 = 61 := Or.inr (Or.inl zc25)
        refine gf_aload_n 0 dX9_readComparison_44 rfl rfl ?_
        refine gf_iload_n 2 dX9_readComparison_45 rfl rfl ?_
        refine gf_callV cmX9_pass lkX9_110 imX9_pass seX9_pass ⟨rfl, by decide⟩ dX9_readComparison_46 (d1 := d - 1) (by omega) (gt_150 hG) (e_X9_pass E (by omega) (rtok (r2 Z).2) h hG (r2 Z).2 h21.2) rfl rfl (Nat.le_of_ble_eq_true rfl) ?_
        refine gf_if_eq 74 dX9_readComparison_49 rfl (fun zc49 => ?_) (fun zc49 => ?_)
        · have hb49 := bI_f zc49
          refine gf_iconst (0) dX9_readComparison_74 rfl ?_
          exact gf_bret dX9_readComparison_75 rfl (by rw [show cmpS r2 Z = _ from (rbd_t hb6).trans ((if_pos hsg).trans (rbd_f hb49))]; first | done | rfl) (by rw [show cmpS r2 Z = _ from (rbd_t hb6).trans ((if_pos hsg).trans (rbd_f hb49))]; first | done | rfl)
        · have h22 := hr2 (rpas (r2 Z).2 (rtok (r2 Z).2)).2 (rpas_I h21.2 (fun q => by rw [q] at hsg; revert hsg; decide))
          have hb49 := bI_t zc49
          refine gf_aload_n 0 dX9_readComparison_52 rfl rfl ?_
          refine gf_iconst (2) dX9_readComparison_53 rfl ?_
          refine gf_iload_n 1 dX9_readComparison_54 rfl rfl ?_
          refine gf_callV cmX9_readRow lkX9_107 imX9_readRow seX9_readRow ⟨rfl, by decide⟩ dX9_readComparison_55 (d1 := d - 1) (by omega) (gt_150 hG) (h22.1) rfl rfl (Nat.le_of_ble_eq_true rfl) ?_
          refine gf_if_eq 74 dX9_readComparison_58 rfl (fun zc58 => ?_) (fun zc58 => ?_)
          · have hb58 := bI_f zc58
            refine gf_iconst (0) dX9_readComparison_74 rfl ?_
            exact gf_bret dX9_readComparison_75 rfl (by rw [show cmpS r2 Z = _ from (rbd_t hb6).trans ((if_pos hsg).trans ((rbd_t hb49).trans (rbd_f hb58)))]; first | done | rfl) (by rw [show cmpS r2 Z = _ from (rbd_t hb6).trans ((if_pos hsg).trans ((rbd_t hb49).trans (rbd_f hb58)))]; first | done | rfl)
          · have hb58 := bI_t zc58
            refine gf_aload_n 0 dX9_readComparison_61 rfl rfl ?_
            refine gf_iload_n 2 dX9_readComparison_62 rfl rfl ?_
            refine gf_iconst (0) dX9_readComparison_63 rfl ?_
            refine gf_callV cmX9_emit lkX9_120 imX9_emit seX9_emit ⟨rfl, by decide⟩ dX9_readComparison_64 (d1 := d - 1) (by omega) (gt_150 hG) (e_X9_emit E (by omega) (rtok (r2 Z).2) 0 h hG _ h22.2) rfl rfl (Nat.le_of_ble_eq_true rfl) ?_
            refine gf_if_eq 74 dX9_readComparison_67 rfl (fun q => absurd q (by decide)) (fun _ => ?_)
            refine gf_iconst (1) dX9_readComparison_70 rfl ?_
            refine gf_goto 75 dX9_readComparison_71 rfl ?_
            exact gf_bret dX9_readComparison_75 rfl (by rw [show cmpS r2 Z = _ from (rbd_t hb6).trans ((if_pos hsg).trans ((rbd_t hb49).trans (rbd_t hb58)))]; first | done | rfl) (by rw [show cmpS r2 Z = _ from (rbd_t hb6).trans ((if_pos hsg).trans ((rbd_t hb49).trans (rbd_t hb58)))]; first | done | rfl)
      · refine gf_iload_n 2 dX9_readComparison_28 rfl rfl ?_
        refine gf_bipush (61) dX9_readComparison_29 rfl ?_
        refine gf_icmp_eq 44 dX9_readComparison_31 rfl (fun zc31 => ?_) (fun zc31 => ?_)
        · have hsg : rtok (r2 Z).2 = 60 ∨ rtok (r2 Z).2 = 62 ∨ rtok (r2 Z).2 = 61 := Or.inr (Or.inr zc31)
          refine gf_aload_n 0 dX9_readComparison_44 rfl rfl ?_
          refine gf_iload_n 2 dX9_readComparison_45 rfl rfl ?_
          refine gf_callV cmX9_pass lkX9_110 imX9_pass seX9_pass ⟨rfl, by decide⟩ dX9_readComparison_46 (d1 := d - 1) (by omega) (gt_150 hG) (e_X9_pass E (by omega) (rtok (r2 Z).2) h hG (r2 Z).2 h21.2) rfl rfl (Nat.le_of_ble_eq_true rfl) ?_
          refine gf_if_eq 74 dX9_readComparison_49 rfl (fun zc49 => ?_) (fun zc49 => ?_)
          · have hb49 := bI_f zc49
            refine gf_iconst (0) dX9_readComparison_74 rfl ?_
            exact gf_bret dX9_readComparison_75 rfl (by rw [show cmpS r2 Z = _ from (rbd_t hb6).trans ((if_pos hsg).trans (rbd_f hb49))]; first | done | rfl) (by rw [show cmpS r2 Z = _ from (rbd_t hb6).trans ((if_pos hsg).trans (rbd_f hb49))]; first | done | rfl)
          · have h22 := hr2 (rpas (r2 Z).2 (rtok (r2 Z).2)).2 (rpas_I h21.2 (fun q => by rw [q] at hsg; revert hsg; decide))
            have hb49 := bI_t zc49
            refine gf_aload_n 0 dX9_readComparison_52 rfl rfl ?_
            refine gf_iconst (2) dX9_readComparison_53 rfl ?_
            refine gf_iload_n 1 dX9_readComparison_54 rfl rfl ?_
            refine gf_callV cmX9_readRow lkX9_107 imX9_readRow seX9_readRow ⟨rfl, by decide⟩ dX9_readComparison_55 (d1 := d - 1) (by omega) (gt_150 hG) (h22.1) rfl rfl (Nat.le_of_ble_eq_true rfl) ?_
            refine gf_if_eq 74 dX9_readComparison_58 rfl (fun zc58 => ?_) (fun zc58 => ?_)
            · have hb58 := bI_f zc58
              refine gf_iconst (0) dX9_readComparison_74 rfl ?_
              exact gf_bret dX9_readComparison_75 rfl (by rw [show cmpS r2 Z = _ from (rbd_t hb6).trans ((if_pos hsg).trans ((rbd_t hb49).trans (rbd_f hb58)))]; first | done | rfl) (by rw [show cmpS r2 Z = _ from (rbd_t hb6).trans ((if_pos hsg).trans ((rbd_t hb49).trans (rbd_f hb58)))]; first | done | rfl)
            · have hb58 := bI_t zc58
              refine gf_aload_n 0 dX9_readComparison_61 rfl rfl ?_
              refine gf_iload_n 2 dX9_readComparison_62 rfl rfl ?_
              refine gf_iconst (0) dX9_readComparison_63 rfl ?_
              refine gf_callV cmX9_emit lkX9_120 imX9_emit seX9_emit ⟨rfl, by decide⟩ dX9_readComparison_64 (d1 := d - 1) (by omega) (gt_150 hG) (e_X9_emit E (by omega) (rtok (r2 Z).2) 0 h hG _ h22.2) rfl rfl (Nat.le_of_ble_eq_true rfl) ?_
              refine gf_if_eq 74 dX9_readComparison_67 rfl (fun q => absurd q (by decide)) (fun _ => ?_)
              refine gf_iconst (1) dX9_readComparison_70 rfl ?_
              refine gf_goto 75 dX9_readComparison_71 rfl ?_
              exact gf_bret dX9_readComparison_75 rfl (by rw [show cmpS r2 Z = _ from (rbd_t hb6).trans ((if_pos hsg).trans ((rbd_t hb49).trans (rbd_t hb58)))]; first | done | rfl) (by rw [show cmpS r2 Z = _ from (rbd_t hb6).trans ((if_pos hsg).trans ((rbd_t hb49).trans (rbd_t hb58)))]; first | done | rfl)
        · have hsg : ¬ (rtok (r2 Z).2 = 60 ∨ rtok (r2 Z).2 = 62 ∨ rtok (r2 Z).2 = 61) := fun w => Or.elim w zc19 (fun w => Or.elim w zc25 zc31)
          refine gf_aload_n 0 dX9_readComparison_34 rfl rfl ?_
          refine gf_iconst (1) dX9_readComparison_35 rfl ?_
          refine gf_aload_n 0 dX9_readComparison_36 rfl rfl ?_
          refine gf_callV cmX9_here lkX9_100 imX9_here seX9_here ⟨rfl, by decide⟩ dX9_readComparison_37 (d1 := d - 1) (by omega) (gt_150 hG) (e_X9_here E (by omega) h hG (r2 Z).2 h21.2) rfl rfl (Nat.le_of_ble_eq_true rfl) ?_
          refine gf_callV cmX9_refuse lkX9_103 imX9_refuse seX9_refuse ⟨rfl, by decide⟩ dX9_readComparison_40 (d1 := d - 1) (by omega) (gt_150 hG) (e_X9_refuse E (by omega) 1 (rher (r2 Z).2) h hG (r2 Z).2) rfl rfl (Nat.le_of_ble_eq_true rfl) ?_
          exact gf_bret dX9_readComparison_43 rfl (by rw [show cmpS r2 Z = _ from (rbd_t hb6).trans (if_neg hsg)]; first | done | rfl) (by rw [show cmpS r2 Z = _ from (rbd_t hb6).trans (if_neg hsg)]; first | done | rfl)
  · have hb6 := bI_f zc6
    refine gf_iconst (0) dX9_readComparison_9 rfl ?_
    exact gf_bret dX9_readComparison_10 rfl (by rw [show cmpS r2 Z = _ from rbd_f hb6]; first | done | rfl) (by rw [show cmpS r2 Z = _ from rbd_f hb6]; first | done | rfl)
theorem parS_I {r2 : rZ → Bool × rZ} {o : Nat} {Z : rZ} (I : rdI Z) (ho : o ≤ 6) (h2 : o < 6 → ∀ Y, rdI Y → rdI (r2 Y).2) : rdI (parS r2 o Z).2 := by
  have en : ∀ Y k, rdI Y → (∀ W, o < 6 → rdI W → rdI (k W).2) → rdI (rbd (rent Y 40 (nI o)) k).2 := fun Y k hY hk => by
    cases e : (rent Y 40 (nI o)).1 with
    | false => rw [rbd_f e]; exact rent_I hY (by decide)
    | true => rw [rbd_t e]; exact hk _ (rent_o ho e) (rent_I hY (by decide))
  unfold parS
  split
  · exact rnum_I I
  · split
    · rename_i e
      exact rbd_I (rpas_I I (fun q => by rw [q] at e; exact absurd e (by decide))) (fun Y hY => remi_I hY)
    · split
      · rename_i e
        exact rbd_I (rpas_I I (fun q => by rw [q] at e; revert e; decide)) (fun Y hY => en _ _ hY (fun W w hW => rbd_I (h2 w _ hW) (fun Y hY => rbd_I (rpas_I hY (by decide)) (fun Y hY => rbd_I (h2 w _ hY) (fun Y hY => rbd_I (rpas_I hY (by decide)) (fun Y hY => remi_I hY))))))
      · exact en _ _ I (fun W w hW => rbd_I (h2 w _ hW) (fun Y hY => rpas_I hY (by decide)))
theorem e_X9_readPart (E : gE) {d : Nat} (hd : 4 ≤ d) {o : Nat} (r2 : rZ → Bool × rZ) (h : hp_T) (hG : gr h) (ho : o ≤ 6) (hr2 : o < 6 → pcO E mX9_readRow (d - 1) [.int (nI 2), .int (nI (o + 1))] r2 h) : pcO E mX9_readPart d [.int (nI o)] (parS r2 o) h := by
  intro Z I
  refine ⟨?_, parS_I I ho (fun w Y hY => (hr2 w Y hY).2)⟩
  refine ev_of rfl (fun q => absurd q (by decide)) (Nat.le_of_ble_eq_true rfl) ?_
  refine gf_aload_n 0 dX9_readPart_0 rfl rfl ?_
  refine gf_callV cmX9_token lkX9_55 imX9_token seX9_token ⟨rfl, by decide⟩ dX9_readPart_1 (d1 := d - 1) (by omega) (gt_150 hG) (e_X9_token E (by omega) h hG Z I) rfl rfl (Nat.le_of_ble_eq_true rfl) ?_
  refine gf_istore_n 2 dX9_readPart_4 rfl (Nat.le_of_ble_eq_true rfl) ?_
  refine gf_iload_n 2 dX9_readPart_5 rfl rfl ?_
  refine gf_bipush (23) dX9_readPart_6 rfl ?_
  refine gf_icmp_ne 20 dX9_readPart_8 rfl (fun zc8 => ?_) (fun zc8 => ?_)
  · refine gf_iload_n 2 dX9_readPart_20 rfl rfl ?_
    refine gf_bipush (6) dX9_readPart_21 rfl ?_
    refine gf_icmp_gt 49 dX9_readPart_23 rfl (fun zc23 => ?_) (fun zc23 => ?_)
    · have hw6 : ¬ rtok Z ≤ 6 := fun w => by have q := zc23; rw [fa_lt] at q; rw [fa_le] at w; omega
      refine gf_iload_n 2 dX9_readPart_49 rfl rfl ?_
      refine gf_bipush (7) dX9_readPart_50 rfl ?_
      refine gf_icmp_eq 61 dX9_readPart_52 rfl (fun zc52 => ?_) (fun zc52 => ?_)
      · have hmm : rtok Z = 7 ∨ rtok Z = 8 := Or.inl zc52
        have hn24 : ¬ rtok Z = 24 := fun q => by rw [q] at hmm; revert hmm; decide
        refine gf_aload_n 0 dX9_readPart_61 rfl rfl ?_
        refine gf_iload_n 2 dX9_readPart_62 rfl rfl ?_
        refine gf_callV cmX9_pass lkX9_110 imX9_pass seX9_pass ⟨rfl, by decide⟩ dX9_readPart_63 (d1 := d - 1) (by omega) (gt_150 hG) (e_X9_pass E (by omega) (rtok Z) h hG Z I) rfl rfl (Nat.le_of_ble_eq_true rfl) ?_
        refine gf_if_eq 132 dX9_readPart_66 rfl (fun zc66 => ?_) (fun zc66 => ?_)
        · have hb66 := bI_f zc66
          refine gf_iconst (0) dX9_readPart_132 rfl ?_
          exact gf_bret dX9_readPart_133 rfl (by rw [show parS r2 o Z = _ from (if_neg zc8).trans ((if_neg hw6).trans ((if_pos hmm).trans (rbd_f hb66)))]; first | done | rfl) (by rw [show parS r2 o Z = _ from (if_neg zc8).trans ((if_neg hw6).trans ((if_pos hmm).trans (rbd_f hb66)))]; first | done | rfl)
        · have hb66 := bI_t zc66
          refine gf_aload_n 0 dX9_readPart_69 rfl rfl ?_
          refine gf_bipush (40) dX9_readPart_70 rfl ?_
          refine gf_iload_n 1 dX9_readPart_72 rfl rfl ?_
          refine gf_callV cmX9_enter lkX9_129 imX9_enter seX9_enter ⟨rfl, by decide⟩ dX9_readPart_73 (d1 := d - 1) (by omega) (gt_150 hG) (e_X9_enter E (by omega) 40 (nI o) h hG (rpas Z (rtok Z)).2 (rpas_I I hn24)) rfl rfl (Nat.le_of_ble_eq_true rfl) ?_
          refine gf_if_eq 132 dX9_readPart_76 rfl (fun zc76 => ?_) (fun zc76 => ?_)
          · have hb76 := bI_f zc76
            refine gf_iconst (0) dX9_readPart_132 rfl ?_
            exact gf_bret dX9_readPart_133 rfl (by rw [show parS r2 o Z = _ from (if_neg zc8).trans ((if_neg hw6).trans ((if_pos hmm).trans ((rbd_t hb66).trans (rbd_f hb76))))]; first | done | rfl) (by rw [show parS r2 o Z = _ from (if_neg zc8).trans ((if_neg hw6).trans ((if_pos hmm).trans ((rbd_t hb66).trans (rbd_f hb76))))]; first | done | rfl)
          · have hb76 := bI_t zc76
            have ho6 := rent_o ho hb76
            have k1 := hr2 ho6 (rent (rpas Z (rtok Z)).2 40 (nI o)).2 (rent_I (rpas_I I hn24) (by decide))
            refine gf_aload_n 0 dX9_readPart_79 rfl rfl ?_
            refine gf_iconst (2) dX9_readPart_80 rfl ?_
            refine gf_iload_n 1 dX9_readPart_81 rfl rfl ?_
            refine gf_iconst (1) dX9_readPart_82 rfl ?_
            refine gf_iadd dX9_readPart_83 ?_
            rw [nI_1]
            refine gf_callV cmX9_readRow lkX9_107 imX9_readRow seX9_readRow ⟨rfl, by decide⟩ dX9_readPart_84 (d1 := d - 1) (by omega) (gt_150 hG) (k1.1) rfl rfl (Nat.le_of_ble_eq_true rfl) ?_
            refine gf_if_eq 132 dX9_readPart_87 rfl (fun zc87 => ?_) (fun zc87 => ?_)
            · have hb87 := bI_f zc87
              refine gf_iconst (0) dX9_readPart_132 rfl ?_
              exact gf_bret dX9_readPart_133 rfl (by rw [show parS r2 o Z = _ from (if_neg zc8).trans ((if_neg hw6).trans ((if_pos hmm).trans ((rbd_t hb66).trans ((rbd_t hb76).trans (rbd_f hb87)))))]; first | done | rfl) (by rw [show parS r2 o Z = _ from (if_neg zc8).trans ((if_neg hw6).trans ((if_pos hmm).trans ((rbd_t hb66).trans ((rbd_t hb76).trans (rbd_f hb87)))))]; first | done | rfl)
            · have hb87 := bI_t zc87
              refine gf_aload_n 0 dX9_readPart_90 rfl rfl ?_
              refine gf_bipush (44) dX9_readPart_91 rfl ?_
              refine gf_callV cmX9_pass lkX9_110 imX9_pass seX9_pass ⟨rfl, by decide⟩ dX9_readPart_93 (d1 := d - 1) (by omega) (gt_150 hG) (e_X9_pass E (by omega) 44 h hG _ k1.2) rfl rfl (Nat.le_of_ble_eq_true rfl) ?_
              refine gf_if_eq 132 dX9_readPart_96 rfl (fun zc96 => ?_) (fun zc96 => ?_)
              · have hb96 := bI_f zc96
                refine gf_iconst (0) dX9_readPart_132 rfl ?_
                exact gf_bret dX9_readPart_133 rfl (by rw [show parS r2 o Z = _ from (if_neg zc8).trans ((if_neg hw6).trans ((if_pos hmm).trans ((rbd_t hb66).trans ((rbd_t hb76).trans ((rbd_t hb87).trans (rbd_f hb96))))))]; first | done | rfl) (by rw [show parS r2 o Z = _ from (if_neg zc8).trans ((if_neg hw6).trans ((if_pos hmm).trans ((rbd_t hb66).trans ((rbd_t hb76).trans ((rbd_t hb87).trans (rbd_f hb96))))))]; first | done | rfl)
              · have hb96 := bI_t zc96
                have k2 := hr2 ho6 _ (rpas_I (t := 44) k1.2 (by decide))
                refine gf_aload_n 0 dX9_readPart_99 rfl rfl ?_
                refine gf_iconst (2) dX9_readPart_100 rfl ?_
                refine gf_iload_n 1 dX9_readPart_101 rfl rfl ?_
                refine gf_iconst (1) dX9_readPart_102 rfl ?_
                refine gf_iadd dX9_readPart_103 ?_
                rw [nI_1]
                refine gf_callV cmX9_readRow lkX9_107 imX9_readRow seX9_readRow ⟨rfl, by decide⟩ dX9_readPart_104 (d1 := d - 1) (by omega) (gt_150 hG) (k2.1) rfl rfl (Nat.le_of_ble_eq_true rfl) ?_
                refine gf_if_eq 132 dX9_readPart_107 rfl (fun zc107 => ?_) (fun zc107 => ?_)
                · have hb107 := bI_f zc107
                  refine gf_iconst (0) dX9_readPart_132 rfl ?_
                  exact gf_bret dX9_readPart_133 rfl (by rw [show parS r2 o Z = _ from (if_neg zc8).trans ((if_neg hw6).trans ((if_pos hmm).trans ((rbd_t hb66).trans ((rbd_t hb76).trans ((rbd_t hb87).trans ((rbd_t hb96).trans (rbd_f hb107)))))))]; first | done | rfl) (by rw [show parS r2 o Z = _ from (if_neg zc8).trans ((if_neg hw6).trans ((if_pos hmm).trans ((rbd_t hb66).trans ((rbd_t hb76).trans ((rbd_t hb87).trans ((rbd_t hb96).trans (rbd_f hb107)))))))]; first | done | rfl)
                · have hb107 := bI_t zc107
                  refine gf_aload_n 0 dX9_readPart_110 rfl rfl ?_
                  refine gf_bipush (41) dX9_readPart_111 rfl ?_
                  refine gf_callV cmX9_pass lkX9_110 imX9_pass seX9_pass ⟨rfl, by decide⟩ dX9_readPart_113 (d1 := d - 1) (by omega) (gt_150 hG) (e_X9_pass E (by omega) 41 h hG _ k2.2) rfl rfl (Nat.le_of_ble_eq_true rfl) ?_
                  refine gf_if_eq 132 dX9_readPart_116 rfl (fun zc116 => ?_) (fun zc116 => ?_)
                  · have hb116 := bI_f zc116
                    refine gf_iconst (0) dX9_readPart_132 rfl ?_
                    exact gf_bret dX9_readPart_133 rfl (by rw [show parS r2 o Z = _ from (if_neg zc8).trans ((if_neg hw6).trans ((if_pos hmm).trans ((rbd_t hb66).trans ((rbd_t hb76).trans ((rbd_t hb87).trans ((rbd_t hb96).trans ((rbd_t hb107).trans (rbd_f hb116))))))))]; first | done | rfl) (by rw [show parS r2 o Z = _ from (if_neg zc8).trans ((if_neg hw6).trans ((if_pos hmm).trans ((rbd_t hb66).trans ((rbd_t hb76).trans ((rbd_t hb87).trans ((rbd_t hb96).trans ((rbd_t hb107).trans (rbd_f hb116))))))))]; first | done | rfl)
                  · have hb116 := bI_t zc116
                    refine gf_aload_n 0 dX9_readPart_119 rfl rfl ?_
                    refine gf_iload_n 2 dX9_readPart_120 rfl rfl ?_
                    refine gf_iconst (0) dX9_readPart_121 rfl ?_
                    refine gf_callV cmX9_emit lkX9_120 imX9_emit seX9_emit ⟨rfl, by decide⟩ dX9_readPart_122 (d1 := d - 1) (by omega) (gt_150 hG) (e_X9_emit E (by omega) (rtok Z) 0 h hG _ (rpas_I k2.2 (by decide))) rfl rfl (Nat.le_of_ble_eq_true rfl) ?_
                    refine gf_if_eq 132 dX9_readPart_125 rfl (fun q => absurd q (by decide)) (fun _ => ?_)
                    refine gf_iconst (1) dX9_readPart_128 rfl ?_
                    refine gf_goto 133 dX9_readPart_129 rfl ?_
                    exact gf_bret dX9_readPart_133 rfl (by rw [show parS r2 o Z = _ from (if_neg zc8).trans ((if_neg hw6).trans ((if_pos hmm).trans ((rbd_t hb66).trans ((rbd_t hb76).trans ((rbd_t hb87).trans ((rbd_t hb96).trans ((rbd_t hb107).trans (rbd_t hb116))))))))]; first | done | rfl) (by rw [show parS r2 o Z = _ from (if_neg zc8).trans ((if_neg hw6).trans ((if_pos hmm).trans ((rbd_t hb66).trans ((rbd_t hb76).trans ((rbd_t hb87).trans ((rbd_t hb96).trans ((rbd_t hb107).trans (rbd_t hb116))))))))]; first | done | rfl)
      · refine gf_iload_n 2 dX9_readPart_55 rfl rfl ?_
        refine gf_bipush (8) dX9_readPart_56 rfl ?_
        refine gf_icmp_ne 134 dX9_readPart_58 rfl (fun zc58 => ?_) (fun zc58 => ?_)
        · have hmm : ¬ (rtok Z = 7 ∨ rtok Z = 8) := fun w => Or.elim w zc52 zc58
          refine gf_aload_n 0 dX9_readPart_134 rfl rfl ?_
          refine gf_bipush (40) dX9_readPart_135 rfl ?_
          refine gf_iload_n 1 dX9_readPart_137 rfl rfl ?_
          refine gf_callV cmX9_enter lkX9_129 imX9_enter seX9_enter ⟨rfl, by decide⟩ dX9_readPart_138 (d1 := d - 1) (by omega) (gt_150 hG) (e_X9_enter E (by omega) 40 (nI o) h hG Z I) rfl rfl (Nat.le_of_ble_eq_true rfl) ?_
          refine gf_if_eq 168 dX9_readPart_141 rfl (fun zc141 => ?_) (fun zc141 => ?_)
          · have hb141 := bI_f zc141
            refine gf_iconst (0) dX9_readPart_168 rfl ?_
            exact gf_bret dX9_readPart_169 rfl (by rw [show parS r2 o Z = _ from (if_neg zc8).trans ((if_neg hw6).trans ((if_neg hmm).trans (rbd_f hb141)))]; first | done | rfl) (by rw [show parS r2 o Z = _ from (if_neg zc8).trans ((if_neg hw6).trans ((if_neg hmm).trans (rbd_f hb141)))]; first | done | rfl)
          · have hb141 := bI_t zc141
            have ho6 := rent_o ho hb141
            have k3 := hr2 ho6 (rent Z 40 (nI o)).2 (rent_I I (by decide))
            refine gf_aload_n 0 dX9_readPart_144 rfl rfl ?_
            refine gf_iconst (2) dX9_readPart_145 rfl ?_
            refine gf_iload_n 1 dX9_readPart_146 rfl rfl ?_
            refine gf_iconst (1) dX9_readPart_147 rfl ?_
            refine gf_iadd dX9_readPart_148 ?_
            rw [nI_1]
            refine gf_callV cmX9_readRow lkX9_107 imX9_readRow seX9_readRow ⟨rfl, by decide⟩ dX9_readPart_149 (d1 := d - 1) (by omega) (gt_150 hG) (k3.1) rfl rfl (Nat.le_of_ble_eq_true rfl) ?_
            refine gf_if_eq 168 dX9_readPart_152 rfl (fun zc152 => ?_) (fun zc152 => ?_)
            · have hb152 := bI_f zc152
              refine gf_iconst (0) dX9_readPart_168 rfl ?_
              exact gf_bret dX9_readPart_169 rfl (by rw [show parS r2 o Z = _ from (if_neg zc8).trans ((if_neg hw6).trans ((if_neg hmm).trans ((rbd_t hb141).trans (rbd_f hb152))))]; first | done | rfl) (by rw [show parS r2 o Z = _ from (if_neg zc8).trans ((if_neg hw6).trans ((if_neg hmm).trans ((rbd_t hb141).trans (rbd_f hb152))))]; first | done | rfl)
            · have hb152 := bI_t zc152
              refine gf_aload_n 0 dX9_readPart_155 rfl rfl ?_
              refine gf_bipush (41) dX9_readPart_156 rfl ?_
              refine gf_callV cmX9_pass lkX9_110 imX9_pass seX9_pass ⟨rfl, by decide⟩ dX9_readPart_158 (d1 := d - 1) (by omega) (gt_150 hG) (e_X9_pass E (by omega) 41 h hG _ k3.2) rfl rfl (Nat.le_of_ble_eq_true rfl) ?_
              refine gf_if_eq 168 dX9_readPart_161 rfl (fun zc161 => ?_) (fun zc161 => ?_)
              · have hb161 := bI_f zc161
                refine gf_iconst (0) dX9_readPart_168 rfl ?_
                exact gf_bret dX9_readPart_169 rfl (by rw [show parS r2 o Z = _ from (if_neg zc8).trans ((if_neg hw6).trans ((if_neg hmm).trans ((rbd_t hb141).trans (rbd_t hb152))))]; first | done | (rw [hb161]; first | done | rfl)) (by rw [show parS r2 o Z = _ from (if_neg zc8).trans ((if_neg hw6).trans ((if_neg hmm).trans ((rbd_t hb141).trans (rbd_t hb152))))]; first | done | rfl)
              · have hb161 := bI_t zc161
                refine gf_iconst (1) dX9_readPart_164 rfl ?_
                refine gf_goto 169 dX9_readPart_165 rfl ?_
                exact gf_bret dX9_readPart_169 rfl (by rw [show parS r2 o Z = _ from (if_neg zc8).trans ((if_neg hw6).trans ((if_neg hmm).trans ((rbd_t hb141).trans (rbd_t hb152))))]; first | done | (rw [hb161]; first | done | rfl)) (by rw [show parS r2 o Z = _ from (if_neg zc8).trans ((if_neg hw6).trans ((if_neg hmm).trans ((rbd_t hb141).trans (rbd_t hb152))))]; first | done | rfl)
        · have hmm : rtok Z = 7 ∨ rtok Z = 8 := Or.inr zc58
          have hn24 : ¬ rtok Z = 24 := fun q => by rw [q] at hmm; revert hmm; decide
          refine gf_aload_n 0 dX9_readPart_61 rfl rfl ?_
          refine gf_iload_n 2 dX9_readPart_62 rfl rfl ?_
          refine gf_callV cmX9_pass lkX9_110 imX9_pass seX9_pass ⟨rfl, by decide⟩ dX9_readPart_63 (d1 := d - 1) (by omega) (gt_150 hG) (e_X9_pass E (by omega) (rtok Z) h hG Z I) rfl rfl (Nat.le_of_ble_eq_true rfl) ?_
          refine gf_if_eq 132 dX9_readPart_66 rfl (fun zc66 => ?_) (fun zc66 => ?_)
          · have hb66 := bI_f zc66
            refine gf_iconst (0) dX9_readPart_132 rfl ?_
            exact gf_bret dX9_readPart_133 rfl (by rw [show parS r2 o Z = _ from (if_neg zc8).trans ((if_neg hw6).trans ((if_pos hmm).trans (rbd_f hb66)))]; first | done | rfl) (by rw [show parS r2 o Z = _ from (if_neg zc8).trans ((if_neg hw6).trans ((if_pos hmm).trans (rbd_f hb66)))]; first | done | rfl)
          · have hb66 := bI_t zc66
            refine gf_aload_n 0 dX9_readPart_69 rfl rfl ?_
            refine gf_bipush (40) dX9_readPart_70 rfl ?_
            refine gf_iload_n 1 dX9_readPart_72 rfl rfl ?_
            refine gf_callV cmX9_enter lkX9_129 imX9_enter seX9_enter ⟨rfl, by decide⟩ dX9_readPart_73 (d1 := d - 1) (by omega) (gt_150 hG) (e_X9_enter E (by omega) 40 (nI o) h hG (rpas Z (rtok Z)).2 (rpas_I I hn24)) rfl rfl (Nat.le_of_ble_eq_true rfl) ?_
            refine gf_if_eq 132 dX9_readPart_76 rfl (fun zc76 => ?_) (fun zc76 => ?_)
            · have hb76 := bI_f zc76
              refine gf_iconst (0) dX9_readPart_132 rfl ?_
              exact gf_bret dX9_readPart_133 rfl (by rw [show parS r2 o Z = _ from (if_neg zc8).trans ((if_neg hw6).trans ((if_pos hmm).trans ((rbd_t hb66).trans (rbd_f hb76))))]; first | done | rfl) (by rw [show parS r2 o Z = _ from (if_neg zc8).trans ((if_neg hw6).trans ((if_pos hmm).trans ((rbd_t hb66).trans (rbd_f hb76))))]; first | done | rfl)
            · have hb76 := bI_t zc76
              have ho6 := rent_o ho hb76
              have k1 := hr2 ho6 (rent (rpas Z (rtok Z)).2 40 (nI o)).2 (rent_I (rpas_I I hn24) (by decide))
              refine gf_aload_n 0 dX9_readPart_79 rfl rfl ?_
              refine gf_iconst (2) dX9_readPart_80 rfl ?_
              refine gf_iload_n 1 dX9_readPart_81 rfl rfl ?_
              refine gf_iconst (1) dX9_readPart_82 rfl ?_
              refine gf_iadd dX9_readPart_83 ?_
              rw [nI_1]
              refine gf_callV cmX9_readRow lkX9_107 imX9_readRow seX9_readRow ⟨rfl, by decide⟩ dX9_readPart_84 (d1 := d - 1) (by omega) (gt_150 hG) (k1.1) rfl rfl (Nat.le_of_ble_eq_true rfl) ?_
              refine gf_if_eq 132 dX9_readPart_87 rfl (fun zc87 => ?_) (fun zc87 => ?_)
              · have hb87 := bI_f zc87
                refine gf_iconst (0) dX9_readPart_132 rfl ?_
                exact gf_bret dX9_readPart_133 rfl (by rw [show parS r2 o Z = _ from (if_neg zc8).trans ((if_neg hw6).trans ((if_pos hmm).trans ((rbd_t hb66).trans ((rbd_t hb76).trans (rbd_f hb87)))))]; first | done | rfl) (by rw [show parS r2 o Z = _ from (if_neg zc8).trans ((if_neg hw6).trans ((if_pos hmm).trans ((rbd_t hb66).trans ((rbd_t hb76).trans (rbd_f hb87)))))]; first | done | rfl)
              · have hb87 := bI_t zc87
                refine gf_aload_n 0 dX9_readPart_90 rfl rfl ?_
                refine gf_bipush (44) dX9_readPart_91 rfl ?_
                refine gf_callV cmX9_pass lkX9_110 imX9_pass seX9_pass ⟨rfl, by decide⟩ dX9_readPart_93 (d1 := d - 1) (by omega) (gt_150 hG) (e_X9_pass E (by omega) 44 h hG _ k1.2) rfl rfl (Nat.le_of_ble_eq_true rfl) ?_
                refine gf_if_eq 132 dX9_readPart_96 rfl (fun zc96 => ?_) (fun zc96 => ?_)
                · have hb96 := bI_f zc96
                  refine gf_iconst (0) dX9_readPart_132 rfl ?_
                  exact gf_bret dX9_readPart_133 rfl (by rw [show parS r2 o Z = _ from (if_neg zc8).trans ((if_neg hw6).trans ((if_pos hmm).trans ((rbd_t hb66).trans ((rbd_t hb76).trans ((rbd_t hb87).trans (rbd_f hb96))))))]; first | done | rfl) (by rw [show parS r2 o Z = _ from (if_neg zc8).trans ((if_neg hw6).trans ((if_pos hmm).trans ((rbd_t hb66).trans ((rbd_t hb76).trans ((rbd_t hb87).trans (rbd_f hb96))))))]; first | done | rfl)
                · have hb96 := bI_t zc96
                  have k2 := hr2 ho6 _ (rpas_I (t := 44) k1.2 (by decide))
                  refine gf_aload_n 0 dX9_readPart_99 rfl rfl ?_
                  refine gf_iconst (2) dX9_readPart_100 rfl ?_
                  refine gf_iload_n 1 dX9_readPart_101 rfl rfl ?_
                  refine gf_iconst (1) dX9_readPart_102 rfl ?_
                  refine gf_iadd dX9_readPart_103 ?_
                  rw [nI_1]
                  refine gf_callV cmX9_readRow lkX9_107 imX9_readRow seX9_readRow ⟨rfl, by decide⟩ dX9_readPart_104 (d1 := d - 1) (by omega) (gt_150 hG) (k2.1) rfl rfl (Nat.le_of_ble_eq_true rfl) ?_
                  refine gf_if_eq 132 dX9_readPart_107 rfl (fun zc107 => ?_) (fun zc107 => ?_)
                  · have hb107 := bI_f zc107
                    refine gf_iconst (0) dX9_readPart_132 rfl ?_
                    exact gf_bret dX9_readPart_133 rfl (by rw [show parS r2 o Z = _ from (if_neg zc8).trans ((if_neg hw6).trans ((if_pos hmm).trans ((rbd_t hb66).trans ((rbd_t hb76).trans ((rbd_t hb87).trans ((rbd_t hb96).trans (rbd_f hb107)))))))]; first | done | rfl) (by rw [show parS r2 o Z = _ from (if_neg zc8).trans ((if_neg hw6).trans ((if_pos hmm).trans ((rbd_t hb66).trans ((rbd_t hb76).trans ((rbd_t hb87).trans ((rbd_t hb96).trans (rbd_f hb107)))))))]; first | done | rfl)
                  · have hb107 := bI_t zc107
                    refine gf_aload_n 0 dX9_readPart_110 rfl rfl ?_
                    refine gf_bipush (41) dX9_readPart_111 rfl ?_
                    refine gf_callV cmX9_pass lkX9_110 imX9_pass seX9_pass ⟨rfl, by decide⟩ dX9_readPart_113 (d1 := d - 1) (by omega) (gt_150 hG) (e_X9_pass E (by omega) 41 h hG _ k2.2) rfl rfl (Nat.le_of_ble_eq_true rfl) ?_
                    refine gf_if_eq 132 dX9_readPart_116 rfl (fun zc116 => ?_) (fun zc116 => ?_)
                    · have hb116 := bI_f zc116
                      refine gf_iconst (0) dX9_readPart_132 rfl ?_
                      exact gf_bret dX9_readPart_133 rfl (by rw [show parS r2 o Z = _ from (if_neg zc8).trans ((if_neg hw6).trans ((if_pos hmm).trans ((rbd_t hb66).trans ((rbd_t hb76).trans ((rbd_t hb87).trans ((rbd_t hb96).trans ((rbd_t hb107).trans (rbd_f hb116))))))))]; first | done | rfl) (by rw [show parS r2 o Z = _ from (if_neg zc8).trans ((if_neg hw6).trans ((if_pos hmm).trans ((rbd_t hb66).trans ((rbd_t hb76).trans ((rbd_t hb87).trans ((rbd_t hb96).trans ((rbd_t hb107).trans (rbd_f hb116))))))))]; first | done | rfl)
                    · have hb116 := bI_t zc116
                      refine gf_aload_n 0 dX9_readPart_119 rfl rfl ?_
                      refine gf_iload_n 2 dX9_readPart_120 rfl rfl ?_
                      refine gf_iconst (0) dX9_readPart_121 rfl ?_
                      refine gf_callV cmX9_emit lkX9_120 imX9_emit seX9_emit ⟨rfl, by decide⟩ dX9_readPart_122 (d1 := d - 1) (by omega) (gt_150 hG) (e_X9_emit E (by omega) (rtok Z) 0 h hG _ (rpas_I k2.2 (by decide))) rfl rfl (Nat.le_of_ble_eq_true rfl) ?_
                      refine gf_if_eq 132 dX9_readPart_125 rfl (fun q => absurd q (by decide)) (fun _ => ?_)
                      refine gf_iconst (1) dX9_readPart_128 rfl ?_
                      refine gf_goto 133 dX9_readPart_129 rfl ?_
                      exact gf_bret dX9_readPart_133 rfl (by rw [show parS r2 o Z = _ from (if_neg zc8).trans ((if_neg hw6).trans ((if_pos hmm).trans ((rbd_t hb66).trans ((rbd_t hb76).trans ((rbd_t hb87).trans ((rbd_t hb96).trans ((rbd_t hb107).trans (rbd_t hb116))))))))]; first | done | rfl) (by rw [show parS r2 o Z = _ from (if_neg zc8).trans ((if_neg hw6).trans ((if_pos hmm).trans ((rbd_t hb66).trans ((rbd_t hb76).trans ((rbd_t hb87).trans ((rbd_t hb96).trans ((rbd_t hb107).trans (rbd_t hb116))))))))]; first | done | rfl)
    · have hw6 : rtok Z ≤ 6 := by have q := zc23; rw [fa_lt] at q; rw [fa_le]; omega
      have hn24 : ¬ rtok Z = 24 := fun q => by rw [q] at hw6; exact absurd hw6 (by decide)
      refine gf_aload_n 0 dX9_readPart_26 rfl rfl ?_
      refine gf_iload_n 2 dX9_readPart_27 rfl rfl ?_
      refine gf_callV cmX9_pass lkX9_110 imX9_pass seX9_pass ⟨rfl, by decide⟩ dX9_readPart_28 (d1 := d - 1) (by omega) (gt_150 hG) (e_X9_pass E (by omega) (rtok Z) h hG Z I) rfl rfl (Nat.le_of_ble_eq_true rfl) ?_
      refine gf_if_eq 47 dX9_readPart_31 rfl (fun zc31 => ?_) (fun zc31 => ?_)
      · have hb31 := bI_f zc31
        refine gf_iconst (0) dX9_readPart_47 rfl ?_
        exact gf_bret dX9_readPart_48 rfl (by rw [show parS r2 o Z = _ from (if_neg zc8).trans ((if_pos hw6).trans (rbd_f hb31))]; first | done | rfl) (by rw [show parS r2 o Z = _ from (if_neg zc8).trans ((if_pos hw6).trans (rbd_f hb31))]; first | done | rfl)
      · have hb31 := bI_t zc31
        refine gf_aload_n 0 dX9_readPart_34 rfl rfl ?_
        refine gf_iload_n 2 dX9_readPart_35 rfl rfl ?_
        refine gf_iconst (0) dX9_readPart_36 rfl ?_
        refine gf_callV cmX9_emit lkX9_120 imX9_emit seX9_emit ⟨rfl, by decide⟩ dX9_readPart_37 (d1 := d - 1) (by omega) (gt_150 hG) (e_X9_emit E (by omega) (rtok Z) 0 h hG (rpas Z (rtok Z)).2 (rpas_I I hn24)) rfl rfl (Nat.le_of_ble_eq_true rfl) ?_
        refine gf_if_eq 47 dX9_readPart_40 rfl (fun q => absurd q (by decide)) (fun _ => ?_)
        refine gf_iconst (1) dX9_readPart_43 rfl ?_
        refine gf_goto 48 dX9_readPart_44 rfl ?_
        exact gf_bret dX9_readPart_48 rfl (by rw [show parS r2 o Z = _ from (if_neg zc8).trans ((if_pos hw6).trans (rbd_t hb31))]; first | done | rfl) (by rw [show parS r2 o Z = _ from (if_neg zc8).trans ((if_pos hw6).trans (rbd_t hb31))]; first | done | rfl)
  · refine gf_aload_n 0 dX9_readPart_11 rfl rfl ?_
    refine gf_bipush (23) dX9_readPart_12 rfl ?_
    refine gf_ldc (99999) kcX9_138 dX9_readPart_14 ?_
    refine gf_callV cmX9_readNumber lkX9_132 imX9_readNumber seX9_readNumber ⟨rfl, by decide⟩ dX9_readPart_16 (d1 := d - 1) (by omega) (gt_150 hG) (e_X9_readNumber E (by omega) 23 99999 h hG Z I) rfl rfl (Nat.le_of_ble_eq_true rfl) ?_
    exact gf_bret dX9_readPart_19 rfl (by rw [show parS r2 o Z = _ from if_pos zc8]; first | done | rfl) (by rw [show parS r2 o Z = _ from if_pos zc8]; first | done | rfl)
/-- the reader's recursion: rows 0 .. 3, items 4 .. 7, fact 8, comparison 9, part 10; f: how deep -/
def rdr : Nat → Nat → Nat → rZ → Bool × rZ
  | 0, _, _, Z => (false, Z)
  | f + 1, q, o, Z => match q with
    | 0 => rowS (rdr f 4 o) 0 Z
    | 1 => rowS (rdr f 5 o) 1 Z
    | 2 => rowS (rdr f 6 o) 2 Z
    | 3 => rowS (rdr f 7 o) 3 Z
    | 4 => rdr f 1 o Z
    | 5 => rdr f 8 o Z
    | 6 => rdr f 3 o Z
    | 7 => rdr f 10 o Z
    | 8 => facS (rdr f 8 (o + 1)) (rdr f 0 (o + 1)) (rdr f 9 o) o Z
    | 9 => cmpS (rdr f 2 o) Z
    | _ => parS (rdr f 2 (o + 1)) o Z
/-- how deep a piece may go -/
def rkq (q : Nat) : Nat := match q with
  | 0 => 11
  | 1 => 9
  | 2 => 5
  | 3 => 3
  | 4 => 10
  | 5 => 8
  | 6 => 4
  | 7 => 2
  | 8 => 7
  | 9 => 6
  | _ => 1
def rmth (q : Nat) : gM := match q with
  | 0 => mX9_readRow
  | 1 => mX9_readRow
  | 2 => mX9_readRow
  | 3 => mX9_readRow
  | 4 => mX9_readItem
  | 5 => mX9_readItem
  | 6 => mX9_readItem
  | 7 => mX9_readItem
  | 8 => mX9_readFact
  | 9 => mX9_readComparison
  | _ => mX9_readPart
def rarg (q o : Nat) : List Value := match q with
  | 0 => [.int (nI 0), .int (nI o)]
  | 1 => [.int (nI 1), .int (nI o)]
  | 2 => [.int (nI 2), .int (nI o)]
  | 3 => [.int (nI 3), .int (nI o)]
  | 4 => [.int (nI 0), .int (nI o)]
  | 5 => [.int (nI 1), .int (nI o)]
  | 6 => [.int (nI 2), .int (nI o)]
  | 7 => [.int (nI 3), .int (nI o)]
  | _ => [.int (nI o)]
theorem e_rdr (E : gE) (h : hp_T) (hG : gr h) : ∀ (f q o d : Nat), q ≤ 10 → o ≤ 6 → rkq q + 11 * (6 - o) ≤ f → f + 4 ≤ d → pcO E (rmth q) d (rarg q o) (rdr f q o) h
  | 0, q, o, d, _, _, hk, _ => by
    exfalso
    match q, hk with
    | 0, hk | 1, hk | 2, hk | 3, hk | 4, hk | 5, hk | 6, hk | 7, hk | 8, hk | 9, hk => exact absurd hk (by show ¬ (_ + _ ≤ 0); simp [rkq])
    | q + 10, hk => exact absurd hk (by show ¬ (1 + _ ≤ 0); omega)
  | f + 1, q, o, d, hq, ho, hk, hd => by
    have ih := fun q o hq ho hk => e_rdr E h hG f q o (d - 1) hq ho hk (by omega)
    match q, hq, hk with
    | 0, _, hk => exact e_X9_readRow E (by omega) (rdr f 4 o) h hG (by omega) (ih 4 o (by omega) ho (by simp only [rkq] at hk ⊢; omega))
    | 1, _, hk => exact e_X9_readRow E (by omega) (rdr f 5 o) h hG (by omega) (ih 5 o (by omega) ho (by simp only [rkq] at hk ⊢; omega))
    | 2, _, hk => exact e_X9_readRow E (by omega) (rdr f 6 o) h hG (by omega) (ih 6 o (by omega) ho (by simp only [rkq] at hk ⊢; omega))
    | 3, _, hk => exact e_X9_readRow E (by omega) (rdr f 7 o) h hG (by omega) (ih 7 o (by omega) ho (by simp only [rkq] at hk ⊢; omega))
    | 4, _, hk => exact e_X9_readItem_0 E (by omega) (rdr f 1 o) h hG (ih 1 o (by omega) ho (by simp only [rkq] at hk ⊢; omega))
    | 5, _, hk => exact e_X9_readItem_1 E (by omega) (rdr f 8 o) h hG (ih 8 o (by omega) ho (by simp only [rkq] at hk ⊢; omega))
    | 6, _, hk => exact e_X9_readItem_2 E (by omega) (rdr f 3 o) h hG (ih 3 o (by omega) ho (by simp only [rkq] at hk ⊢; omega))
    | 7, _, hk => exact e_X9_readItem_3 E (by omega) (rdr f 10 o) h hG (ih 10 o (by omega) ho (by simp only [rkq] at hk ⊢; omega))
    | 8, _, hk => exact e_X9_readFact E (by omega) (rdr f 8 (o + 1)) (rdr f 0 (o + 1)) (rdr f 9 o) h hG ho (fun w => ih 8 (o + 1) (by omega) w (by simp only [rkq] at hk ⊢; omega)) (fun w => ih 0 (o + 1) (by omega) w (by simp only [rkq] at hk ⊢; omega)) (ih 9 o (by omega) ho (by simp only [rkq] at hk ⊢; omega))
    | 9, _, hk => exact e_X9_readComparison E (by omega) (rdr f 2 o) h hG (ih 2 o (by omega) ho (by simp only [rkq] at hk ⊢; omega))
    | 10, _, hk => exact e_X9_readPart E (by omega) (rdr f 2 (o + 1)) h hG ho (fun w => ih 2 (o + 1) (by omega) w (by simp only [rkq] at hk ⊢; omega))
