/-! ===== the parsers agree: a not that waits is written ===== -/
def ntQ (q : pS) : pS := (q.1, q.2.1, q.2.2.1, q.2.2.2.1, q.2.2.2.2.1 + 1, q.2.2.2.2.2.1 - 1, q.2.2.2.2.2.2.1 - 1, q.2.2.2.2.2.2.2.1, va_up q.2.2.2.2.2.2.2.2.1 q.2.2.2.2.1 16, q.2.2.2.2.2.2.2.2.2)
theorem dn_1 {q : pS} {w0 : Nat} (h0 : q.2.2.1 = 0) (hw : q.2.2.2.2.2.1 = w0 + 1) (ht : q.2.2.2.2.2.2.2.2.2 w0 = 16) : dnQ q = dnQ (ntQ q) := by
  have e : dnF q.2.2.2.2.2.2.2.2.2 (w0 + 1) q.2.2.2.2.1 q.2.2.2.2.2.2.1 q.2.2.2.2.2.2.2.2.1 = dnF q.2.2.2.2.2.2.2.2.2 w0 (q.2.2.2.2.1 + 1) (q.2.2.2.2.2.2.1 - 1) (va_up q.2.2.2.2.2.2.2.2.1 q.2.2.2.2.1 16) := by
    have e1 : dnF q.2.2.2.2.2.2.2.2.2 (w0 + 1) q.2.2.2.2.1 q.2.2.2.2.2.2.1 q.2.2.2.2.2.2.2.2.1 = if q.2.2.2.2.2.2.2.2.2 w0 = 16 then dnF q.2.2.2.2.2.2.2.2.2 w0 (q.2.2.2.2.1 + 1) (q.2.2.2.2.2.2.1 - 1) (va_up q.2.2.2.2.2.2.2.2.1 q.2.2.2.2.1 (q.2.2.2.2.2.2.2.2.2 w0)) else (w0 + 1, q.2.2.2.2.1, q.2.2.2.2.2.2.1, q.2.2.2.2.2.2.2.2.1) := rfl
    rw [e1, if_pos ht, ht]
  have e2 : (ntQ q).2.2.2.2.2.1 = w0 := by
    show q.2.2.2.2.2.1 - 1 = w0
    omega
  obtain ⟨aT, eN, bD, bP, cD, wT, oP, bS, cS, wS⟩ := q
  have hw' : wT = w0 + 1 := hw
  subst hw'
  have h0' : bD = 0 := h0
  have e' : dnF wS (w0 + 1) cD oP cS = dnF wS w0 (cD + 1) (oP - 1) (va_up cS cD 16) := e
  have l : dnQ (aT, eN, bD, bP, cD, w0 + 1, oP, bS, cS, wS) = (aT, eN, bD, bP, (dnF wS (w0 + 1) cD oP cS).2.1, (dnF wS (w0 + 1) cD oP cS).1, (dnF wS (w0 + 1) cD oP cS).2.2.1, bS, (dnF wS (w0 + 1) cD oP cS).2.2.2, wS) := if_pos h0'
  have r : dnQ (ntQ (aT, eN, bD, bP, cD, w0 + 1, oP, bS, cS, wS)) = (aT, eN, bD, bP, (dnF wS w0 (cD + 1) (oP - 1) (va_up cS cD 16)).2.1, (dnF wS w0 (cD + 1) (oP - 1) (va_up cS cD 16)).1, (dnF wS w0 (cD + 1) (oP - 1) (va_up cS cD 16)).2.2.1, bS, (dnF wS w0 (cD + 1) (oP - 1) (va_up cS cD 16)).2.2.2, wS) := if_pos h0'
  rw [l, r, e']
theorem got_d {M : mM} {L : Nat} {q r : pS} (h : dnQ q = dnQ r) : gotK M L q = gotK M L r := by
  unfold gotK tsC
  rw [h]
theorem not_d {M : mM} {tx : Nat → Nat} {L o : Nat} {Y : rZ} {q q3 : pS} (T : txM M tx L) (I : prI M tx L Y q3 (o + 1)) (D : cdI tx L Y q3 []) (S : skI9 q3 q [16]) (hs : q3.2.2.2.2.1 + 1 ≤ cnt tx L q3.1) : gotK M L q3 = gotK M L (ntQ q3) ∧ prI M tx L (remi Y 11 0) (ntQ q3) o ∧ cdI tx L (remi Y 11 0) (ntQ q3) [] ∧ skI9 (ntQ q3) q [] := by
  have hw : q3.2.2.2.2.2.1 = q.2.2.2.2.2.1 + 1 := S.1
  have ht : q3.2.2.2.2.2.2.2.2.2 q.2.2.2.2.2.1 = 16 := S.2.2.2 0 (Nat.lt_succ_self 0)
  have hg := got_d (M := M) (L := L) (dn_1 I.2.1.1 hw ht)
  obtain ⟨c1, c2, c3, -⟩ := D
  have c1' : Y 0 4 = nI q3.2.2.2.2.1 := c1
  have h6 := cnt_600 T I.1
  obtain ⟨e1, e2, e3, e4, e5⟩ := emi_at (tx := tx) (L := L) (t := 11) (n := 0) c1' (by omega)
  obtain ⟨C, ⟨z0, z1⟩, ⟨i1, i2⟩, i3, i4⟩ := I
  have i2' : q3.2.2.2.2.1 + q3.2.2.2.2.2.1 ≤ q3.1 + 2 := i2
  refine ⟨hg, ⟨cur_em C, ⟨z0, e4.trans z1⟩, ⟨i1, ?_⟩, ?_, by omega⟩, ⟨e1, hs, fun i hi => ?_, fun j hj => absurd hj (Nat.not_lt_zero j)⟩, ⟨?_, S.2.1, fun i hi => S.2.2.1 i hi, fun j hj => absurd hj (Nat.not_lt_zero j)⟩⟩
  · show q3.2.2.2.2.1 + 1 + (q3.2.2.2.2.2.1 - 1) ≤ q3.1 + 2
    omega
  · show q3.2.2.2.2.2.2.1 - 1 = _
    rw [i3, show (1 : Int32) = nI 1 from rfl, nI_sub (a := o + 1) (b := 1) (by omega)]
    rfl
  · have hi' : i < q3.2.2.2.2.1 + 1 := hi
    show cdR (va_up q3.2.2.2.2.2.2.2.2.1 q3.2.2.2.2.1 16 i) _
    by_cases w : i = q3.2.2.2.2.1
    · rw [w, va_s, e2, show (11 : Int32) + (0 : Int32) <<< (7 &&& 31) = nI 11 from by decide]
      exact cdR_16
    · rw [va_n w, e3 i (by omega)]
      exact c3 i (by omega)
  · show q3.2.2.2.2.2.1 - 1 = q.2.2.2.2.2.1 + 0
    omega
