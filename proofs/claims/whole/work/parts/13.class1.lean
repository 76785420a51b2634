/-! ===== the class: within, isOffice, mayServe; cells of a city ===== -/
theorem e_X11_within (E : gE) {d : Nat} (hd : 0 ≤ d) (n a b : Int32) (h : hp_T) : ev E mX11_within d [.int n, .int a, .int b] h (some (.int (zb (a ≤ n ∧ n ≤ b)))) h := by
  refine ev_of rfl (fun q => absurd q (by decide)) (Nat.le_of_ble_eq_true rfl) ?_
  refine gf_iload_n 0 dX11_within_0 rfl rfl ?_
  refine gf_iload_n 1 dX11_within_1 rfl rfl ?_
  refine gf_icmp_lt 14 dX11_within_2 rfl (fun zc2 => ?_) (fun zc2 => ?_)
  · refine gf_iconst (0) dX11_within_14 rfl ?_
    exact gf_zretE dX11_within_15 rfl (rfl) (by first | exact (zb_t (by (try simp only [fa_lt, fa_le, fa_eq, ti_0, ti_1, ti_9, ti_8, ti_119, ti_120] at *); omega)).symm | exact (zb_f (by (try simp only [fa_lt, fa_le, fa_eq, ti_0, ti_1, ti_9, ti_8, ti_119, ti_120] at *); omega)).symm) (rfl)
  · refine gf_iload_n 0 dX11_within_5 rfl rfl ?_
    refine gf_iload_n 2 dX11_within_6 rfl rfl ?_
    refine gf_icmp_gt 14 dX11_within_7 rfl (fun zc7 => ?_) (fun zc7 => ?_)
    · refine gf_iconst (0) dX11_within_14 rfl ?_
      exact gf_zretE dX11_within_15 rfl (rfl) (by first | exact (zb_t (by (try simp only [fa_lt, fa_le, fa_eq, ti_0, ti_1, ti_9, ti_8, ti_119, ti_120] at *); omega)).symm | exact (zb_f (by (try simp only [fa_lt, fa_le, fa_eq, ti_0, ti_1, ti_9, ti_8, ti_119, ti_120] at *); omega)).symm) (rfl)
    · refine gf_iconst (1) dX11_within_10 rfl ?_
      refine gf_goto 15 dX11_within_11 rfl ?_
      exact gf_zretE dX11_within_15 rfl (rfl) (by first | exact (zb_t (by (try simp only [fa_lt, fa_le, fa_eq, ti_0, ti_1, ti_9, ti_8, ti_119, ti_120] at *); omega)).symm | exact (zb_f (by (try simp only [fa_lt, fa_le, fa_eq, ti_0, ti_1, ti_9, ti_8, ti_119, ti_120] at *); omega)).symm) (rfl)
theorem e_X11_isOffice (E : gE) {d : Nat} (hd : 1 ≤ d) (n : Int32) (h : hp_T) : ev E mX11_isOffice d [.int n] h (some (.int (zb (0 ≤ n ∧ n ≤ 8)))) h := by
  refine ev_of rfl (fun q => absurd q (by decide)) (Nat.le_of_ble_eq_true rfl) ?_
  refine gf_iload_n 0 dX11_isOffice_0 rfl rfl ?_
  refine gf_iconst (0) dX11_isOffice_1 rfl ?_
  refine gf_bipush (8) dX11_isOffice_2 rfl ?_
  refine gf_callS cmX11_within lkX11_105 stX11_within dX11_isOffice_4 (d1 := d - 1) (by omega) (e_X11_within E (by omega) n 0 8 h) rfl rfl (Nat.le_of_ble_eq_true rfl) ?_
  exact gf_zretE dX11_isOffice_7 rfl (zb_nar) (rfl) (rfl)
theorem e_X11_mayServe (E : gE) {d : Nat} (hd : 2 ≤ d) (o g p : Int32) (h : hp_T) : ev E mX11_mayServe d [.int o, .int g, .int p] h (some (.int (zb ((0 ≤ o ∧ o ≤ 8) ∧ (1 ≤ g ∧ g ≤ 9) ∧ (1 ≤ p ∧ p ≤ 9))))) h := by
  refine ev_of rfl (fun q => absurd q (by decide)) (Nat.le_of_ble_eq_true rfl) ?_
  refine gf_iload_n 0 dX11_mayServe_0 rfl rfl ?_
  refine gf_callS cmX11_isOffice lkX11_143 stX11_isOffice dX11_mayServe_1 (d1 := d - 1) (by omega) (e_X11_isOffice E (by omega) o h) rfl rfl (Nat.le_of_ble_eq_true rfl) ?_
  refine gf_if_eq 31 dX11_mayServe_4 rfl (fun zc4 => ?_) (fun zc4 => ?_)
  · refine gf_iconst (0) dX11_mayServe_31 rfl ?_
    exact gf_zretE dX11_mayServe_32 rfl (rfl) (by first | exact (zb_t (by (try simp only [zb_0, zb_1] at *); (try simp only [fa_lt, fa_le, fa_eq, ti_0, ti_1, ti_9, ti_8, ti_119, ti_120] at *); omega)).symm | exact (zb_f (by (try simp only [zb_0, zb_1] at *); (try simp only [fa_lt, fa_le, fa_eq, ti_0, ti_1, ti_9, ti_8, ti_119, ti_120] at *); omega)).symm) (rfl)
  · refine gf_iload_n 1 dX11_mayServe_7 rfl rfl ?_
    refine gf_iconst (1) dX11_mayServe_8 rfl ?_
    refine gf_bipush (9) dX11_mayServe_9 rfl ?_
    refine gf_callS cmX11_within lkX11_105 stX11_within dX11_mayServe_11 (d1 := d - 1) (by omega) (e_X11_within E (by omega) _ _ _ h) rfl rfl (Nat.le_of_ble_eq_true rfl) ?_
    refine gf_if_eq 31 dX11_mayServe_14 rfl (fun zc14 => ?_) (fun zc14 => ?_)
    · refine gf_iconst (0) dX11_mayServe_31 rfl ?_
      exact gf_zretE dX11_mayServe_32 rfl (rfl) (by first | exact (zb_t (by (try simp only [zb_0, zb_1] at *); (try simp only [fa_lt, fa_le, fa_eq, ti_0, ti_1, ti_9, ti_8, ti_119, ti_120] at *); omega)).symm | exact (zb_f (by (try simp only [zb_0, zb_1] at *); (try simp only [fa_lt, fa_le, fa_eq, ti_0, ti_1, ti_9, ti_8, ti_119, ti_120] at *); omega)).symm) (rfl)
    · refine gf_iload_n 2 dX11_mayServe_17 rfl rfl ?_
      refine gf_iconst (1) dX11_mayServe_18 rfl ?_
      refine gf_bipush (9) dX11_mayServe_19 rfl ?_
      refine gf_callS cmX11_within lkX11_105 stX11_within dX11_mayServe_21 (d1 := d - 1) (by omega) (e_X11_within E (by omega) _ _ _ h) rfl rfl (Nat.le_of_ble_eq_true rfl) ?_
      refine gf_if_eq 31 dX11_mayServe_24 rfl (fun zc24 => ?_) (fun zc24 => ?_)
      · refine gf_iconst (0) dX11_mayServe_31 rfl ?_
        exact gf_zretE dX11_mayServe_32 rfl (rfl) (by first | exact (zb_t (by (try simp only [zb_0, zb_1] at *); (try simp only [fa_lt, fa_le, fa_eq, ti_0, ti_1, ti_9, ti_8, ti_119, ti_120] at *); omega)).symm | exact (zb_f (by (try simp only [zb_0, zb_1] at *); (try simp only [fa_lt, fa_le, fa_eq, ti_0, ti_1, ti_9, ti_8, ti_119, ti_120] at *); omega)).symm) (rfl)
      · refine gf_iconst (1) dX11_mayServe_27 rfl ?_
        refine gf_goto 32 dX11_mayServe_28 rfl ?_
        exact gf_zretE dX11_mayServe_32 rfl (rfl) (by first | exact (zb_t (by (try simp only [zb_0, zb_1] at *); (try simp only [fa_lt, fa_le, fa_eq, ti_0, ti_1, ti_9, ti_8, ti_119, ti_120] at *); omega)).symm | exact (zb_f (by (try simp only [zb_0, zb_1] at *); (try simp only [fa_lt, fa_le, fa_eq, ti_0, ti_1, ti_9, ti_8, ti_119, ti_120] at *); omega)).symm) (rfl)
theorem e_X1_has (E : gE) {d : Nat} (hd : 0 ≤ d) (c : Int32) (h : hp_T) (hG : gr h) : ev E mX1_has d [.ref (E.1 + 1), .int c] h (some (.int (zb (0 ≤ c ∧ c < hp_i h 1 2)))) h := by
  refine ev_of rfl (fun q => absurd q (by decide)) (Nat.le_of_ble_eq_true rfl) ?_
  refine gf_iload_n 1 dX1_has_0 rfl rfl ?_
  refine gf_if_lt 16 dX1_has_1 rfl (fun zc1 => ?_) (fun zc1 => ?_)
  · refine gf_iconst (0) dX1_has_16 rfl ?_
    exact gf_zretE dX1_has_17 rfl (rfl) (by first | exact (zb_t (by (try simp only [fa_lt, fa_le, fa_eq, ti_0, ti_1, ti_9, ti_8, ti_119, ti_120] at *); omega)).symm | exact (zb_f (by (try simp only [fa_lt, fa_le, fa_eq, ti_0, ti_1, ti_9, ti_8, ti_119, ti_120] at *); omega)).symm) (rfl)
  · refine gf_iload_n 1 dX1_has_4 rfl rfl ?_
    refine gf_aload_n 0 dX1_has_5 rfl rfl ?_
    refine gf_getI flX1_64 rfl dX1_has_6 (gt_1 hG) ?_
    refine gf_icmp_ge 16 dX1_has_9 rfl (fun zc9 => ?_) (fun zc9 => ?_)
    · refine gf_iconst (0) dX1_has_16 rfl ?_
      exact gf_zretE dX1_has_17 rfl (rfl) (by first | exact (zb_t (by (try simp only [fa_lt, fa_le, fa_eq, ti_0, ti_1, ti_9, ti_8, ti_119, ti_120] at *); omega)).symm | exact (zb_f (by (try simp only [fa_lt, fa_le, fa_eq, ti_0, ti_1, ti_9, ti_8, ti_119, ti_120] at *); omega)).symm) (rfl)
    · refine gf_iconst (1) dX1_has_12 rfl ?_
      refine gf_goto 17 dX1_has_13 rfl ?_
      exact gf_zretE dX1_has_17 rfl (rfl) (by first | exact (zb_t (by (try simp only [fa_lt, fa_le, fa_eq, ti_0, ti_1, ti_9, ti_8, ti_119, ti_120] at *); omega)).symm | exact (zb_f (by (try simp only [fa_lt, fa_le, fa_eq, ti_0, ti_1, ti_9, ti_8, ti_119, ti_120] at *); omega)).symm) (rfl)
