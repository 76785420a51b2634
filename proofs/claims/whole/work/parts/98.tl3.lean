/-! ===== the law: its cases, more ===== -/
theorem la_19 (E : gE) {b n i : Nat} {f : Nat → Int32} (hn : n < 4000) (hi : i + 7 ≤ n) {H : hp_T} (R : rel9 H) {Q : hp_T → Prop} (K : ∀ H2, rel9 H2 → hp_n H2 ≤ hp_n H + 4 → hp_s H2 ≤ hp_s H + 700 → gy (scX E b n f) E mL9 200 1194 [(0, .ref b), (1, .ref (E.1 + 0)), (2, .ref (E.1 + 247)), (3, .int (nI i))] [] H2 (some (.int 1)) Q) : gy (scX E b n f) E mL9 200 835 [(0, .ref b), (1, .ref (E.1 + 0)), (2, .ref (E.1 + 247)), (3, .int (nI i))] [] H (some (.int 1)) Q := by
  have G : gr H := rel_gr R
  obtain ⟨v, H1, H2, k1, k2, R2, c2, s2, hv, G1⟩ := cal_burnt E R (f (i + 1)) (f (i + 2))
  obtain ⟨x, rfl⟩ := hv.2 (by decide)
  refine gy_st (f := fun _ kk => gx_aload_n 1 dL_law_835 rfl rfl kk) ?_
  refine gy_st (f := fun _ kk => gx_aload_n 0 dL_law_836 rfl rfl kk) ?_
  refine gy_st (f := fun _ kk => gx_iload_n 3 dL_law_837 rfl rfl kk) ?_
  refine gy_st (f := fun _ kk => gx_iconst (1) dL_law_838 rfl kk) ?_
  refine gy_st (f := fun _ kk => gx_iadd dL_law_839 kk) ?_
  refine gy_st (f := fun _ kk => gx_xald (j := i + 1) dL_law_840 (ix_1 i) (by omega) (by omega) kk) ?_
  refine gy_st (f := fun _ kk => gx_aload_n 0 dL_law_841 rfl rfl kk) ?_
  refine gy_st (f := fun _ kk => gx_iload_n 3 dL_law_842 rfl rfl kk) ?_
  refine gy_st (f := fun _ kk => gx_iconst (2) dL_law_843 rfl kk) ?_
  refine gy_st (f := fun _ kk => gx_iadd dL_law_844 kk) ?_
  refine gy_st (f := fun _ kk => gx_xald (j := i + 2) dL_law_845 (ix_2 i) (by omega) (by omega) kk) ?_
  refine gy_st (f := fun _ kk => gx_callV cmX11_burnt lkL_99 imX11_burnt seX11_burnt ⟨rfl, by decide⟩ dL_law_846 (d1 := 100) (by omega) (gt_0 G) k1 rfl rfl (Nat.le_of_ble_eq_true rfl) kk) ?_
  refine gy_st (f := fun _ kk => gx_aload_n 2 dL_law_849 rfl rfl kk) ?_
  refine gy_st (f := fun _ kk => gx_aload_n 0 dL_law_850 rfl rfl kk) ?_
  refine gy_st (f := fun _ kk => gx_iload_n 3 dL_law_851 rfl rfl kk) ?_
  refine gy_st (f := fun _ kk => gx_iconst (1) dL_law_852 rfl kk) ?_
  refine gy_st (f := fun _ kk => gx_iadd dL_law_853 kk) ?_
  refine gy_st (f := fun _ kk => gx_xald (j := i + 1) dL_law_854 (ix_1 i) (by omega) (by omega) kk) ?_
  refine gy_st (f := fun _ kk => gx_aload_n 0 dL_law_855 rfl rfl kk) ?_
  refine gy_st (f := fun _ kk => gx_iload_n 3 dL_law_856 rfl rfl kk) ?_
  refine gy_st (f := fun _ kk => gx_iconst (2) dL_law_857 rfl kk) ?_
  refine gy_st (f := fun _ kk => gx_iadd dL_law_858 kk) ?_
  refine gy_st (f := fun _ kk => gx_xald (j := i + 2) dL_law_859 (ix_2 i) (by omega) (by omega) kk) ?_
  refine gy_st (f := fun _ kk => gx_callV cmX12_burnt lkL_102 imX12_burnt seX12_burnt ⟨rfl, by decide⟩ dL_law_860 (d1 := 100) (by omega) (gt_247 G1) k2 rfl rfl (Nat.le_of_ble_eq_true rfl) kk) ?_
  exact gy_eq 1194 dL_law_863 rfl (K H2 R2 c2 s2)
theorem la_20 (E : gE) {b n i : Nat} {f : Nat → Int32} (hn : n < 4000) (hi : i + 7 ≤ n) {H : hp_T} (R : rel9 H) {Q : hp_T → Prop} (K : ∀ H2, rel9 H2 → hp_n H2 ≤ hp_n H + 4 → hp_s H2 ≤ hp_s H + 700 → gy (scX E b n f) E mL9 200 1194 [(0, .ref b), (1, .ref (E.1 + 0)), (2, .ref (E.1 + 247)), (3, .int (nI i))] [] H2 (some (.int 1)) Q) : gy (scX E b n f) E mL9 200 868 [(0, .ref b), (1, .ref (E.1 + 0)), (2, .ref (E.1 + 247)), (3, .int (nI i))] [] H (some (.int 1)) Q := by
  have G : gr H := rel_gr R
  obtain ⟨v, H1, H2, k1, k2, R2, c2, s2, hv, G1⟩ := cal_came E R (f (i + 1)) (f (i + 2))
  obtain ⟨x, rfl⟩ := hv.2 (by decide)
  refine gy_st (f := fun _ kk => gx_aload_n 1 dL_law_868 rfl rfl kk) ?_
  refine gy_st (f := fun _ kk => gx_aload_n 0 dL_law_869 rfl rfl kk) ?_
  refine gy_st (f := fun _ kk => gx_iload_n 3 dL_law_870 rfl rfl kk) ?_
  refine gy_st (f := fun _ kk => gx_iconst (1) dL_law_871 rfl kk) ?_
  refine gy_st (f := fun _ kk => gx_iadd dL_law_872 kk) ?_
  refine gy_st (f := fun _ kk => gx_xald (j := i + 1) dL_law_873 (ix_1 i) (by omega) (by omega) kk) ?_
  refine gy_st (f := fun _ kk => gx_aload_n 0 dL_law_874 rfl rfl kk) ?_
  refine gy_st (f := fun _ kk => gx_iload_n 3 dL_law_875 rfl rfl kk) ?_
  refine gy_st (f := fun _ kk => gx_iconst (2) dL_law_876 rfl kk) ?_
  refine gy_st (f := fun _ kk => gx_iadd dL_law_877 kk) ?_
  refine gy_st (f := fun _ kk => gx_xald (j := i + 2) dL_law_878 (ix_2 i) (by omega) (by omega) kk) ?_
  refine gy_st (f := fun _ kk => gx_callV cmX11_came lkL_103 imX11_came seX11_came ⟨rfl, by decide⟩ dL_law_879 (d1 := 100) (by omega) (gt_0 G) k1 rfl rfl (Nat.le_of_ble_eq_true rfl) kk) ?_
  refine gy_st (f := fun _ kk => gx_aload_n 2 dL_law_882 rfl rfl kk) ?_
  refine gy_st (f := fun _ kk => gx_aload_n 0 dL_law_883 rfl rfl kk) ?_
  refine gy_st (f := fun _ kk => gx_iload_n 3 dL_law_884 rfl rfl kk) ?_
  refine gy_st (f := fun _ kk => gx_iconst (1) dL_law_885 rfl kk) ?_
  refine gy_st (f := fun _ kk => gx_iadd dL_law_886 kk) ?_
  refine gy_st (f := fun _ kk => gx_xald (j := i + 1) dL_law_887 (ix_1 i) (by omega) (by omega) kk) ?_
  refine gy_st (f := fun _ kk => gx_aload_n 0 dL_law_888 rfl rfl kk) ?_
  refine gy_st (f := fun _ kk => gx_iload_n 3 dL_law_889 rfl rfl kk) ?_
  refine gy_st (f := fun _ kk => gx_iconst (2) dL_law_890 rfl kk) ?_
  refine gy_st (f := fun _ kk => gx_iadd dL_law_891 kk) ?_
  refine gy_st (f := fun _ kk => gx_xald (j := i + 2) dL_law_892 (ix_2 i) (by omega) (by omega) kk) ?_
  refine gy_st (f := fun _ kk => gx_callV cmX12_came lkL_106 imX12_came seX12_came ⟨rfl, by decide⟩ dL_law_893 (d1 := 100) (by omega) (gt_247 G1) k2 rfl rfl (Nat.le_of_ble_eq_true rfl) kk) ?_
  exact gy_eq 1194 dL_law_896 rfl (K H2 R2 c2 s2)
theorem la_21 (E : gE) {b n i : Nat} {f : Nat → Int32} (hn : n < 4000) (hi : i + 7 ≤ n) {H : hp_T} (R : rel9 H) {Q : hp_T → Prop} (K : ∀ H2, rel9 H2 → hp_n H2 ≤ hp_n H + 4 → hp_s H2 ≤ hp_s H + 700 → gy (scX E b n f) E mL9 200 1194 [(0, .ref b), (1, .ref (E.1 + 0)), (2, .ref (E.1 + 247)), (3, .int (nI i))] [] H2 (some (.int 1)) Q) : gy (scX E b n f) E mL9 200 901 [(0, .ref b), (1, .ref (E.1 + 0)), (2, .ref (E.1 + 247)), (3, .int (nI i))] [] H (some (.int 1)) Q := by
  have G : gr H := rel_gr R
  obtain ⟨v, H1, H2, k1, k2, R2, c2, s2, hv, G1⟩ := cal_lost E R
  obtain ⟨x, rfl⟩ := hv.2 (by decide)
  refine gy_st (f := fun _ kk => gx_aload_n 1 dL_law_901 rfl rfl kk) ?_
  refine gy_st (f := fun _ kk => gx_callV cmX11_lost lkL_107 imX11_lost seX11_lost ⟨rfl, by decide⟩ dL_law_902 (d1 := 100) (by omega) (gt_0 G) k1 rfl rfl (Nat.le_of_ble_eq_true rfl) kk) ?_
  refine gy_st (f := fun _ kk => gx_aload_n 2 dL_law_905 rfl rfl kk) ?_
  refine gy_st (f := fun _ kk => gx_callV cmX12_lost lkL_111 imX12_lost seX12_lost ⟨rfl, by decide⟩ dL_law_906 (d1 := 100) (by omega) (gt_247 G1) k2 rfl rfl (Nat.le_of_ble_eq_true rfl) kk) ?_
  exact gy_eq 1194 dL_law_909 rfl (K H2 R2 c2 s2)
theorem la_22 (E : gE) {b n i : Nat} {f : Nat → Int32} (hn : n < 4000) (hi : i + 7 ≤ n) {H : hp_T} (R : rel9 H) {Q : hp_T → Prop} (K : ∀ H2, rel9 H2 → hp_n H2 ≤ hp_n H + 4 → hp_s H2 ≤ hp_s H + 700 → gy (scX E b n f) E mL9 200 1194 [(0, .ref b), (1, .ref (E.1 + 0)), (2, .ref (E.1 + 247)), (3, .int (nI i))] [] H2 (some (.int 1)) Q) : gy (scX E b n f) E mL9 200 914 [(0, .ref b), (1, .ref (E.1 + 0)), (2, .ref (E.1 + 247)), (3, .int (nI i))] [] H (some (.int 1)) Q := by
  have G : gr H := rel_gr R
  obtain ⟨v, H1, H2, k1, k2, R2, c2, s2, hv, G1⟩ := cal_claim E R (f (i + 1)) (f (i + 2))
  obtain ⟨x, rfl⟩ := hv.2 (by decide)
  refine gy_st (f := fun _ kk => gx_aload_n 1 dL_law_914 rfl rfl kk) ?_
  refine gy_st (f := fun _ kk => gx_aload_n 0 dL_law_915 rfl rfl kk) ?_
  refine gy_st (f := fun _ kk => gx_iload_n 3 dL_law_916 rfl rfl kk) ?_
  refine gy_st (f := fun _ kk => gx_iconst (1) dL_law_917 rfl kk) ?_
  refine gy_st (f := fun _ kk => gx_iadd dL_law_918 kk) ?_
  refine gy_st (f := fun _ kk => gx_xald (j := i + 1) dL_law_919 (ix_1 i) (by omega) (by omega) kk) ?_
  refine gy_st (f := fun _ kk => gx_aload_n 0 dL_law_920 rfl rfl kk) ?_
  refine gy_st (f := fun _ kk => gx_iload_n 3 dL_law_921 rfl rfl kk) ?_
  refine gy_st (f := fun _ kk => gx_iconst (2) dL_law_922 rfl kk) ?_
  refine gy_st (f := fun _ kk => gx_iadd dL_law_923 kk) ?_
  refine gy_st (f := fun _ kk => gx_xald (j := i + 2) dL_law_924 (ix_2 i) (by omega) (by omega) kk) ?_
  refine gy_st (f := fun _ kk => gx_callV cmX11_claim lkL_112 imX11_claim seX11_claim ⟨rfl, by decide⟩ dL_law_925 (d1 := 100) (by omega) (gt_0 G) k1 rfl rfl (Nat.le_of_ble_eq_true rfl) kk) ?_
  refine gy_st (f := fun _ kk => gx_aload_n 2 dL_law_928 rfl rfl kk) ?_
  refine gy_st (f := fun _ kk => gx_aload_n 0 dL_law_929 rfl rfl kk) ?_
  refine gy_st (f := fun _ kk => gx_iload_n 3 dL_law_930 rfl rfl kk) ?_
  refine gy_st (f := fun _ kk => gx_iconst (1) dL_law_931 rfl kk) ?_
  refine gy_st (f := fun _ kk => gx_iadd dL_law_932 kk) ?_
  refine gy_st (f := fun _ kk => gx_xald (j := i + 1) dL_law_933 (ix_1 i) (by omega) (by omega) kk) ?_
  refine gy_st (f := fun _ kk => gx_aload_n 0 dL_law_934 rfl rfl kk) ?_
  refine gy_st (f := fun _ kk => gx_iload_n 3 dL_law_935 rfl rfl kk) ?_
  refine gy_st (f := fun _ kk => gx_iconst (2) dL_law_936 rfl kk) ?_
  refine gy_st (f := fun _ kk => gx_iadd dL_law_937 kk) ?_
  refine gy_st (f := fun _ kk => gx_xald (j := i + 2) dL_law_938 (ix_2 i) (by omega) (by omega) kk) ?_
  refine gy_st (f := fun _ kk => gx_callV cmX12_claim lkL_115 imX12_claim seX12_claim ⟨rfl, by decide⟩ dL_law_939 (d1 := 100) (by omega) (gt_247 G1) k2 rfl rfl (Nat.le_of_ble_eq_true rfl) kk) ?_
  exact gy_eq 1194 dL_law_942 rfl (K H2 R2 c2 s2)
theorem la_23 (E : gE) {b n i : Nat} {f : Nat → Int32} (hn : n < 4000) (hi : i + 7 ≤ n) {H : hp_T} (R : rel9 H) {Q : hp_T → Prop} (K : ∀ H2, rel9 H2 → hp_n H2 ≤ hp_n H + 4 → hp_s H2 ≤ hp_s H + 700 → gy (scX E b n f) E mL9 200 1194 [(0, .ref b), (1, .ref (E.1 + 0)), (2, .ref (E.1 + 247)), (3, .int (nI i))] [] H2 (some (.int 1)) Q) : gy (scX E b n f) E mL9 200 947 [(0, .ref b), (1, .ref (E.1 + 0)), (2, .ref (E.1 + 247)), (3, .int (nI i))] [] H (some (.int 1)) Q := by
  have G : gr H := rel_gr R
  obtain ⟨v, H1, H2, k1, k2, R2, c2, s2, hv, G1⟩ := cal_settled E R (f (i + 1))
  obtain ⟨x, rfl⟩ := hv.2 (by decide)
  refine gy_st (f := fun _ kk => gx_aload_n 1 dL_law_947 rfl rfl kk) ?_
  refine gy_st (f := fun _ kk => gx_aload_n 0 dL_law_948 rfl rfl kk) ?_
  refine gy_st (f := fun _ kk => gx_iload_n 3 dL_law_949 rfl rfl kk) ?_
  refine gy_st (f := fun _ kk => gx_iconst (1) dL_law_950 rfl kk) ?_
  refine gy_st (f := fun _ kk => gx_iadd dL_law_951 kk) ?_
  refine gy_st (f := fun _ kk => gx_xald (j := i + 1) dL_law_952 (ix_1 i) (by omega) (by omega) kk) ?_
  refine gy_st (f := fun _ kk => gx_callV cmX11_settled lkL_116 imX11_settled seX11_settled ⟨rfl, by decide⟩ dL_law_953 (d1 := 100) (by omega) (gt_0 G) k1 rfl rfl (Nat.le_of_ble_eq_true rfl) kk) ?_
  refine gy_st (f := fun _ kk => gx_aload_n 2 dL_law_956 rfl rfl kk) ?_
  refine gy_st (f := fun _ kk => gx_aload_n 0 dL_law_957 rfl rfl kk) ?_
  refine gy_st (f := fun _ kk => gx_iload_n 3 dL_law_958 rfl rfl kk) ?_
  refine gy_st (f := fun _ kk => gx_iconst (1) dL_law_959 rfl kk) ?_
  refine gy_st (f := fun _ kk => gx_iadd dL_law_960 kk) ?_
  refine gy_st (f := fun _ kk => gx_xald (j := i + 1) dL_law_961 (ix_1 i) (by omega) (by omega) kk) ?_
  refine gy_st (f := fun _ kk => gx_callV cmX12_settled lkL_119 imX12_settled seX12_settled ⟨rfl, by decide⟩ dL_law_962 (d1 := 100) (by omega) (gt_247 G1) k2 rfl rfl (Nat.le_of_ble_eq_true rfl) kk) ?_
  exact gy_eq 1194 dL_law_965 rfl (K H2 R2 c2 s2)
theorem la_24 (E : gE) {b n i : Nat} {f : Nat → Int32} (hn : n < 4000) (hi : i + 7 ≤ n) {H : hp_T} (R : rel9 H) {Q : hp_T → Prop} (K : ∀ H2, rel9 H2 → hp_n H2 ≤ hp_n H + 4 → hp_s H2 ≤ hp_s H + 700 → gy (scX E b n f) E mL9 200 1194 [(0, .ref b), (1, .ref (E.1 + 0)), (2, .ref (E.1 + 247)), (3, .int (nI i))] [] H2 (some (.int 1)) Q) : gy (scX E b n f) E mL9 200 970 [(0, .ref b), (1, .ref (E.1 + 0)), (2, .ref (E.1 + 247)), (3, .int (nI i))] [] H (some (.int 1)) Q := by
  have G : gr H := rel_gr R
  obtain ⟨v, H1, H2, k1, k2, R2, c2, s2, hv, G1⟩ := cal_fall E R (f (i + 1)) (f (i + 2))
  obtain ⟨x, rfl⟩ := hv.1 rfl
  refine gy_st (f := fun _ kk => gx_aload_n 1 dL_law_970 rfl rfl kk) ?_
  refine gy_st (f := fun _ kk => gx_aload_n 0 dL_law_971 rfl rfl kk) ?_
  refine gy_st (f := fun _ kk => gx_iload_n 3 dL_law_972 rfl rfl kk) ?_
  refine gy_st (f := fun _ kk => gx_iconst (1) dL_law_973 rfl kk) ?_
  refine gy_st (f := fun _ kk => gx_iadd dL_law_974 kk) ?_
  refine gy_st (f := fun _ kk => gx_xald (j := i + 1) dL_law_975 (ix_1 i) (by omega) (by omega) kk) ?_
  refine gy_st (f := fun _ kk => gx_aload_n 0 dL_law_976 rfl rfl kk) ?_
  refine gy_st (f := fun _ kk => gx_iload_n 3 dL_law_977 rfl rfl kk) ?_
  refine gy_st (f := fun _ kk => gx_iconst (2) dL_law_978 rfl kk) ?_
  refine gy_st (f := fun _ kk => gx_iadd dL_law_979 kk) ?_
  refine gy_st (f := fun _ kk => gx_xald (j := i + 2) dL_law_980 (ix_2 i) (by omega) (by omega) kk) ?_
  refine gy_st (f := fun _ kk => gx_callV cmX11_fall lkL_120 imX11_fall seX11_fall ⟨rfl, by decide⟩ dL_law_981 (d1 := 100) (by omega) (gt_0 G) k1 rfl rfl (Nat.le_of_ble_eq_true rfl) kk) ?_
  refine gy_st (f := fun _ kk => gx_aload_n 2 dL_law_984 rfl rfl kk) ?_
  refine gy_st (f := fun _ kk => gx_aload_n 0 dL_law_985 rfl rfl kk) ?_
  refine gy_st (f := fun _ kk => gx_iload_n 3 dL_law_986 rfl rfl kk) ?_
  refine gy_st (f := fun _ kk => gx_iconst (1) dL_law_987 rfl kk) ?_
  refine gy_st (f := fun _ kk => gx_iadd dL_law_988 kk) ?_
  refine gy_st (f := fun _ kk => gx_xald (j := i + 1) dL_law_989 (ix_1 i) (by omega) (by omega) kk) ?_
  refine gy_st (f := fun _ kk => gx_aload_n 0 dL_law_990 rfl rfl kk) ?_
  refine gy_st (f := fun _ kk => gx_iload_n 3 dL_law_991 rfl rfl kk) ?_
  refine gy_st (f := fun _ kk => gx_iconst (2) dL_law_992 rfl kk) ?_
  refine gy_st (f := fun _ kk => gx_iadd dL_law_993 kk) ?_
  refine gy_st (f := fun _ kk => gx_xald (j := i + 2) dL_law_994 (ix_2 i) (by omega) (by omega) kk) ?_
  refine gy_st (f := fun _ kk => gx_callV cmX12_fall lkL_124 imX12_fall seX12_fall ⟨rfl, by decide⟩ dL_law_995 (d1 := 100) (by omega) (gt_247 G1) k2 rfl rfl (Nat.le_of_ble_eq_true rfl) kk) ?_
  refine gy_st (f := fun _ kk => gx_lcmp dL_law_998 kk) ?_
  refine gy_st (f := fun _ kk => gx_if_eq 1194 dL_law_999 rfl (fun _ => kk) (fun q => absurd (lgc_z x) q)) ?_
  exact K H2 R2 c2 s2
theorem la_25 (E : gE) {b n i : Nat} {f : Nat → Int32} (hn : n < 4000) (hi : i + 7 ≤ n) {H : hp_T} (R : rel9 H) {Q : hp_T → Prop} (K : ∀ H2, rel9 H2 → hp_n H2 ≤ hp_n H + 4 → hp_s H2 ≤ hp_s H + 700 → gy (scX E b n f) E mL9 200 1194 [(0, .ref b), (1, .ref (E.1 + 0)), (2, .ref (E.1 + 247)), (3, .int (nI i))] [] H2 (some (.int 1)) Q) : gy (scX E b n f) E mL9 200 1004 [(0, .ref b), (1, .ref (E.1 + 0)), (2, .ref (E.1 + 247)), (3, .int (nI i))] [] H (some (.int 1)) Q := by
  have G : gr H := rel_gr R
  obtain ⟨v, H1, H2, k1, k2, R2, c2, s2, hv, G1⟩ := cal_rounds E R
  obtain ⟨x, rfl⟩ := hv.2 (by decide)
  refine gy_st (f := fun _ kk => gx_aload_n 1 dL_law_1004 rfl rfl kk) ?_
  refine gy_st (f := fun _ kk => gx_callV cmX11_rounds lkL_125 imX11_rounds seX11_rounds ⟨rfl, by decide⟩ dL_law_1005 (d1 := 100) (by omega) (gt_0 G) k1 rfl rfl (Nat.le_of_ble_eq_true rfl) kk) ?_
  refine gy_st (f := fun _ kk => gx_aload_n 2 dL_law_1008 rfl rfl kk) ?_
  refine gy_st (f := fun _ kk => gx_callV cmX12_rounds lkL_128 imX12_rounds seX12_rounds ⟨rfl, by decide⟩ dL_law_1009 (d1 := 100) (by omega) (gt_247 G1) k2 rfl rfl (Nat.le_of_ble_eq_true rfl) kk) ?_
  exact gy_eq 1194 dL_law_1012 rfl (K H2 R2 c2 s2)
theorem la_26 (E : gE) {b n i : Nat} {f : Nat → Int32} (hn : n < 4000) (hi : i + 7 ≤ n) {H : hp_T} (R : rel9 H) {Q : hp_T → Prop} (K : ∀ H2, rel9 H2 → hp_n H2 ≤ hp_n H + 4 → hp_s H2 ≤ hp_s H + 700 → gy (scX E b n f) E mL9 200 1194 [(0, .ref b), (1, .ref (E.1 + 0)), (2, .ref (E.1 + 247)), (3, .int (nI i))] [] H2 (some (.int 1)) Q) : gy (scX E b n f) E mL9 200 1017 [(0, .ref b), (1, .ref (E.1 + 0)), (2, .ref (E.1 + 247)), (3, .int (nI i))] [] H (some (.int 1)) Q := by
  have G : gr H := rel_gr R
  obtain ⟨v, H1, H2, k1, k2, R2, c2, s2, hv, G1⟩ := cal_worst E R (f (i + 1)) (f (i + 2))
  obtain ⟨x, rfl⟩ := hv.2 (by decide)
  refine gy_st (f := fun _ kk => gx_aload_n 1 dL_law_1017 rfl rfl kk) ?_
  refine gy_st (f := fun _ kk => gx_aload_n 0 dL_law_1018 rfl rfl kk) ?_
  refine gy_st (f := fun _ kk => gx_iload_n 3 dL_law_1019 rfl rfl kk) ?_
  refine gy_st (f := fun _ kk => gx_iconst (1) dL_law_1020 rfl kk) ?_
  refine gy_st (f := fun _ kk => gx_iadd dL_law_1021 kk) ?_
  refine gy_st (f := fun _ kk => gx_xald (j := i + 1) dL_law_1022 (ix_1 i) (by omega) (by omega) kk) ?_
  refine gy_st (f := fun _ kk => gx_aload_n 0 dL_law_1023 rfl rfl kk) ?_
  refine gy_st (f := fun _ kk => gx_iload_n 3 dL_law_1024 rfl rfl kk) ?_
  refine gy_st (f := fun _ kk => gx_iconst (2) dL_law_1025 rfl kk) ?_
  refine gy_st (f := fun _ kk => gx_iadd dL_law_1026 kk) ?_
  refine gy_st (f := fun _ kk => gx_xald (j := i + 2) dL_law_1027 (ix_2 i) (by omega) (by omega) kk) ?_
  refine gy_st (f := fun _ kk => gx_callV cmX11_worst lkL_129 imX11_worst seX11_worst ⟨rfl, by decide⟩ dL_law_1028 (d1 := 100) (by omega) (gt_0 G) k1 rfl rfl (Nat.le_of_ble_eq_true rfl) kk) ?_
  refine gy_st (f := fun _ kk => gx_aload_n 2 dL_law_1031 rfl rfl kk) ?_
  refine gy_st (f := fun _ kk => gx_aload_n 0 dL_law_1032 rfl rfl kk) ?_
  refine gy_st (f := fun _ kk => gx_iload_n 3 dL_law_1033 rfl rfl kk) ?_
  refine gy_st (f := fun _ kk => gx_iconst (1) dL_law_1034 rfl kk) ?_
  refine gy_st (f := fun _ kk => gx_iadd dL_law_1035 kk) ?_
  refine gy_st (f := fun _ kk => gx_xald (j := i + 1) dL_law_1036 (ix_1 i) (by omega) (by omega) kk) ?_
  refine gy_st (f := fun _ kk => gx_aload_n 0 dL_law_1037 rfl rfl kk) ?_
  refine gy_st (f := fun _ kk => gx_iload_n 3 dL_law_1038 rfl rfl kk) ?_
  refine gy_st (f := fun _ kk => gx_iconst (2) dL_law_1039 rfl kk) ?_
  refine gy_st (f := fun _ kk => gx_iadd dL_law_1040 kk) ?_
  refine gy_st (f := fun _ kk => gx_xald (j := i + 2) dL_law_1041 (ix_2 i) (by omega) (by omega) kk) ?_
  refine gy_st (f := fun _ kk => gx_callV cmX12_worst lkL_132 imX12_worst seX12_worst ⟨rfl, by decide⟩ dL_law_1042 (d1 := 100) (by omega) (gt_247 G1) k2 rfl rfl (Nat.le_of_ble_eq_true rfl) kk) ?_
  exact gy_eq 1194 dL_law_1045 rfl (K H2 R2 c2 s2)
theorem la_27 (E : gE) {b n i : Nat} {f : Nat → Int32} (hn : n < 4000) (hi : i + 7 ≤ n) {H : hp_T} (R : rel9 H) {Q : hp_T → Prop} (K : ∀ H2, rel9 H2 → hp_n H2 ≤ hp_n H + 4 → hp_s H2 ≤ hp_s H + 700 → gy (scX E b n f) E mL9 200 1194 [(0, .ref b), (1, .ref (E.1 + 0)), (2, .ref (E.1 + 247)), (3, .int (nI i))] [] H2 (some (.int 1)) Q) : gy (scX E b n f) E mL9 200 1050 [(0, .ref b), (1, .ref (E.1 + 0)), (2, .ref (E.1 + 247)), (3, .int (nI i))] [] H (some (.int 1)) Q := by
  have G : gr H := rel_gr R
  obtain ⟨v, H1, H2, k1, k2, R2, c2, s2, hv, G1⟩ := cal_place E R (f (i + 1))
  obtain ⟨x, rfl⟩ := hv.2 (by decide)
  refine gy_st (f := fun _ kk => gx_aload_n 1 dL_law_1050 rfl rfl kk) ?_
  refine gy_st (f := fun _ kk => gx_aload_n 0 dL_law_1051 rfl rfl kk) ?_
  refine gy_st (f := fun _ kk => gx_iload_n 3 dL_law_1052 rfl rfl kk) ?_
  refine gy_st (f := fun _ kk => gx_iconst (1) dL_law_1053 rfl kk) ?_
  refine gy_st (f := fun _ kk => gx_iadd dL_law_1054 kk) ?_
  refine gy_st (f := fun _ kk => gx_xald (j := i + 1) dL_law_1055 (ix_1 i) (by omega) (by omega) kk) ?_
  refine gy_st (f := fun _ kk => gx_callV cmX11_place lkL_133 imX11_place seX11_place ⟨rfl, by decide⟩ dL_law_1056 (d1 := 100) (by omega) (gt_0 G) k1 rfl rfl (Nat.le_of_ble_eq_true rfl) kk) ?_
  refine gy_st (f := fun _ kk => gx_aload_n 2 dL_law_1059 rfl rfl kk) ?_
  refine gy_st (f := fun _ kk => gx_aload_n 0 dL_law_1060 rfl rfl kk) ?_
  refine gy_st (f := fun _ kk => gx_iload_n 3 dL_law_1061 rfl rfl kk) ?_
  refine gy_st (f := fun _ kk => gx_iconst (1) dL_law_1062 rfl kk) ?_
  refine gy_st (f := fun _ kk => gx_iadd dL_law_1063 kk) ?_
  refine gy_st (f := fun _ kk => gx_xald (j := i + 1) dL_law_1064 (ix_1 i) (by omega) (by omega) kk) ?_
  refine gy_st (f := fun _ kk => gx_callV cmX12_place lkL_136 imX12_place seX12_place ⟨rfl, by decide⟩ dL_law_1065 (d1 := 100) (by omega) (gt_247 G1) k2 rfl rfl (Nat.le_of_ble_eq_true rfl) kk) ?_
  exact gy_eq 1194 dL_law_1068 rfl (K H2 R2 c2 s2)
theorem la_28 (E : gE) {b n i : Nat} {f : Nat → Int32} (hn : n < 4000) (hi : i + 7 ≤ n) {H : hp_T} (R : rel9 H) {Q : hp_T → Prop} (K : ∀ H2, rel9 H2 → hp_n H2 ≤ hp_n H + 4 → hp_s H2 ≤ hp_s H + 700 → gy (scX E b n f) E mL9 200 1194 [(0, .ref b), (1, .ref (E.1 + 0)), (2, .ref (E.1 + 247)), (3, .int (nI i))] [] H2 (some (.int 1)) Q) : gy (scX E b n f) E mL9 200 1073 [(0, .ref b), (1, .ref (E.1 + 0)), (2, .ref (E.1 + 247)), (3, .int (nI i))] [] H (some (.int 1)) Q := by
  have G : gr H := rel_gr R
  obtain ⟨v, H1, H2, k1, k2, R2, c2, s2, hv, G1⟩ := cal_plan E R (f (i + 1)) (f (i + 2)) (f (i + 3)) (f (i + 4)) (f (i + 5)) (f (i + 6))
  obtain ⟨x, rfl⟩ := hv.2 (by decide)
  refine gy_st (f := fun _ kk => gx_aload_n 1 dL_law_1073 rfl rfl kk) ?_
  refine gy_st (f := fun _ kk => gx_aload_n 0 dL_law_1074 rfl rfl kk) ?_
  refine gy_st (f := fun _ kk => gx_iload_n 3 dL_law_1075 rfl rfl kk) ?_
  refine gy_st (f := fun _ kk => gx_iconst (1) dL_law_1076 rfl kk) ?_
  refine gy_st (f := fun _ kk => gx_iadd dL_law_1077 kk) ?_
  refine gy_st (f := fun _ kk => gx_xald (j := i + 1) dL_law_1078 (ix_1 i) (by omega) (by omega) kk) ?_
  refine gy_st (f := fun _ kk => gx_aload_n 0 dL_law_1079 rfl rfl kk) ?_
  refine gy_st (f := fun _ kk => gx_iload_n 3 dL_law_1080 rfl rfl kk) ?_
  refine gy_st (f := fun _ kk => gx_iconst (2) dL_law_1081 rfl kk) ?_
  refine gy_st (f := fun _ kk => gx_iadd dL_law_1082 kk) ?_
  refine gy_st (f := fun _ kk => gx_xald (j := i + 2) dL_law_1083 (ix_2 i) (by omega) (by omega) kk) ?_
  refine gy_st (f := fun _ kk => gx_aload_n 0 dL_law_1084 rfl rfl kk) ?_
  refine gy_st (f := fun _ kk => gx_iload_n 3 dL_law_1085 rfl rfl kk) ?_
  refine gy_st (f := fun _ kk => gx_iconst (3) dL_law_1086 rfl kk) ?_
  refine gy_st (f := fun _ kk => gx_iadd dL_law_1087 kk) ?_
  refine gy_st (f := fun _ kk => gx_xald (j := i + 3) dL_law_1088 (ix_3 i) (by omega) (by omega) kk) ?_
  refine gy_st (f := fun _ kk => gx_aload_n 0 dL_law_1089 rfl rfl kk) ?_
  refine gy_st (f := fun _ kk => gx_iload_n 3 dL_law_1090 rfl rfl kk) ?_
  refine gy_st (f := fun _ kk => gx_iconst (4) dL_law_1091 rfl kk) ?_
  refine gy_st (f := fun _ kk => gx_iadd dL_law_1092 kk) ?_
  refine gy_st (f := fun _ kk => gx_xald (j := i + 4) dL_law_1093 (ix_4 i) (by omega) (by omega) kk) ?_
  refine gy_st (f := fun _ kk => gx_aload_n 0 dL_law_1094 rfl rfl kk) ?_
  refine gy_st (f := fun _ kk => gx_iload_n 3 dL_law_1095 rfl rfl kk) ?_
  refine gy_st (f := fun _ kk => gx_iconst (5) dL_law_1096 rfl kk) ?_
  refine gy_st (f := fun _ kk => gx_iadd dL_law_1097 kk) ?_
  refine gy_st (f := fun _ kk => gx_xald (j := i + 5) dL_law_1098 (ix_5 i) (by omega) (by omega) kk) ?_
  refine gy_st (f := fun _ kk => gx_aload_n 0 dL_law_1099 rfl rfl kk) ?_
  refine gy_st (f := fun _ kk => gx_iload_n 3 dL_law_1100 rfl rfl kk) ?_
  refine gy_st (f := fun _ kk => gx_bipush (6) dL_law_1101 rfl kk) ?_
  refine gy_st (f := fun _ kk => gx_iadd dL_law_1103 kk) ?_
  refine gy_st (f := fun _ kk => gx_xald (j := i + 6) dL_law_1104 (ix_6 i) (by omega) (by omega) kk) ?_
  refine gy_st (f := fun _ kk => gx_callV cmX11_plan lkL_137 imX11_plan seX11_plan ⟨rfl, by decide⟩ dL_law_1105 (d1 := 100) (by omega) (gt_0 G) k1 rfl rfl (Nat.le_of_ble_eq_true rfl) kk) ?_
  refine gy_st (f := fun _ kk => gx_aload_n 2 dL_law_1108 rfl rfl kk) ?_
  refine gy_st (f := fun _ kk => gx_aload_n 0 dL_law_1109 rfl rfl kk) ?_
  refine gy_st (f := fun _ kk => gx_iload_n 3 dL_law_1110 rfl rfl kk) ?_
  refine gy_st (f := fun _ kk => gx_iconst (1) dL_law_1111 rfl kk) ?_
  refine gy_st (f := fun _ kk => gx_iadd dL_law_1112 kk) ?_
  refine gy_st (f := fun _ kk => gx_xald (j := i + 1) dL_law_1113 (ix_1 i) (by omega) (by omega) kk) ?_
  refine gy_st (f := fun _ kk => gx_aload_n 0 dL_law_1114 rfl rfl kk) ?_
  refine gy_st (f := fun _ kk => gx_iload_n 3 dL_law_1115 rfl rfl kk) ?_
  refine gy_st (f := fun _ kk => gx_iconst (2) dL_law_1116 rfl kk) ?_
  refine gy_st (f := fun _ kk => gx_iadd dL_law_1117 kk) ?_
  refine gy_st (f := fun _ kk => gx_xald (j := i + 2) dL_law_1118 (ix_2 i) (by omega) (by omega) kk) ?_
  refine gy_st (f := fun _ kk => gx_aload_n 0 dL_law_1119 rfl rfl kk) ?_
  refine gy_st (f := fun _ kk => gx_iload_n 3 dL_law_1120 rfl rfl kk) ?_
  refine gy_st (f := fun _ kk => gx_iconst (3) dL_law_1121 rfl kk) ?_
  refine gy_st (f := fun _ kk => gx_iadd dL_law_1122 kk) ?_
  refine gy_st (f := fun _ kk => gx_xald (j := i + 3) dL_law_1123 (ix_3 i) (by omega) (by omega) kk) ?_
  refine gy_st (f := fun _ kk => gx_aload_n 0 dL_law_1124 rfl rfl kk) ?_
  refine gy_st (f := fun _ kk => gx_iload_n 3 dL_law_1125 rfl rfl kk) ?_
  refine gy_st (f := fun _ kk => gx_iconst (4) dL_law_1126 rfl kk) ?_
  refine gy_st (f := fun _ kk => gx_iadd dL_law_1127 kk) ?_
  refine gy_st (f := fun _ kk => gx_xald (j := i + 4) dL_law_1128 (ix_4 i) (by omega) (by omega) kk) ?_
  refine gy_st (f := fun _ kk => gx_aload_n 0 dL_law_1129 rfl rfl kk) ?_
  refine gy_st (f := fun _ kk => gx_iload_n 3 dL_law_1130 rfl rfl kk) ?_
  refine gy_st (f := fun _ kk => gx_iconst (5) dL_law_1131 rfl kk) ?_
  refine gy_st (f := fun _ kk => gx_iadd dL_law_1132 kk) ?_
  refine gy_st (f := fun _ kk => gx_xald (j := i + 5) dL_law_1133 (ix_5 i) (by omega) (by omega) kk) ?_
  refine gy_st (f := fun _ kk => gx_aload_n 0 dL_law_1134 rfl rfl kk) ?_
  refine gy_st (f := fun _ kk => gx_iload_n 3 dL_law_1135 rfl rfl kk) ?_
  refine gy_st (f := fun _ kk => gx_bipush (6) dL_law_1136 rfl kk) ?_
  refine gy_st (f := fun _ kk => gx_iadd dL_law_1138 kk) ?_
  refine gy_st (f := fun _ kk => gx_xald (j := i + 6) dL_law_1139 (ix_6 i) (by omega) (by omega) kk) ?_
  refine gy_st (f := fun _ kk => gx_callV cmX12_plan lkL_141 imX12_plan seX12_plan ⟨rfl, by decide⟩ dL_law_1140 (d1 := 100) (by omega) (gt_247 G1) k2 rfl rfl (Nat.le_of_ble_eq_true rfl) kk) ?_
  exact gy_eq 1194 dL_law_1143 rfl (K H2 R2 c2 s2)
theorem la_29 (E : gE) {b n i : Nat} {f : Nat → Int32} (hn : n < 4000) (hi : i + 7 ≤ n) {H : hp_T} (R : rel9 H) {Q : hp_T → Prop} (K : ∀ H2, rel9 H2 → hp_n H2 ≤ hp_n H + 4 → hp_s H2 ≤ hp_s H + 700 → gy (scX E b n f) E mL9 200 1194 [(0, .ref b), (1, .ref (E.1 + 0)), (2, .ref (E.1 + 247)), (3, .int (nI i))] [] H2 (some (.int 1)) Q) : gy (scX E b n f) E mL9 200 1148 [(0, .ref b), (1, .ref (E.1 + 0)), (2, .ref (E.1 + 247)), (3, .int (nI i))] [] H (some (.int 1)) Q := by
  have G : gr H := rel_gr R
  obtain ⟨v, H1, H2, k1, k2, R2, c2, s2, hv, G1⟩ := cal_planned E R (f (i + 1))
  obtain ⟨x, rfl⟩ := hv.2 (by decide)
  refine gy_st (f := fun _ kk => gx_aload_n 1 dL_law_1148 rfl rfl kk) ?_
  refine gy_st (f := fun _ kk => gx_aload_n 0 dL_law_1149 rfl rfl kk) ?_
  refine gy_st (f := fun _ kk => gx_iload_n 3 dL_law_1150 rfl rfl kk) ?_
  refine gy_st (f := fun _ kk => gx_iconst (1) dL_law_1151 rfl kk) ?_
  refine gy_st (f := fun _ kk => gx_iadd dL_law_1152 kk) ?_
  refine gy_st (f := fun _ kk => gx_xald (j := i + 1) dL_law_1153 (ix_1 i) (by omega) (by omega) kk) ?_
  refine gy_st (f := fun _ kk => gx_callV cmX11_planned lkL_142 imX11_planned seX11_planned ⟨rfl, by decide⟩ dL_law_1154 (d1 := 100) (by omega) (gt_0 G) k1 rfl rfl (Nat.le_of_ble_eq_true rfl) kk) ?_
  refine gy_st (f := fun _ kk => gx_aload_n 2 dL_law_1157 rfl rfl kk) ?_
  refine gy_st (f := fun _ kk => gx_aload_n 0 dL_law_1158 rfl rfl kk) ?_
  refine gy_st (f := fun _ kk => gx_iload_n 3 dL_law_1159 rfl rfl kk) ?_
  refine gy_st (f := fun _ kk => gx_iconst (1) dL_law_1160 rfl kk) ?_
  refine gy_st (f := fun _ kk => gx_iadd dL_law_1161 kk) ?_
  refine gy_st (f := fun _ kk => gx_xald (j := i + 1) dL_law_1162 (ix_1 i) (by omega) (by omega) kk) ?_
  refine gy_st (f := fun _ kk => gx_callV cmX12_planned lkL_145 imX12_planned seX12_planned ⟨rfl, by decide⟩ dL_law_1163 (d1 := 100) (by omega) (gt_247 G1) k2 rfl rfl (Nat.le_of_ble_eq_true rfl) kk) ?_
  exact gy_eq 1194 dL_law_1166 rfl (K H2 R2 c2 s2)
theorem la_30 (E : gE) {b n i : Nat} {f : Nat → Int32} (hn : n < 4000) (hi : i + 7 ≤ n) {H : hp_T} (R : rel9 H) {Q : hp_T → Prop} (K : ∀ H2, rel9 H2 → hp_n H2 ≤ hp_n H + 4 → hp_s H2 ≤ hp_s H + 700 → gy (scX E b n f) E mL9 200 1194 [(0, .ref b), (1, .ref (E.1 + 0)), (2, .ref (E.1 + 247)), (3, .int (nI i))] [] H2 (some (.int 1)) Q) : gy (scX E b n f) E mL9 200 1171 [(0, .ref b), (1, .ref (E.1 + 0)), (2, .ref (E.1 + 247)), (3, .int (nI i))] [] H (some (.int 1)) Q := by
  have G : gr H := rel_gr R
  obtain ⟨v, H1, H2, k1, k2, R2, c2, s2, hv, G1⟩ := cal_all E R (f (i + 1))
  obtain ⟨x, rfl⟩ := hv.2 (by decide)
  refine gy_st (f := fun _ kk => gx_aload_n 1 dL_law_1171 rfl rfl kk) ?_
  refine gy_st (f := fun _ kk => gx_aload_n 0 dL_law_1172 rfl rfl kk) ?_
  refine gy_st (f := fun _ kk => gx_iload_n 3 dL_law_1173 rfl rfl kk) ?_
  refine gy_st (f := fun _ kk => gx_iconst (1) dL_law_1174 rfl kk) ?_
  refine gy_st (f := fun _ kk => gx_iadd dL_law_1175 kk) ?_
  refine gy_st (f := fun _ kk => gx_xald (j := i + 1) dL_law_1176 (ix_1 i) (by omega) (by omega) kk) ?_
  refine gy_st (f := fun _ kk => gx_callV cmX11_all lkL_146 imX11_all seX11_all ⟨rfl, by decide⟩ dL_law_1177 (d1 := 100) (by omega) (gt_0 G) k1 rfl rfl (Nat.le_of_ble_eq_true rfl) kk) ?_
  refine gy_st (f := fun _ kk => gx_aload_n 2 dL_law_1180 rfl rfl kk) ?_
  refine gy_st (f := fun _ kk => gx_aload_n 0 dL_law_1181 rfl rfl kk) ?_
  refine gy_st (f := fun _ kk => gx_iload_n 3 dL_law_1182 rfl rfl kk) ?_
  refine gy_st (f := fun _ kk => gx_iconst (1) dL_law_1183 rfl kk) ?_
  refine gy_st (f := fun _ kk => gx_iadd dL_law_1184 kk) ?_
  refine gy_st (f := fun _ kk => gx_xald (j := i + 1) dL_law_1185 (ix_1 i) (by omega) (by omega) kk) ?_
  refine gy_st (f := fun _ kk => gx_callV cmX12_all lkL_149 imX12_all seX12_all ⟨rfl, by decide⟩ dL_law_1186 (d1 := 100) (by omega) (gt_247 G1) k2 rfl rfl (Nat.le_of_ble_eq_true rfl) kk) ?_
  exact gy_eq 1194 dL_law_1189 rfl (K H2 R2 c2 s2)
