/-! ===== a method whose class is not plainly named ===== -/
theorem ev_ofF {E : gE} {M : gM} {d : Nat} {av : List Value} {h h' : hp_T} {v : Option Value} (hy : plainFor M.1 = true) (hi : M.2.2.2.2 = true → M.1.name = "<init>") (hl : (lg_sl av).length ≤ M.2.2.1) (k : gf E M d 0 (lv_args 0 av) [] h v h') : ev E M d av h v h' := by
  refine ⟨k.1, k.2.1, fun l => ?_⟩
  refine MetFree.of_bodySF (code := M.2.1) (maxLocals := M.2.2.1) (ret := M.2.2.2.1) hy ?_ ?_
  · intro args s m hb hn
    obtain ⟨meth, c, h1, h2, h3, h4, h5, h6, -, -⟩ := Cond.code_spec hn (atoms_spec (ws := .code M.1 M.2.1 M.2.2.1 M.2.2.2.1 :: tt) hb _ List.mem_cons_self)
    exact ⟨meth, c, h1, h2, h3, h4, h5, h6⟩
  · intro p e s m args below meth c s₁ B hml hv _
    obtain ⟨rfl, hP, hK, hSt, hz⟩ := hv
    have hh0 : s₁.heap = s.heap := by rw [B.state]; rfl
    have hts0 := atoms_spec (ws := .code M.1 M.2.1 M.2.2.1 M.2.2.2.1 :: tt) B.pre
    have hts : ∀ w ∈ tt, w.before av.toArray s = true := fun w hw => hts0 w (List.mem_cons_of_mem _ hw)
    have hown : s.vm.findClass M.1.cls = some m.cls := findClass_of_methodNamed B.named
    have hin : meth.name = M.1.name := (name_of_methodNamed B.named B.method).1
    have hA : gf_at E M p s m av.toArray meth c := ⟨B.exec, B.bytes, hml, B.returns, hown, hts, hK, hSt, B.notSynchronized, fun q => hin.trans (hi q)⟩
    have hl0 := lv_entry av (n := M.2.2.1) hl
    rw [lg_entry_eq]
    generalize (lg_sl av ++ List.replicate (M.2.2.1 - (lg_sl av).length) Slot.unset).toArray = ls at hl0 ⊢
    obtain ⟨t, a1, o, b1, b2, b3⟩ := k.2.2 p l e (headSpec (.code M.1 M.2.1 M.2.2.1 M.2.2.2.1 :: tt) { frames := d, cells := hp_n h' - hp_n h, slots := hp_s h' - hp_s h, locals := 60 * d }).room s m av.toArray below meth c s.heap [] 0 0 (hp_n h) (hp_s h) ls hA hP va_S.rf hl0
      (Nat.le_refl d) (Nat.le_refl _) (Nat.zero_add _) (Nat.zero_add _)
      (show hp_n h' ≤ (hp_n h' - hp_n h) + hp_n h by have := k.1; omega) (show hp_s h' ≤ (hp_s h' - hp_s h) + hp_s h by have := k.2.1; omega) hz s₁ hh0 (Stand.of_body B)
    exact ⟨t, o, a1, b1, b2, ⟨b3.1, b3.2⟩⟩
theorem e_floorDiv (E : gE) {d : Nat} (x y : Int32) (hy : ¬ y = 0) (h : hp_T) : ev E mJ9_floorDiv_7cf53 d [.int x, .int y] h (some (.int (fdiv x y))) h := by
  refine ev_ofF (by decide +kernel) (fun q => absurd q (by decide)) (Nat.le_of_ble_eq_true rfl) ?_
  refine gf_iload_n 0 dJ9_floorDiv_7cf53_0 rfl rfl ?_
  refine gf_iload_n 1 dJ9_floorDiv_7cf53_1 rfl rfl ?_
  refine gf_idiv dJ9_floorDiv_7cf53_2 hy ?_
  refine gf_istore_n 2 dJ9_floorDiv_7cf53_3 rfl (Nat.le_of_ble_eq_true rfl) ?_
  refine gf_iload_n 0 dJ9_floorDiv_7cf53_4 rfl rfl ?_
  refine gf_iload_n 1 dJ9_floorDiv_7cf53_5 rfl rfl ?_
  refine gf_ixor dJ9_floorDiv_7cf53_6 ?_
  refine gf_if_ge 21 dJ9_floorDiv_7cf53_7 rfl (fun zc7 => ?_) (fun zc7 => ?_)
  · refine gf_iload_n 2 dJ9_floorDiv_7cf53_21 rfl rfl ?_
    exact gf_iretE dJ9_floorDiv_7cf53_22 rfl ((if_neg (fun q => by have q1 := q.1; have q2 := zc7; rw [fa_le] at q2; rw [fa_lt] at q1; rw [ti_0] at *; omega) : fdiv x y = _).symm) (rfl)
  · refine gf_iload_n 2 dJ9_floorDiv_7cf53_10 rfl rfl ?_
    refine gf_iload_n 1 dJ9_floorDiv_7cf53_11 rfl rfl ?_
    refine gf_imul dJ9_floorDiv_7cf53_12 ?_
    refine gf_iload_n 0 dJ9_floorDiv_7cf53_13 rfl rfl ?_
    refine gf_icmp_eq 21 dJ9_floorDiv_7cf53_14 rfl (fun zc14 => ?_) (fun zc14 => ?_)
    · refine gf_iload_n 2 dJ9_floorDiv_7cf53_21 rfl rfl ?_
      exact gf_iretE dJ9_floorDiv_7cf53_22 rfl ((if_neg (fun q => q.2 zc14) : fdiv x y = _).symm) (rfl)
    · refine gf_iload_n 2 dJ9_floorDiv_7cf53_17 rfl rfl ?_
      refine gf_iconst (1) dJ9_floorDiv_7cf53_18 rfl ?_
      refine gf_isub dJ9_floorDiv_7cf53_19 ?_
      exact gf_iretE dJ9_floorDiv_7cf53_20 rfl ((if_pos ⟨by have q := zc7; rw [fa_le] at q; rw [fa_lt]; rw [ti_0] at *; omega, zc14⟩ : fdiv x y = _).symm) (rfl)
/-! ===== the class's Judge: two values joined, one told ===== -/
def clpV (v : Int64) : Int32 := if 1000000000 < v then 1000000000 else if v < -1000000000 then -1000000000 else v.toInt32
def jnV (t x y : Int32) : Int64 :=
  if t = 7 then (if x < y then x.toInt64 else y.toInt64) else if t = 8 then (if y < x then x.toInt64 else y.toInt64) else if t = 12 then (x &&& y).toInt64
  else if t = 42 then x.toInt64 * y.toInt64 else if t = 43 then x.toInt64 + y.toInt64 else if t = 45 then x.toInt64 - y.toInt64
  else if t = 47 then (if y = 0 then 0 else (fdiv x y).toInt64) else if t = 60 then (if x < y then 1 else 0) else if t = 61 then (if x = y then 1 else 0) else if t = 62 then (if y < x then 1 else 0)
  else (x ||| y).toInt64
theorem s_X6_clip (E : gE) {d : Nat} (t x y : Int32) (v : Int64) (h : hp_T) : gf E mX6_joined d 224 [(0, .int t), (1, .int x), (2, .int y), (3, .long v)] [] h (some (.int (clpV v))) h := by
  refine gf_lload_n 3 dX6_joined_224 rfl rfl ?_
  refine gf_ldc2 (1000000000) kcX6_133 dX6_joined_225 ?_
  refine gf_lcmp dX6_joined_228 ?_
  refine gf_if_le 235 dX6_joined_229 rfl (fun zc229 => ?_) (fun zc229 => ?_)
  · refine gf_lload_n 3 dX6_joined_235 rfl rfl ?_
    refine gf_ldc2 (-1000000000) kcX6_136 dX6_joined_236 ?_
    refine gf_lcmp dX6_joined_239 ?_
    refine gf_if_ge 248 dX6_joined_240 rfl (fun zc240 => ?_) (fun zc240 => ?_)
    · refine gf_lload_n 3 dX6_joined_248 rfl rfl ?_
      refine gf_l2i dX6_joined_249 ?_
      exact gf_iretE dX6_joined_250 rfl (((if_neg (by have q := zc229; rw [lg_cmp_le, fa_le64] at q; rw [fa_lt64]; omega) : clpV v = _).trans (if_neg (by have q := zc240; rw [lg_cmp_ge, fa_le64] at q; rw [fa_lt64]; omega))).symm) (rfl)
    · refine gf_ldc (-1000000000) kcX6_138 dX6_joined_243 ?_
      refine gf_goto 250 dX6_joined_245 rfl ?_
      exact gf_iretE dX6_joined_250 rfl (((if_neg (by have q := zc229; rw [lg_cmp_le, fa_le64] at q; rw [fa_lt64]; omega) : clpV v = _).trans (if_pos (by have q := zc240; rw [lg_cmp_ge, fa_le64] at q; rw [fa_lt64]; omega))).symm) (rfl)
  · refine gf_ldc (1000000000) kcX6_135 dX6_joined_232 ?_
    exact gf_iretE dX6_joined_234 rfl ((if_pos (by have q := zc229; rw [lg_cmp_le, fa_le64] at q; rw [fa_lt64]; omega) : clpV v = _).symm) (rfl)
theorem ev_gv {E : gE} {M : gM} {d pc : Nat} {lv : List (Nat × Value)} {st : List Value} {h h1 : hp_T} {v w : Option Value} (e : v = w) (k : gf E M d pc lv st h v h1) : gf E M d pc lv st h w h1 := e ▸ k
theorem e_X6_joined (E : gE) {d : Nat} (hd : 1 ≤ d) (t x y : Int32) (h : hp_T) : ev E mX6_joined d [.int t, .int x, .int y] h (some (.int (clpV (jnV t x y)))) h := by
  refine ev_of rfl (fun q => absurd q (by decide)) (Nat.le_of_ble_eq_true rfl) ?_
  refine gf_iload_n 0 dX6_joined_0 rfl rfl ?_
  by_cases zs1_7 : t = 7
  · refine gf_lookup 179 dX6_joined_1 (by decide) (off := 178) (by rw [zs1_7]; decide) rfl ?_
    refine gf_iload_n 1 dX6_joined_179 rfl rfl ?_
    refine gf_iload_n 2 dX6_joined_180 rfl rfl ?_
    refine gf_icmp_ge 189 dX6_joined_181 rfl (fun zc181 => ?_) (fun zc181 => ?_)
    · refine gf_iload_n 2 dX6_joined_189 rfl rfl ?_
      refine gf_i2l dX6_joined_190 ?_
      refine gf_lstore_n 3 dX6_joined_191 rfl (Nat.le_of_ble_eq_true rfl) ?_
      refine gf_goto 224 dX6_joined_192 rfl ?_
      exact ev_gv (congrArg (fun z => some (Value.int (clpV z))) (show _ = jnV t x y from (((if_pos zs1_7).trans (if_neg (show ¬ x < y from by have q := zc181; rw [fa_le] at q; rw [fa_lt]; omega)))).symm)) (s_X6_clip E t x y _ h)
    · refine gf_iload_n 1 dX6_joined_184 rfl rfl ?_
      refine gf_i2l dX6_joined_185 ?_
      refine gf_goto 191 dX6_joined_186 rfl ?_
      refine gf_lstore_n 3 dX6_joined_191 rfl (Nat.le_of_ble_eq_true rfl) ?_
      refine gf_goto 224 dX6_joined_192 rfl ?_
      exact ev_gv (congrArg (fun z => some (Value.int (clpV z))) (show _ = jnV t x y from (((if_pos zs1_7).trans (if_pos (show x < y from by have q := zc181; rw [fa_le] at q; rw [fa_lt]; omega)))).symm)) (s_X6_clip E t x y _ h)
  by_cases zs1_8 : t = 8
  · refine gf_lookup 195 dX6_joined_1 (by decide) (off := 194) (by rw [zs1_8]; decide) rfl ?_
    refine gf_iload_n 1 dX6_joined_195 rfl rfl ?_
    refine gf_iload_n 2 dX6_joined_196 rfl rfl ?_
    refine gf_icmp_le 205 dX6_joined_197 rfl (fun zc197 => ?_) (fun zc197 => ?_)
    · refine gf_iload_n 2 dX6_joined_205 rfl rfl ?_
      refine gf_i2l dX6_joined_206 ?_
      refine gf_lstore_n 3 dX6_joined_207 rfl (Nat.le_of_ble_eq_true rfl) ?_
      refine gf_goto 224 dX6_joined_208 rfl ?_
      exact ev_gv (congrArg (fun z => some (Value.int (clpV z))) (show _ = jnV t x y from (((if_neg zs1_7).trans ((if_pos zs1_8).trans (if_neg (show ¬ y < x from by have q := zc197; rw [fa_le] at q; rw [fa_lt]; omega))))).symm)) (s_X6_clip E t x y _ h)
    · refine gf_iload_n 1 dX6_joined_200 rfl rfl ?_
      refine gf_i2l dX6_joined_201 ?_
      refine gf_goto 207 dX6_joined_202 rfl ?_
      refine gf_lstore_n 3 dX6_joined_207 rfl (Nat.le_of_ble_eq_true rfl) ?_
      refine gf_goto 224 dX6_joined_208 rfl ?_
      exact ev_gv (congrArg (fun z => some (Value.int (clpV z))) (show _ = jnV t x y from (((if_neg zs1_7).trans ((if_pos zs1_8).trans (if_pos (show y < x from by have q := zc197; rw [fa_le] at q; rw [fa_lt]; omega))))).symm)) (s_X6_clip E t x y _ h)
  by_cases zs1_12 : t = 12
  · refine gf_lookup 211 dX6_joined_1 (by decide) (off := 210) (by rw [zs1_12]; decide) rfl ?_
    refine gf_iload_n 1 dX6_joined_211 rfl rfl ?_
    refine gf_iload_n 2 dX6_joined_212 rfl rfl ?_
    refine gf_iand dX6_joined_213 ?_
    refine gf_i2l dX6_joined_214 ?_
    refine gf_lstore_n 3 dX6_joined_215 rfl (Nat.le_of_ble_eq_true rfl) ?_
    refine gf_goto 224 dX6_joined_216 rfl ?_
    exact ev_gv (congrArg (fun z => some (Value.int (clpV z))) (show _ = jnV t x y from (((if_neg zs1_7).trans ((if_neg zs1_8).trans (if_pos zs1_12)))).symm)) (s_X6_clip E t x y _ h)
  by_cases zs1_42 : t = 42
  · refine gf_lookup 110 dX6_joined_1 (by decide) (off := 109) (by rw [zs1_42]; decide) rfl ?_
    refine gf_iload_n 1 dX6_joined_110 rfl rfl ?_
    refine gf_i2l dX6_joined_111 ?_
    refine gf_iload_n 2 dX6_joined_112 rfl rfl ?_
    refine gf_i2l dX6_joined_113 ?_
    refine gf_lmul dX6_joined_114 ?_
    refine gf_lstore_n 3 dX6_joined_115 rfl (Nat.le_of_ble_eq_true rfl) ?_
    refine gf_goto 224 dX6_joined_116 rfl ?_
    exact ev_gv (congrArg (fun z => some (Value.int (clpV z))) (show _ = jnV t x y from (((if_neg zs1_7).trans ((if_neg zs1_8).trans ((if_neg zs1_12).trans (if_pos zs1_42))))).symm)) (s_X6_clip E t x y _ h)
  by_cases zs1_43 : t = 43
  · refine gf_lookup 92 dX6_joined_1 (by decide) (off := 91) (by rw [zs1_43]; decide) rfl ?_
    refine gf_iload_n 1 dX6_joined_92 rfl rfl ?_
    refine gf_i2l dX6_joined_93 ?_
    refine gf_iload_n 2 dX6_joined_94 rfl rfl ?_
    refine gf_i2l dX6_joined_95 ?_
    refine gf_ladd dX6_joined_96 ?_
    refine gf_lstore_n 3 dX6_joined_97 rfl (Nat.le_of_ble_eq_true rfl) ?_
    refine gf_goto 224 dX6_joined_98 rfl ?_
    exact ev_gv (congrArg (fun z => some (Value.int (clpV z))) (show _ = jnV t x y from (((if_neg zs1_7).trans ((if_neg zs1_8).trans ((if_neg zs1_12).trans ((if_neg zs1_42).trans (if_pos zs1_43)))))).symm)) (s_X6_clip E t x y _ h)
  by_cases zs1_45 : t = 45
  · refine gf_lookup 101 dX6_joined_1 (by decide) (off := 100) (by rw [zs1_45]; decide) rfl ?_
    refine gf_iload_n 1 dX6_joined_101 rfl rfl ?_
    refine gf_i2l dX6_joined_102 ?_
    refine gf_iload_n 2 dX6_joined_103 rfl rfl ?_
    refine gf_i2l dX6_joined_104 ?_
    refine gf_lsub dX6_joined_105 ?_
    refine gf_lstore_n 3 dX6_joined_106 rfl (Nat.le_of_ble_eq_true rfl) ?_
    refine gf_goto 224 dX6_joined_107 rfl ?_
    exact ev_gv (congrArg (fun z => some (Value.int (clpV z))) (show _ = jnV t x y from (((if_neg zs1_7).trans ((if_neg zs1_8).trans ((if_neg zs1_12).trans ((if_neg zs1_42).trans ((if_neg zs1_43).trans (if_pos zs1_45))))))).symm)) (s_X6_clip E t x y _ h)
  by_cases zs1_47 : t = 47
  · refine gf_lookup 119 dX6_joined_1 (by decide) (off := 118) (by rw [zs1_47]; decide) rfl ?_
    refine gf_iload_n 2 dX6_joined_119 rfl rfl ?_
    refine gf_if_ne 127 dX6_joined_120 rfl (fun zc120 => ?_) (fun zc120 => ?_)
    · refine gf_iload_n 1 dX6_joined_127 rfl rfl ?_
      refine gf_iload_n 2 dX6_joined_128 rfl rfl ?_
      refine gf_callS cmJ9_floorDiv_7cf53 lkX6_130 stJ9_floorDiv_7cf53 dX6_joined_129 (d1 := d - 1) (by omega) (e_floorDiv E x y zc120 h) rfl rfl (Nat.le_of_ble_eq_true rfl) ?_
      refine gf_i2l dX6_joined_132 ?_
      refine gf_lstore_n 3 dX6_joined_133 rfl (Nat.le_of_ble_eq_true rfl) ?_
      refine gf_goto 224 dX6_joined_134 rfl ?_
      exact ev_gv (congrArg (fun z => some (Value.int (clpV z))) (show _ = jnV t x y from (((if_neg zs1_7).trans ((if_neg zs1_8).trans ((if_neg zs1_12).trans ((if_neg zs1_42).trans ((if_neg zs1_43).trans ((if_neg zs1_45).trans ((if_pos zs1_47).trans (if_neg zc120))))))))).symm)) (s_X6_clip E t x y _ h)
    · refine gf_lconst (0) dX6_joined_123 rfl ?_
      refine gf_goto 133 dX6_joined_124 rfl ?_
      refine gf_lstore_n 3 dX6_joined_133 rfl (Nat.le_of_ble_eq_true rfl) ?_
      refine gf_goto 224 dX6_joined_134 rfl ?_
      exact ev_gv (congrArg (fun z => some (Value.int (clpV z))) (show _ = jnV t x y from (((if_neg zs1_7).trans ((if_neg zs1_8).trans ((if_neg zs1_12).trans ((if_neg zs1_42).trans ((if_neg zs1_43).trans ((if_neg zs1_45).trans ((if_pos zs1_47).trans (if_pos zc120))))))))).symm)) (s_X6_clip E t x y _ h)
  by_cases zs1_60 : t = 60
  · refine gf_lookup 137 dX6_joined_1 (by decide) (off := 136) (by rw [zs1_60]; decide) rfl ?_
    refine gf_iload_n 1 dX6_joined_137 rfl rfl ?_
    refine gf_iload_n 2 dX6_joined_138 rfl rfl ?_
    refine gf_icmp_ge 146 dX6_joined_139 rfl (fun zc139 => ?_) (fun zc139 => ?_)
    · refine gf_lconst (0) dX6_joined_146 rfl ?_
      refine gf_lstore_n 3 dX6_joined_147 rfl (Nat.le_of_ble_eq_true rfl) ?_
      refine gf_goto 224 dX6_joined_148 rfl ?_
      exact ev_gv (congrArg (fun z => some (Value.int (clpV z))) (show _ = jnV t x y from (((if_neg zs1_7).trans ((if_neg zs1_8).trans ((if_neg zs1_12).trans ((if_neg zs1_42).trans ((if_neg zs1_43).trans ((if_neg zs1_45).trans ((if_neg zs1_47).trans ((if_pos zs1_60).trans (if_neg (show ¬ x < y from by have q := zc139; rw [fa_le] at q; rw [fa_lt]; omega))))))))))).symm)) (s_X6_clip E t x y _ h)
    · refine gf_lconst (1) dX6_joined_142 rfl ?_
      refine gf_goto 147 dX6_joined_143 rfl ?_
      refine gf_lstore_n 3 dX6_joined_147 rfl (Nat.le_of_ble_eq_true rfl) ?_
      refine gf_goto 224 dX6_joined_148 rfl ?_
      exact ev_gv (congrArg (fun z => some (Value.int (clpV z))) (show _ = jnV t x y from (((if_neg zs1_7).trans ((if_neg zs1_8).trans ((if_neg zs1_12).trans ((if_neg zs1_42).trans ((if_neg zs1_43).trans ((if_neg zs1_45).trans ((if_neg zs1_47).trans ((if_pos zs1_60).trans (if_pos (show x < y from by have q := zc139; rw [fa_le] at q; rw [fa_lt]; omega))))))))))).symm)) (s_X6_clip E t x y _ h)
  by_cases zs1_61 : t = 61
  · refine gf_lookup 165 dX6_joined_1 (by decide) (off := 164) (by rw [zs1_61]; decide) rfl ?_
    refine gf_iload_n 1 dX6_joined_165 rfl rfl ?_
    refine gf_iload_n 2 dX6_joined_166 rfl rfl ?_
    refine gf_icmp_ne 174 dX6_joined_167 rfl (fun zc167 => ?_) (fun zc167 => ?_)
    · refine gf_lconst (0) dX6_joined_174 rfl ?_
      refine gf_lstore_n 3 dX6_joined_175 rfl (Nat.le_of_ble_eq_true rfl) ?_
      refine gf_goto 224 dX6_joined_176 rfl ?_
      exact ev_gv (congrArg (fun z => some (Value.int (clpV z))) (show _ = jnV t x y from (((if_neg zs1_7).trans ((if_neg zs1_8).trans ((if_neg zs1_12).trans ((if_neg zs1_42).trans ((if_neg zs1_43).trans ((if_neg zs1_45).trans ((if_neg zs1_47).trans ((if_neg zs1_60).trans ((if_pos zs1_61).trans (if_neg zc167))))))))))).symm)) (s_X6_clip E t x y _ h)
    · refine gf_lconst (1) dX6_joined_170 rfl ?_
      refine gf_goto 175 dX6_joined_171 rfl ?_
      refine gf_lstore_n 3 dX6_joined_175 rfl (Nat.le_of_ble_eq_true rfl) ?_
      refine gf_goto 224 dX6_joined_176 rfl ?_
      exact ev_gv (congrArg (fun z => some (Value.int (clpV z))) (show _ = jnV t x y from (((if_neg zs1_7).trans ((if_neg zs1_8).trans ((if_neg zs1_12).trans ((if_neg zs1_42).trans ((if_neg zs1_43).trans ((if_neg zs1_45).trans ((if_neg zs1_47).trans ((if_neg zs1_60).trans ((if_pos zs1_61).trans (if_pos zc167))))))))))).symm)) (s_X6_clip E t x y _ h)
  by_cases zs1_62 : t = 62
  · refine gf_lookup 151 dX6_joined_1 (by decide) (off := 150) (by rw [zs1_62]; decide) rfl ?_
    refine gf_iload_n 1 dX6_joined_151 rfl rfl ?_
    refine gf_iload_n 2 dX6_joined_152 rfl rfl ?_
    refine gf_icmp_le 160 dX6_joined_153 rfl (fun zc153 => ?_) (fun zc153 => ?_)
    · refine gf_lconst (0) dX6_joined_160 rfl ?_
      refine gf_lstore_n 3 dX6_joined_161 rfl (Nat.le_of_ble_eq_true rfl) ?_
      refine gf_goto 224 dX6_joined_162 rfl ?_
      exact ev_gv (congrArg (fun z => some (Value.int (clpV z))) (show _ = jnV t x y from (((if_neg zs1_7).trans ((if_neg zs1_8).trans ((if_neg zs1_12).trans ((if_neg zs1_42).trans ((if_neg zs1_43).trans ((if_neg zs1_45).trans ((if_neg zs1_47).trans ((if_neg zs1_60).trans ((if_neg zs1_61).trans ((if_pos zs1_62).trans (if_neg (show ¬ y < x from by have q := zc153; rw [fa_le] at q; rw [fa_lt]; omega))))))))))))).symm)) (s_X6_clip E t x y _ h)
    · refine gf_lconst (1) dX6_joined_156 rfl ?_
      refine gf_goto 161 dX6_joined_157 rfl ?_
      refine gf_lstore_n 3 dX6_joined_161 rfl (Nat.le_of_ble_eq_true rfl) ?_
      refine gf_goto 224 dX6_joined_162 rfl ?_
      exact ev_gv (congrArg (fun z => some (Value.int (clpV z))) (show _ = jnV t x y from (((if_neg zs1_7).trans ((if_neg zs1_8).trans ((if_neg zs1_12).trans ((if_neg zs1_42).trans ((if_neg zs1_43).trans ((if_neg zs1_45).trans ((if_neg zs1_47).trans ((if_neg zs1_60).trans ((if_neg zs1_61).trans ((if_pos zs1_62).trans (if_pos (show y < x from by have q := zc153; rw [fa_le] at q; rw [fa_lt]; omega))))))))))))).symm)) (s_X6_clip E t x y _ h)
  refine gf_lookup 219 dX6_joined_1 (by decide) (off := 218) (by have y7 : ¬ (7 : Int) = (t).toInt := fun z => zs1_7 ((fa_eq _ _).mpr z.symm); have y8 : ¬ (8 : Int) = (t).toInt := fun z => zs1_8 ((fa_eq _ _).mpr z.symm); have y12 : ¬ (12 : Int) = (t).toInt := fun z => zs1_12 ((fa_eq _ _).mpr z.symm); have y42 : ¬ (42 : Int) = (t).toInt := fun z => zs1_42 ((fa_eq _ _).mpr z.symm); have y43 : ¬ (43 : Int) = (t).toInt := fun z => zs1_43 ((fa_eq _ _).mpr z.symm); have y45 : ¬ (45 : Int) = (t).toInt := fun z => zs1_45 ((fa_eq _ _).mpr z.symm); have y47 : ¬ (47 : Int) = (t).toInt := fun z => zs1_47 ((fa_eq _ _).mpr z.symm); have y60 : ¬ (60 : Int) = (t).toInt := fun z => zs1_60 ((fa_eq _ _).mpr z.symm); have y61 : ¬ (61 : Int) = (t).toInt := fun z => zs1_61 ((fa_eq _ _).mpr z.symm); have y62 : ¬ (62 : Int) = (t).toInt := fun z => zs1_62 ((fa_eq _ _).mpr z.symm); simp only [Op.lookupswitch.offset]; rw [if_neg y7, if_neg y8, if_neg y12, if_neg y42, if_neg y43, if_neg y45, if_neg y47, if_neg y60, if_neg y61, if_neg y62]) rfl ?_
  refine gf_iload_n 1 dX6_joined_219 rfl rfl ?_
  refine gf_iload_n 2 dX6_joined_220 rfl rfl ?_
  refine gf_ior dX6_joined_221 ?_
  refine gf_i2l dX6_joined_222 ?_
  refine gf_lstore_n 3 dX6_joined_223 rfl (Nat.le_of_ble_eq_true rfl) ?_
  exact ev_gv (congrArg (fun z => some (Value.int (clpV z))) (show _ = jnV t x y from (((if_neg zs1_7).trans ((if_neg zs1_8).trans ((if_neg zs1_12).trans ((if_neg zs1_42).trans ((if_neg zs1_43).trans ((if_neg zs1_45).trans ((if_neg zs1_47).trans ((if_neg zs1_60).trans ((if_neg zs1_61).trans (if_neg zs1_62))))))))))).symm)) (s_X6_clip E t x y _ h)
theorem e_X6_isJoin (E : gE) {d : Nat} (hd : 0 ≤ d) (t : Int32) (h : hp_T) : ev E mX6_isJoin d [.int t] h (some (.int (zb (40 ≤ t ∨ t = 7 ∨ t = 8 ∨ t = 12 ∨ t = 13)))) h := by
  refine ev_of rfl (fun q => absurd q (by decide)) (Nat.le_of_ble_eq_true rfl) ?_
  refine gf_iload_n 0 dX6_isJoin_0 rfl rfl ?_
  refine gf_bipush (40) dX6_isJoin_1 rfl ?_
  refine gf_icmp_ge 30 dX6_isJoin_3 rfl (fun zc3 => ?_) (fun zc3 => ?_)
  · refine gf_iconst (1) dX6_isJoin_30 rfl ?_
    refine gf_goto 35 dX6_isJoin_31 rfl ?_
    exact gf_zretE dX6_isJoin_35 rfl (rfl) ((zb_t (Or.inl zc3)).symm) (rfl)
  · refine gf_iload_n 0 dX6_isJoin_6 rfl rfl ?_
    refine gf_bipush (7) dX6_isJoin_7 rfl ?_
    refine gf_icmp_eq 30 dX6_isJoin_9 rfl (fun zc9 => ?_) (fun zc9 => ?_)
    · refine gf_iconst (1) dX6_isJoin_30 rfl ?_
      refine gf_goto 35 dX6_isJoin_31 rfl ?_
      exact gf_zretE dX6_isJoin_35 rfl (rfl) ((zb_t (Or.inr (Or.inl zc9))).symm) (rfl)
    · refine gf_iload_n 0 dX6_isJoin_12 rfl rfl ?_
      refine gf_bipush (8) dX6_isJoin_13 rfl ?_
      refine gf_icmp_eq 30 dX6_isJoin_15 rfl (fun zc15 => ?_) (fun zc15 => ?_)
      · refine gf_iconst (1) dX6_isJoin_30 rfl ?_
        refine gf_goto 35 dX6_isJoin_31 rfl ?_
        exact gf_zretE dX6_isJoin_35 rfl (rfl) ((zb_t (Or.inr (Or.inr (Or.inl zc15)))).symm) (rfl)
      · refine gf_iload_n 0 dX6_isJoin_18 rfl rfl ?_
        refine gf_bipush (12) dX6_isJoin_19 rfl ?_
        refine gf_icmp_eq 30 dX6_isJoin_21 rfl (fun zc21 => ?_) (fun zc21 => ?_)
        · refine gf_iconst (1) dX6_isJoin_30 rfl ?_
          refine gf_goto 35 dX6_isJoin_31 rfl ?_
          exact gf_zretE dX6_isJoin_35 rfl (rfl) ((zb_t (Or.inr (Or.inr (Or.inr (Or.inl zc21))))).symm) (rfl)
        · refine gf_iload_n 0 dX6_isJoin_24 rfl rfl ?_
          refine gf_bipush (13) dX6_isJoin_25 rfl ?_
          refine gf_icmp_ne 34 dX6_isJoin_27 rfl (fun zc27 => ?_) (fun zc27 => ?_)
          · refine gf_iconst (0) dX6_isJoin_34 rfl ?_
            exact gf_zretE dX6_isJoin_35 rfl (rfl) ((zb_f (fun q => by rcases q with q | q | q | q | q; exact zc3 q; exact zc9 q; exact zc15 q; exact zc21 q; exact zc27 q)).symm) (rfl)
          · refine gf_iconst (1) dX6_isJoin_30 rfl ?_
            refine gf_goto 35 dX6_isJoin_31 rfl ?_
            exact gf_zretE dX6_isJoin_35 rfl (rfl) ((zb_t (Or.inr (Or.inr (Or.inr (Or.inr zc27))))).symm) (rfl)
/-- one value: a fact, whether an office is here, all, a number -/
def sngV (F : Nat → Int32) (off : Int32) (t m : Int32) : Int32 := if t ≤ 6 then F t.toNatClampNeg else if t = 10 then off >>> (m &&& 31) &&& 1 else if t = 9 then 1 else m
theorem e_X6_single (E : gE) {d : Nat} (hd : 0 ≤ d) (t m : Int32) (h : hp_T) (hG : gr h) (ht : 0 ≤ t) : ev E mX6_single d [.ref (E.1 + 171), .int t, .int m] h (some (.int (sngV (hp_i h 172) (hp_i h 171 4) t m))) h := by
  refine ev_of rfl (fun q => absurd q (by decide)) (Nat.le_of_ble_eq_true rfl) ?_
  refine gf_iload_n 1 dX6_single_0 rfl rfl ?_
  refine gf_bipush (6) dX6_single_1 rfl ?_
  refine gf_icmp_gt 13 dX6_single_3 rfl (fun zc3 => ?_) (fun zc3 => ?_)
  · refine gf_iload_n 1 dX6_single_13 rfl rfl ?_
    refine gf_bipush (10) dX6_single_14 rfl ?_
    refine gf_icmp_ne 28 dX6_single_16 rfl (fun zc16 => ?_) (fun zc16 => ?_)
    · refine gf_iload_n 1 dX6_single_28 rfl rfl ?_
      refine gf_bipush (9) dX6_single_29 rfl ?_
      refine gf_icmp_ne 38 dX6_single_31 rfl (fun zc31 => ?_) (fun zc31 => ?_)
      · refine gf_iload_n 2 dX6_single_38 rfl rfl ?_
        exact gf_iretE dX6_single_39 rfl (((if_neg (by have q := zc3; rw [fa_lt] at q; rw [fa_le]; omega) : sngV (hp_i h 172) (hp_i h 171 4) t m = _).trans ((if_neg zc16).trans (if_neg zc31))).symm) (rfl)
      · refine gf_iconst (1) dX6_single_34 rfl ?_
        refine gf_goto 39 dX6_single_35 rfl ?_
        exact gf_iretE dX6_single_39 rfl (((if_neg (by have q := zc3; rw [fa_lt] at q; rw [fa_le]; omega) : sngV (hp_i h 172) (hp_i h 171 4) t m = _).trans ((if_neg zc16).trans (if_pos zc31))).symm) (rfl)
    · refine gf_aload_n 0 dX6_single_19 rfl rfl ?_
      refine gf_getI flX6_46 rfl dX6_single_20 (gt_171 hG) ?_
      refine gf_iload_n 2 dX6_single_23 rfl rfl ?_
      refine gf_ishr dX6_single_24 ?_
      refine gf_iconst (1) dX6_single_25 rfl ?_
      refine gf_iand dX6_single_26 ?_
      exact gf_iretE dX6_single_27 rfl (((if_neg (by have q := zc3; rw [fa_lt] at q; rw [fa_le]; omega) : sngV (hp_i h 172) (hp_i h 171 4) t m = _).trans (if_pos zc16)).symm) (rfl)
  · refine gf_aload_n 0 dX6_single_6 rfl rfl ?_
    refine gf_getR flX6_9 rfl dX6_single_7 (gt_171 hG) (gp_171_2 hG) ?_
    refine gf_iload_n 1 dX6_single_10 rfl rfl ?_
    refine gf_iald 7 dX6_single_11 (gt_172 hG) (gl_172 hG) (ix_nI (by rw [fa_le, ti_0] at ht; exact ht)) (ix_lt (by rw [fa_le, ti_0] at ht; exact ht) (by have q := zc3; have e6 : (6 : Int32).toInt = 6 := (by decide); rw [fa_lt] at q; omega)) (by decide) ?_
    exact gf_iretE dX6_single_12 rfl ((if_pos (by have q := zc3; rw [fa_lt] at q; rw [fa_le]; omega) : sngV _ _ _ _ = _).symm) (rfl)
