/-! ===== the reference: its cells as one state; acts, neighbours ===== -/
abbrev mM : Type := Nat → Nat → Int32
abbrev mN : Type := Nat → Nat → Int64
/-- the heap with the model's cells: ints M, longs N, by offset from 247 -/
def hm (h : hp_T) (M : mM) (N : mN) : hp_T := hb (hbl h 247 86 N) 247 86 M
theorem hm_id (h : hp_T) : hm h (fun o => hp_i h (247 + o)) (fun o => hp_l h (247 + o)) = h := by
  unfold hm
  rw [hbl_id]
  exact hb_id h 247 86
theorem mI_0 (h : hp_T) (M : mM) (N : mN) (k : Nat) (v : Int32) : hp_setI (hm h M N) 247 k v = hm h (up2 M 0 k v) N := hb_set (hbl h 247 86 N) (b := 247) (n := 86) (o := 0) M (by decide) k v
theorem mI_1 (h : hp_T) (M : mM) (N : mN) (k : Nat) (v : Int32) : hp_setI (hm h M N) 248 k v = hm h (up2 M 1 k v) N := hb_set (hbl h 247 86 N) (b := 247) (n := 86) (o := 1) M (by decide) k v
theorem mI_2 (h : hp_T) (M : mM) (N : mN) (k : Nat) (v : Int32) : hp_setI (hm h M N) 249 k v = hm h (up2 M 2 k v) N := hb_set (hbl h 247 86 N) (b := 247) (n := 86) (o := 2) M (by decide) k v
theorem mI_3 (h : hp_T) (M : mM) (N : mN) (k : Nat) (v : Int32) : hp_setI (hm h M N) 250 k v = hm h (up2 M 3 k v) N := hb_set (hbl h 247 86 N) (b := 247) (n := 86) (o := 3) M (by decide) k v
theorem mI_4 (h : hp_T) (M : mM) (N : mN) (k : Nat) (v : Int32) : hp_setI (hm h M N) 251 k v = hm h (up2 M 4 k v) N := hb_set (hbl h 247 86 N) (b := 247) (n := 86) (o := 4) M (by decide) k v
theorem mI_5 (h : hp_T) (M : mM) (N : mN) (k : Nat) (v : Int32) : hp_setI (hm h M N) 252 k v = hm h (up2 M 5 k v) N := hb_set (hbl h 247 86 N) (b := 247) (n := 86) (o := 5) M (by decide) k v
theorem mI_6 (h : hp_T) (M : mM) (N : mN) (k : Nat) (v : Int32) : hp_setI (hm h M N) 253 k v = hm h (up2 M 6 k v) N := hb_set (hbl h 247 86 N) (b := 247) (n := 86) (o := 6) M (by decide) k v
theorem mI_7 (h : hp_T) (M : mM) (N : mN) (k : Nat) (v : Int32) : hp_setI (hm h M N) 254 k v = hm h (up2 M 7 k v) N := hb_set (hbl h 247 86 N) (b := 247) (n := 86) (o := 7) M (by decide) k v
theorem mI_8 (h : hp_T) (M : mM) (N : mN) (k : Nat) (v : Int32) : hp_setI (hm h M N) 255 k v = hm h (up2 M 8 k v) N := hb_set (hbl h 247 86 N) (b := 247) (n := 86) (o := 8) M (by decide) k v
theorem mI_9 (h : hp_T) (M : mM) (N : mN) (k : Nat) (v : Int32) : hp_setI (hm h M N) 256 k v = hm h (up2 M 9 k v) N := hb_set (hbl h 247 86 N) (b := 247) (n := 86) (o := 9) M (by decide) k v
theorem mI_10 (h : hp_T) (M : mM) (N : mN) (k : Nat) (v : Int32) : hp_setI (hm h M N) 257 k v = hm h (up2 M 10 k v) N := hb_set (hbl h 247 86 N) (b := 247) (n := 86) (o := 10) M (by decide) k v
theorem mI_11 (h : hp_T) (M : mM) (N : mN) (k : Nat) (v : Int32) : hp_setI (hm h M N) 258 k v = hm h (up2 M 11 k v) N := hb_set (hbl h 247 86 N) (b := 247) (n := 86) (o := 11) M (by decide) k v
theorem mI_12 (h : hp_T) (M : mM) (N : mN) (k : Nat) (v : Int32) : hp_setI (hm h M N) 259 k v = hm h (up2 M 12 k v) N := hb_set (hbl h 247 86 N) (b := 247) (n := 86) (o := 12) M (by decide) k v
theorem mI_13 (h : hp_T) (M : mM) (N : mN) (k : Nat) (v : Int32) : hp_setI (hm h M N) 260 k v = hm h (up2 M 13 k v) N := hb_set (hbl h 247 86 N) (b := 247) (n := 86) (o := 13) M (by decide) k v
theorem mI_14 (h : hp_T) (M : mM) (N : mN) (k : Nat) (v : Int32) : hp_setI (hm h M N) 261 k v = hm h (up2 M 14 k v) N := hb_set (hbl h 247 86 N) (b := 247) (n := 86) (o := 14) M (by decide) k v
theorem mI_15 (h : hp_T) (M : mM) (N : mN) (k : Nat) (v : Int32) : hp_setI (hm h M N) 262 k v = hm h (up2 M 15 k v) N := hb_set (hbl h 247 86 N) (b := 247) (n := 86) (o := 15) M (by decide) k v
theorem mI_16 (h : hp_T) (M : mM) (N : mN) (k : Nat) (v : Int32) : hp_setI (hm h M N) 263 k v = hm h (up2 M 16 k v) N := hb_set (hbl h 247 86 N) (b := 247) (n := 86) (o := 16) M (by decide) k v
theorem mI_17 (h : hp_T) (M : mM) (N : mN) (k : Nat) (v : Int32) : hp_setI (hm h M N) 264 k v = hm h (up2 M 17 k v) N := hb_set (hbl h 247 86 N) (b := 247) (n := 86) (o := 17) M (by decide) k v
theorem mI_18 (h : hp_T) (M : mM) (N : mN) (k : Nat) (v : Int32) : hp_setI (hm h M N) 265 k v = hm h (up2 M 18 k v) N := hb_set (hbl h 247 86 N) (b := 247) (n := 86) (o := 18) M (by decide) k v
theorem mI_19 (h : hp_T) (M : mM) (N : mN) (k : Nat) (v : Int32) : hp_setI (hm h M N) 266 k v = hm h (up2 M 19 k v) N := hb_set (hbl h 247 86 N) (b := 247) (n := 86) (o := 19) M (by decide) k v
theorem mI_20 (h : hp_T) (M : mM) (N : mN) (k : Nat) (v : Int32) : hp_setI (hm h M N) 267 k v = hm h (up2 M 20 k v) N := hb_set (hbl h 247 86 N) (b := 247) (n := 86) (o := 20) M (by decide) k v
theorem mI_21 (h : hp_T) (M : mM) (N : mN) (k : Nat) (v : Int32) : hp_setI (hm h M N) 268 k v = hm h (up2 M 21 k v) N := hb_set (hbl h 247 86 N) (b := 247) (n := 86) (o := 21) M (by decide) k v
theorem mI_22 (h : hp_T) (M : mM) (N : mN) (k : Nat) (v : Int32) : hp_setI (hm h M N) 269 k v = hm h (up2 M 22 k v) N := hb_set (hbl h 247 86 N) (b := 247) (n := 86) (o := 22) M (by decide) k v
theorem mI_23 (h : hp_T) (M : mM) (N : mN) (k : Nat) (v : Int32) : hp_setI (hm h M N) 270 k v = hm h (up2 M 23 k v) N := hb_set (hbl h 247 86 N) (b := 247) (n := 86) (o := 23) M (by decide) k v
theorem mI_24 (h : hp_T) (M : mM) (N : mN) (k : Nat) (v : Int32) : hp_setI (hm h M N) 271 k v = hm h (up2 M 24 k v) N := hb_set (hbl h 247 86 N) (b := 247) (n := 86) (o := 24) M (by decide) k v
theorem mI_25 (h : hp_T) (M : mM) (N : mN) (k : Nat) (v : Int32) : hp_setI (hm h M N) 272 k v = hm h (up2 M 25 k v) N := hb_set (hbl h 247 86 N) (b := 247) (n := 86) (o := 25) M (by decide) k v
theorem mI_26 (h : hp_T) (M : mM) (N : mN) (k : Nat) (v : Int32) : hp_setI (hm h M N) 273 k v = hm h (up2 M 26 k v) N := hb_set (hbl h 247 86 N) (b := 247) (n := 86) (o := 26) M (by decide) k v
theorem mI_27 (h : hp_T) (M : mM) (N : mN) (k : Nat) (v : Int32) : hp_setI (hm h M N) 274 k v = hm h (up2 M 27 k v) N := hb_set (hbl h 247 86 N) (b := 247) (n := 86) (o := 27) M (by decide) k v
theorem mI_28 (h : hp_T) (M : mM) (N : mN) (k : Nat) (v : Int32) : hp_setI (hm h M N) 275 k v = hm h (up2 M 28 k v) N := hb_set (hbl h 247 86 N) (b := 247) (n := 86) (o := 28) M (by decide) k v
theorem mI_29 (h : hp_T) (M : mM) (N : mN) (k : Nat) (v : Int32) : hp_setI (hm h M N) 276 k v = hm h (up2 M 29 k v) N := hb_set (hbl h 247 86 N) (b := 247) (n := 86) (o := 29) M (by decide) k v
theorem mI_30 (h : hp_T) (M : mM) (N : mN) (k : Nat) (v : Int32) : hp_setI (hm h M N) 277 k v = hm h (up2 M 30 k v) N := hb_set (hbl h 247 86 N) (b := 247) (n := 86) (o := 30) M (by decide) k v
theorem mI_31 (h : hp_T) (M : mM) (N : mN) (k : Nat) (v : Int32) : hp_setI (hm h M N) 278 k v = hm h (up2 M 31 k v) N := hb_set (hbl h 247 86 N) (b := 247) (n := 86) (o := 31) M (by decide) k v
theorem mI_32 (h : hp_T) (M : mM) (N : mN) (k : Nat) (v : Int32) : hp_setI (hm h M N) 279 k v = hm h (up2 M 32 k v) N := hb_set (hbl h 247 86 N) (b := 247) (n := 86) (o := 32) M (by decide) k v
theorem mI_33 (h : hp_T) (M : mM) (N : mN) (k : Nat) (v : Int32) : hp_setI (hm h M N) 280 k v = hm h (up2 M 33 k v) N := hb_set (hbl h 247 86 N) (b := 247) (n := 86) (o := 33) M (by decide) k v
theorem mI_34 (h : hp_T) (M : mM) (N : mN) (k : Nat) (v : Int32) : hp_setI (hm h M N) 281 k v = hm h (up2 M 34 k v) N := hb_set (hbl h 247 86 N) (b := 247) (n := 86) (o := 34) M (by decide) k v
theorem mI_35 (h : hp_T) (M : mM) (N : mN) (k : Nat) (v : Int32) : hp_setI (hm h M N) 282 k v = hm h (up2 M 35 k v) N := hb_set (hbl h 247 86 N) (b := 247) (n := 86) (o := 35) M (by decide) k v
theorem mI_36 (h : hp_T) (M : mM) (N : mN) (k : Nat) (v : Int32) : hp_setI (hm h M N) 283 k v = hm h (up2 M 36 k v) N := hb_set (hbl h 247 86 N) (b := 247) (n := 86) (o := 36) M (by decide) k v
theorem mI_37 (h : hp_T) (M : mM) (N : mN) (k : Nat) (v : Int32) : hp_setI (hm h M N) 284 k v = hm h (up2 M 37 k v) N := hb_set (hbl h 247 86 N) (b := 247) (n := 86) (o := 37) M (by decide) k v
theorem mI_38 (h : hp_T) (M : mM) (N : mN) (k : Nat) (v : Int32) : hp_setI (hm h M N) 285 k v = hm h (up2 M 38 k v) N := hb_set (hbl h 247 86 N) (b := 247) (n := 86) (o := 38) M (by decide) k v
theorem mI_39 (h : hp_T) (M : mM) (N : mN) (k : Nat) (v : Int32) : hp_setI (hm h M N) 286 k v = hm h (up2 M 39 k v) N := hb_set (hbl h 247 86 N) (b := 247) (n := 86) (o := 39) M (by decide) k v
theorem mI_40 (h : hp_T) (M : mM) (N : mN) (k : Nat) (v : Int32) : hp_setI (hm h M N) 287 k v = hm h (up2 M 40 k v) N := hb_set (hbl h 247 86 N) (b := 247) (n := 86) (o := 40) M (by decide) k v
theorem mI_41 (h : hp_T) (M : mM) (N : mN) (k : Nat) (v : Int32) : hp_setI (hm h M N) 288 k v = hm h (up2 M 41 k v) N := hb_set (hbl h 247 86 N) (b := 247) (n := 86) (o := 41) M (by decide) k v
theorem mI_42 (h : hp_T) (M : mM) (N : mN) (k : Nat) (v : Int32) : hp_setI (hm h M N) 289 k v = hm h (up2 M 42 k v) N := hb_set (hbl h 247 86 N) (b := 247) (n := 86) (o := 42) M (by decide) k v
theorem mI_43 (h : hp_T) (M : mM) (N : mN) (k : Nat) (v : Int32) : hp_setI (hm h M N) 290 k v = hm h (up2 M 43 k v) N := hb_set (hbl h 247 86 N) (b := 247) (n := 86) (o := 43) M (by decide) k v
theorem mI_44 (h : hp_T) (M : mM) (N : mN) (k : Nat) (v : Int32) : hp_setI (hm h M N) 291 k v = hm h (up2 M 44 k v) N := hb_set (hbl h 247 86 N) (b := 247) (n := 86) (o := 44) M (by decide) k v
theorem mI_45 (h : hp_T) (M : mM) (N : mN) (k : Nat) (v : Int32) : hp_setI (hm h M N) 292 k v = hm h (up2 M 45 k v) N := hb_set (hbl h 247 86 N) (b := 247) (n := 86) (o := 45) M (by decide) k v
theorem mI_46 (h : hp_T) (M : mM) (N : mN) (k : Nat) (v : Int32) : hp_setI (hm h M N) 293 k v = hm h (up2 M 46 k v) N := hb_set (hbl h 247 86 N) (b := 247) (n := 86) (o := 46) M (by decide) k v
theorem mI_47 (h : hp_T) (M : mM) (N : mN) (k : Nat) (v : Int32) : hp_setI (hm h M N) 294 k v = hm h (up2 M 47 k v) N := hb_set (hbl h 247 86 N) (b := 247) (n := 86) (o := 47) M (by decide) k v
theorem mI_48 (h : hp_T) (M : mM) (N : mN) (k : Nat) (v : Int32) : hp_setI (hm h M N) 295 k v = hm h (up2 M 48 k v) N := hb_set (hbl h 247 86 N) (b := 247) (n := 86) (o := 48) M (by decide) k v
theorem mI_49 (h : hp_T) (M : mM) (N : mN) (k : Nat) (v : Int32) : hp_setI (hm h M N) 296 k v = hm h (up2 M 49 k v) N := hb_set (hbl h 247 86 N) (b := 247) (n := 86) (o := 49) M (by decide) k v
theorem mI_50 (h : hp_T) (M : mM) (N : mN) (k : Nat) (v : Int32) : hp_setI (hm h M N) 297 k v = hm h (up2 M 50 k v) N := hb_set (hbl h 247 86 N) (b := 247) (n := 86) (o := 50) M (by decide) k v
theorem mI_51 (h : hp_T) (M : mM) (N : mN) (k : Nat) (v : Int32) : hp_setI (hm h M N) 298 k v = hm h (up2 M 51 k v) N := hb_set (hbl h 247 86 N) (b := 247) (n := 86) (o := 51) M (by decide) k v
theorem mI_52 (h : hp_T) (M : mM) (N : mN) (k : Nat) (v : Int32) : hp_setI (hm h M N) 299 k v = hm h (up2 M 52 k v) N := hb_set (hbl h 247 86 N) (b := 247) (n := 86) (o := 52) M (by decide) k v
theorem mI_53 (h : hp_T) (M : mM) (N : mN) (k : Nat) (v : Int32) : hp_setI (hm h M N) 300 k v = hm h (up2 M 53 k v) N := hb_set (hbl h 247 86 N) (b := 247) (n := 86) (o := 53) M (by decide) k v
theorem mI_54 (h : hp_T) (M : mM) (N : mN) (k : Nat) (v : Int32) : hp_setI (hm h M N) 301 k v = hm h (up2 M 54 k v) N := hb_set (hbl h 247 86 N) (b := 247) (n := 86) (o := 54) M (by decide) k v
theorem mI_55 (h : hp_T) (M : mM) (N : mN) (k : Nat) (v : Int32) : hp_setI (hm h M N) 302 k v = hm h (up2 M 55 k v) N := hb_set (hbl h 247 86 N) (b := 247) (n := 86) (o := 55) M (by decide) k v
theorem mI_56 (h : hp_T) (M : mM) (N : mN) (k : Nat) (v : Int32) : hp_setI (hm h M N) 303 k v = hm h (up2 M 56 k v) N := hb_set (hbl h 247 86 N) (b := 247) (n := 86) (o := 56) M (by decide) k v
theorem mI_57 (h : hp_T) (M : mM) (N : mN) (k : Nat) (v : Int32) : hp_setI (hm h M N) 304 k v = hm h (up2 M 57 k v) N := hb_set (hbl h 247 86 N) (b := 247) (n := 86) (o := 57) M (by decide) k v
theorem mI_58 (h : hp_T) (M : mM) (N : mN) (k : Nat) (v : Int32) : hp_setI (hm h M N) 305 k v = hm h (up2 M 58 k v) N := hb_set (hbl h 247 86 N) (b := 247) (n := 86) (o := 58) M (by decide) k v
theorem mI_59 (h : hp_T) (M : mM) (N : mN) (k : Nat) (v : Int32) : hp_setI (hm h M N) 306 k v = hm h (up2 M 59 k v) N := hb_set (hbl h 247 86 N) (b := 247) (n := 86) (o := 59) M (by decide) k v
theorem mI_60 (h : hp_T) (M : mM) (N : mN) (k : Nat) (v : Int32) : hp_setI (hm h M N) 307 k v = hm h (up2 M 60 k v) N := hb_set (hbl h 247 86 N) (b := 247) (n := 86) (o := 60) M (by decide) k v
theorem mI_61 (h : hp_T) (M : mM) (N : mN) (k : Nat) (v : Int32) : hp_setI (hm h M N) 308 k v = hm h (up2 M 61 k v) N := hb_set (hbl h 247 86 N) (b := 247) (n := 86) (o := 61) M (by decide) k v
theorem mI_62 (h : hp_T) (M : mM) (N : mN) (k : Nat) (v : Int32) : hp_setI (hm h M N) 309 k v = hm h (up2 M 62 k v) N := hb_set (hbl h 247 86 N) (b := 247) (n := 86) (o := 62) M (by decide) k v
theorem mI_63 (h : hp_T) (M : mM) (N : mN) (k : Nat) (v : Int32) : hp_setI (hm h M N) 310 k v = hm h (up2 M 63 k v) N := hb_set (hbl h 247 86 N) (b := 247) (n := 86) (o := 63) M (by decide) k v
theorem mI_64 (h : hp_T) (M : mM) (N : mN) (k : Nat) (v : Int32) : hp_setI (hm h M N) 311 k v = hm h (up2 M 64 k v) N := hb_set (hbl h 247 86 N) (b := 247) (n := 86) (o := 64) M (by decide) k v
theorem mI_65 (h : hp_T) (M : mM) (N : mN) (k : Nat) (v : Int32) : hp_setI (hm h M N) 312 k v = hm h (up2 M 65 k v) N := hb_set (hbl h 247 86 N) (b := 247) (n := 86) (o := 65) M (by decide) k v
theorem mI_66 (h : hp_T) (M : mM) (N : mN) (k : Nat) (v : Int32) : hp_setI (hm h M N) 313 k v = hm h (up2 M 66 k v) N := hb_set (hbl h 247 86 N) (b := 247) (n := 86) (o := 66) M (by decide) k v
theorem mI_67 (h : hp_T) (M : mM) (N : mN) (k : Nat) (v : Int32) : hp_setI (hm h M N) 314 k v = hm h (up2 M 67 k v) N := hb_set (hbl h 247 86 N) (b := 247) (n := 86) (o := 67) M (by decide) k v
theorem mI_68 (h : hp_T) (M : mM) (N : mN) (k : Nat) (v : Int32) : hp_setI (hm h M N) 315 k v = hm h (up2 M 68 k v) N := hb_set (hbl h 247 86 N) (b := 247) (n := 86) (o := 68) M (by decide) k v
theorem mI_69 (h : hp_T) (M : mM) (N : mN) (k : Nat) (v : Int32) : hp_setI (hm h M N) 316 k v = hm h (up2 M 69 k v) N := hb_set (hbl h 247 86 N) (b := 247) (n := 86) (o := 69) M (by decide) k v
theorem mI_70 (h : hp_T) (M : mM) (N : mN) (k : Nat) (v : Int32) : hp_setI (hm h M N) 317 k v = hm h (up2 M 70 k v) N := hb_set (hbl h 247 86 N) (b := 247) (n := 86) (o := 70) M (by decide) k v
theorem mI_71 (h : hp_T) (M : mM) (N : mN) (k : Nat) (v : Int32) : hp_setI (hm h M N) 318 k v = hm h (up2 M 71 k v) N := hb_set (hbl h 247 86 N) (b := 247) (n := 86) (o := 71) M (by decide) k v
theorem mI_72 (h : hp_T) (M : mM) (N : mN) (k : Nat) (v : Int32) : hp_setI (hm h M N) 319 k v = hm h (up2 M 72 k v) N := hb_set (hbl h 247 86 N) (b := 247) (n := 86) (o := 72) M (by decide) k v
theorem mI_73 (h : hp_T) (M : mM) (N : mN) (k : Nat) (v : Int32) : hp_setI (hm h M N) 320 k v = hm h (up2 M 73 k v) N := hb_set (hbl h 247 86 N) (b := 247) (n := 86) (o := 73) M (by decide) k v
theorem mI_74 (h : hp_T) (M : mM) (N : mN) (k : Nat) (v : Int32) : hp_setI (hm h M N) 321 k v = hm h (up2 M 74 k v) N := hb_set (hbl h 247 86 N) (b := 247) (n := 86) (o := 74) M (by decide) k v
theorem mI_75 (h : hp_T) (M : mM) (N : mN) (k : Nat) (v : Int32) : hp_setI (hm h M N) 322 k v = hm h (up2 M 75 k v) N := hb_set (hbl h 247 86 N) (b := 247) (n := 86) (o := 75) M (by decide) k v
theorem mI_76 (h : hp_T) (M : mM) (N : mN) (k : Nat) (v : Int32) : hp_setI (hm h M N) 323 k v = hm h (up2 M 76 k v) N := hb_set (hbl h 247 86 N) (b := 247) (n := 86) (o := 76) M (by decide) k v
theorem mI_77 (h : hp_T) (M : mM) (N : mN) (k : Nat) (v : Int32) : hp_setI (hm h M N) 324 k v = hm h (up2 M 77 k v) N := hb_set (hbl h 247 86 N) (b := 247) (n := 86) (o := 77) M (by decide) k v
theorem mI_78 (h : hp_T) (M : mM) (N : mN) (k : Nat) (v : Int32) : hp_setI (hm h M N) 325 k v = hm h (up2 M 78 k v) N := hb_set (hbl h 247 86 N) (b := 247) (n := 86) (o := 78) M (by decide) k v
theorem mI_79 (h : hp_T) (M : mM) (N : mN) (k : Nat) (v : Int32) : hp_setI (hm h M N) 326 k v = hm h (up2 M 79 k v) N := hb_set (hbl h 247 86 N) (b := 247) (n := 86) (o := 79) M (by decide) k v
theorem mI_80 (h : hp_T) (M : mM) (N : mN) (k : Nat) (v : Int32) : hp_setI (hm h M N) 327 k v = hm h (up2 M 80 k v) N := hb_set (hbl h 247 86 N) (b := 247) (n := 86) (o := 80) M (by decide) k v
theorem mI_81 (h : hp_T) (M : mM) (N : mN) (k : Nat) (v : Int32) : hp_setI (hm h M N) 328 k v = hm h (up2 M 81 k v) N := hb_set (hbl h 247 86 N) (b := 247) (n := 86) (o := 81) M (by decide) k v
theorem mI_82 (h : hp_T) (M : mM) (N : mN) (k : Nat) (v : Int32) : hp_setI (hm h M N) 329 k v = hm h (up2 M 82 k v) N := hb_set (hbl h 247 86 N) (b := 247) (n := 86) (o := 82) M (by decide) k v
theorem mI_83 (h : hp_T) (M : mM) (N : mN) (k : Nat) (v : Int32) : hp_setI (hm h M N) 330 k v = hm h (up2 M 83 k v) N := hb_set (hbl h 247 86 N) (b := 247) (n := 86) (o := 83) M (by decide) k v
theorem mI_84 (h : hp_T) (M : mM) (N : mN) (k : Nat) (v : Int32) : hp_setI (hm h M N) 331 k v = hm h (up2 M 84 k v) N := hb_set (hbl h 247 86 N) (b := 247) (n := 86) (o := 84) M (by decide) k v
theorem mI_85 (h : hp_T) (M : mM) (N : mN) (k : Nat) (v : Int32) : hp_setI (hm h M N) 332 k v = hm h (up2 M 85 k v) N := hb_set (hbl h 247 86 N) (b := 247) (n := 86) (o := 85) M (by decide) k v
theorem mL_52 (h : hp_T) (M : mM) (N : mN) (k : Nat) (v : Int64) : hp_setL (hm h M N) 299 k v = hm h M (up2 N 52 k v) := congrArg (fun z => hb z 247 86 M) (hbl_set h (b := 247) (n := 86) (o := 52) N (by decide) k v)
theorem mL_67 (h : hp_T) (M : mM) (N : mN) (k : Nat) (v : Int64) : hp_setL (hm h M N) 314 k v = hm h M (up2 N 67 k v) := congrArg (fun z => hb z 247 86 M) (hbl_set h (b := 247) (n := 86) (o := 67) N (by decide) k v)
theorem mL_82 (h : hp_T) (M : mM) (N : mN) (k : Nat) (v : Int64) : hp_setL (hm h M N) 329 k v = hm h M (up2 N 82 k v) := congrArg (fun z => hb z 247 86 M) (hbl_set h (b := 247) (n := 86) (o := 82) N (by decide) k v)
theorem mL_83 (h : hp_T) (M : mM) (N : mN) (k : Nat) (v : Int64) : hp_setL (hm h M N) 330 k v = hm h M (up2 N 83 k v) := congrArg (fun z => hb z 247 86 M) (hbl_set h (b := 247) (n := 86) (o := 83) N (by decide) k v)
theorem mL_84 (h : hp_T) (M : mM) (N : mN) (k : Nat) (v : Int64) : hp_setL (hm h M N) 331 k v = hm h M (up2 N 84 k v) := congrArg (fun z => hb z 247 86 M) (hbl_set h (b := 247) (n := 86) (o := 84) N (by decide) k v)
/-- n acts, seen at s -/
def macI (M : mM) (n s : Nat) : Prop := M 0 62 = nI n ∧ n ≤ 200 ∧ (if M 0 68 = -1 then M 0 62 else M 0 68) = nI s ∧ s ≤ n
abbrev knP (M : mM) (s a : Nat) : Prop := a ≤ s ∧ (M 51 a = 0 ∨ nI s < M 51 a)
abbrev poP (M : mM) (s a : Nat) : Prop := M 47 a = 2 ∧ knP M s a
def bz (b : Bool) : Int32 := bI b
theorem e_X12_isKnown (E : gE) {d : Nat} (hd : 1 ≤ d) {a : Nat} {n s : Nat} (h : hp_T) (hG : gr h) (M : mM) (N : mN) (A : macI M n s) (ha : a ≤ 200) : ev E mX12_isKnown d [.ref (E.1 + 247), .int (nI a)] (hm h M N) (some (.int (bI (decide (knP M s a))))) (hm h M N) := by
  have hA1 := A.2.1
  have hA2 := A.2.2.2
  refine ev_of rfl (fun q => absurd q (by decide)) (Nat.le_of_ble_eq_true rfl) ?_
  refine gf_iload_n 1 dX12_isKnown_0 rfl rfl ?_
  refine gf_aload_n 0 dX12_isKnown_1 rfl rfl ?_
  refine gf_callV cmX12_now lkX12_489 imX12_now seX12_now ⟨rfl, by decide⟩ dX12_isKnown_2 (d1 := d - 1) (by omega) (gt_247 hG) (e_X12_now E (by omega) (hm h M N) hG) rfl rfl (Nat.le_of_ble_eq_true rfl) ?_
  rw [show (if hp_i (hm h M N) 247 68 = -1 then hp_i (hm h M N) 247 62 else hp_i (hm h M N) 247 68) = nI s from A.2.2.1]
  refine gf_icmp_gt 34 dX12_isKnown_5 rfl (fun zc5 => ?_) (fun zc5 => ?_)
  · have hgt : ¬ a ≤ s := fun q => nI_nlt q (by omega) zc5
    refine gf_iconst (0) dX12_isKnown_34 rfl ?_
    exact gf_bret dX12_isKnown_35 rfl (by rw [decide_eq_false (fun w => hgt w.1)]; rfl) (rfl)
  · have hle : a ≤ s := by rcases Nat.lt_or_ge s a with q | q; exact absurd (nI_lt q (by omega)) zc5; exact q
    refine gf_aload_n 0 dX12_isKnown_8 rfl rfl ?_
    refine gf_getR flX12_173 rfl dX12_isKnown_9 (gt_247 hG) (gp_247_67 hG) ?_
    refine gf_iload_n 1 dX12_isKnown_12 rfl rfl ?_
    refine gf_iald 201 dX12_isKnown_13 (gt_298 hG) (gl_298 hG) rfl (by omega) (by decide) ?_
    refine gf_if_eq 30 dX12_isKnown_14 rfl (fun zc14 => ?_) (fun zc14 => ?_)
    · refine gf_iconst (1) dX12_isKnown_30 rfl ?_
      refine gf_goto 35 dX12_isKnown_31 rfl ?_
      exact gf_bret dX12_isKnown_35 rfl (by rw [decide_eq_true ⟨hle, Or.inl zc14⟩]; rfl) (rfl)
    · refine gf_aload_n 0 dX12_isKnown_17 rfl rfl ?_
      refine gf_getR flX12_173 rfl dX12_isKnown_18 (gt_247 hG) (gp_247_67 hG) ?_
      refine gf_iload_n 1 dX12_isKnown_21 rfl rfl ?_
      refine gf_iald 201 dX12_isKnown_22 (gt_298 hG) (gl_298 hG) rfl (by omega) (by decide) ?_
      refine gf_aload_n 0 dX12_isKnown_23 rfl rfl ?_
      refine gf_callV cmX12_now lkX12_489 imX12_now seX12_now ⟨rfl, by decide⟩ dX12_isKnown_24 (d1 := d - 1) (by omega) (gt_247 hG) (e_X12_now E (by omega) (hm h M N) hG) rfl rfl (Nat.le_of_ble_eq_true rfl) ?_
      rw [show (if hp_i (hm h M N) 247 68 = -1 then hp_i (hm h M N) 247 62 else hp_i (hm h M N) 247 68) = nI s from A.2.2.1]
      refine gf_icmp_le 34 dX12_isKnown_27 rfl (fun zc27 => ?_) (fun zc27 => ?_)
      · refine gf_iconst (0) dX12_isKnown_34 rfl ?_
        exact gf_bret dX12_isKnown_35 rfl (by rw [decide_eq_false (fun w => Or.elim w.2 zc14 (fun q => by have q2 : M 51 a ≤ nI s := zc27; rw [fa_le] at q2; rw [fa_lt] at q; omega))]; rfl) (rfl)
      · refine gf_iconst (1) dX12_isKnown_30 rfl ?_
        refine gf_goto 35 dX12_isKnown_31 rfl ?_
        exact gf_bret dX12_isKnown_35 rfl (by rw [decide_eq_true ⟨hle, Or.inr (by have q2 : ¬ M 51 a ≤ nI s := zc27; rw [fa_le] at q2; rw [fa_lt]; omega)⟩]; rfl) (rfl)
theorem isIn_w (x a b : Int32) : (a.toInt64 ≤ x.toInt64 ∧ x.toInt64 ≤ b.toInt64) ↔ (a ≤ x ∧ x ≤ b) := by rw [wl_le, wl_le]
abbrev poQ (M : mM) (n s : Nat) (k : Int32) : Prop := (1 ≤ k ∧ k ≤ nI n) ∧ poP M s k.toNatClampNeg
theorem e_X12_isPolicy (E : gE) {d : Nat} (hd : 2 ≤ d) (k : Int32) {n s : Nat} (h : hp_T) (hG : gr h) (M : mM) (N : mN) (A : macI M n s) : ev E mX12_isPolicy d [.ref (E.1 + 247), .int k] (hm h M N) (some (.int (bI (decide (poQ M n s k))))) (hm h M N) := by
  have hA1 := A.2.1
  refine ev_of rfl (fun q => absurd q (by decide)) (Nat.le_of_ble_eq_true rfl) ?_
  refine gf_iload_n 1 dX12_isPolicy_0 rfl rfl ?_
  refine gf_i2l dX12_isPolicy_1 ?_
  refine gf_lconst (1) dX12_isPolicy_2 rfl ?_
  refine gf_aload_n 0 dX12_isPolicy_3 rfl rfl ?_
  refine gf_getI flX12_424 rfl dX12_isPolicy_4 (gt_247 hG) ?_
  rw [show hp_i (hm h M N) 247 62 = nI n from A.1]
  refine gf_i2l dX12_isPolicy_7 ?_
  refine gf_callS cmX12_isIn lkX12_325 stX12_isIn dX12_isPolicy_8 (d1 := d - 1) (by omega) (e_X12_isIn E (by omega) k.toInt64 1 (nI n).toInt64 (hm h M N)) rfl rfl (Nat.le_of_ble_eq_true rfl) ?_
  refine gf_if_eq 36 dX12_isPolicy_11 rfl (fun zc11 => ?_) (fun zc11 => ?_)
  · refine gf_iconst (0) dX12_isPolicy_36 rfl ?_
    exact gf_bret dX12_isPolicy_37 rfl (by rw [decide_eq_false (fun w => zb_0.mp zc11 ((by rw [z64_1]; exact (isIn_w k 1 (nI n)).mpr w.1)))]; rfl) (rfl)
  · have hin : 1 ≤ k ∧ k ≤ nI n := (isIn_w k 1 (nI n)).mp (by have q := zb_1.mp zc11; rw [z64_1] at q; exact q)
    have h1 := hin.1
    have h2 := hin.2
    rw [fa_le, ti_1] at h1
    rw [fa_le, nI_toInt (by omega)] at h2
    have hk : k = nI k.toNatClampNeg := ix_nI (by omega)
    have ha2 : k.toNatClampNeg ≤ 200 := by have := ix_lt (c := k) (n := n + 1) (by omega) (by omega); omega
    refine gf_aload_n 0 dX12_isPolicy_14 rfl rfl ?_
    refine gf_getR flX12_161 rfl dX12_isPolicy_15 (gt_247 hG) (gp_247_63 hG) ?_
    refine gf_iload_n 1 dX12_isPolicy_18 rfl rfl ?_
    refine gf_iald 201 dX12_isPolicy_19 (gt_294 hG) (gl_294 hG) hk (by omega) (by decide) ?_
    refine gf_iconst (2) dX12_isPolicy_20 rfl ?_
    refine gf_icmp_ne 36 dX12_isPolicy_21 rfl (fun zc21 => ?_) (fun zc21 => ?_)
    · refine gf_iconst (0) dX12_isPolicy_36 rfl ?_
      exact gf_bret dX12_isPolicy_37 rfl (by rw [decide_eq_false (fun w => zc21 w.2.1)]; rfl) (rfl)
    · refine gf_aload_n 0 dX12_isPolicy_24 rfl rfl ?_
      refine gf_iload_n 1 dX12_isPolicy_25 rfl rfl ?_
      refine gf_callV cmX12_isKnown lkX12_492 imX12_isKnown seX12_isKnown ⟨rfl, by decide⟩ dX12_isPolicy_26 (d1 := d - 1) (by omega) (gt_247 hG) (ev_aE (by rw [← hk]) (e_X12_isKnown E (by omega) (a := k.toNatClampNeg) h hG M N A ha2)) rfl rfl (Nat.le_of_ble_eq_true rfl) ?_
      refine gf_if_eq 36 dX12_isPolicy_29 rfl (fun zc29 => ?_) (fun zc29 => ?_)
      · have hb29 := bI_f zc29
        refine gf_iconst (0) dX12_isPolicy_36 rfl ?_
        exact gf_bret dX12_isPolicy_37 rfl (by rw [decide_eq_false (fun w => of_decide_eq_false hb29 w.2.2)]; rfl) (rfl)
      · have hb29 := bI_t zc29
        refine gf_iconst (1) dX12_isPolicy_32 rfl ?_
        refine gf_goto 37 dX12_isPolicy_33 rfl ?_
        exact gf_bret dX12_isPolicy_37 rfl (by rw [decide_eq_true ⟨hin, zc21, of_decide_eq_true hb29⟩]; rfl) (rfl)
theorem poQ_n {M : mM} {n s a : Nat} (ha : 1 ≤ a) (han : a ≤ n) (hn : n ≤ 200) : decide (poQ M n s (nI a)) = decide (poP M s a) := by
  have e : (nI a).toNatClampNeg = a := nI_clamp (by omega)
  refine decide_eq_decide.mpr ?_
  unfold poQ
  rw [e]
  exact ⟨fun q => q.2, fun q => ⟨⟨nI_le (a := 1) ha (by omega), nI_le han (by omega)⟩, q⟩⟩
/-- the last terms of an office -/
def mtB (M : mM) (s : Nat) (o : Int32) (f : Nat) (i : Nat) : Nat := if M 47 (i + 1) = 1 ∧ M 48 (i + 1) = o ∧ knP M s (i + 1) then i + 1 else f
def mtO (M : mM) (s : Nat) (o : Int32) (n : Nat) : Nat := itN (mtB M s o) 0 n
theorem mtO_le (M : mM) (s : Nat) (o : Int32) : ∀ n, mtO M s o n ≤ n
  | 0 => Nat.le_refl _
  | n + 1 => by
    show mtB M s o (mtO M s o n) n ≤ n + 1
    have := mtO_le M s o n
    unfold mtB
    split <;> omega
theorem l_X12_termsOf (E : gE) {d : Nat} (hd : 2 ≤ d) (o : Int32) {n s : Nat} (h : hp_T) (hG : gr h) (M : mM) (N : mN) (A : macI M n s) {v : Option Value} {hz : hp_T} (K : gf E mX12_termsOf d 48 [(0, .ref (E.1 + 247)), (1, .int o), (2, .int (nI (mtO M s o (n)))), (3, .int (nI (n + 1)))] [] (hm h M N) v hz) : ∀ (kz jz : Nat), jz + kz = n → gf E mX12_termsOf d 4 [(0, .ref (E.1 + 247)), (1, .int o), (2, .int (nI (mtO M s o (jz)))), (3, .int (nI (jz + 1)))] [] (hm h M N) v hz := by
  have hA1 := A.2.1
  intro kz
  induction kz with
  | zero =>
    intro jz hj
    have hj : n = jz := by omega
    subst hj
    refine gf_iload_n 3 dX12_termsOf_4 rfl rfl ?_
    refine gf_aload_n 0 dX12_termsOf_5 rfl rfl ?_
    refine gf_getI flX12_424 rfl dX12_termsOf_6 (gt_247 hG) ?_
    refine gf_icmp_gt 48 dX12_termsOf_9 rfl (fun _ => ?_) (fun q => absurd (by rw [show hp_i (hm h M N) 247 62 = nI n from A.1]; exact nI_lt (by omega) (by omega)) q)
    exact gf_lw K ⟨rfl, rfl, rfl, rfl, trivial⟩
  | succ kz ih =>
    intro jz hj
    refine gf_iload_n 3 dX12_termsOf_4 rfl rfl ?_
    refine gf_aload_n 0 dX12_termsOf_5 rfl rfl ?_
    refine gf_getI flX12_424 rfl dX12_termsOf_6 (gt_247 hG) ?_
    refine gf_icmp_gt 48 dX12_termsOf_9 rfl (fun q => absurd q (fun q => by rw [show hp_i (hm h M N) 247 62 = nI n from A.1] at q; exact nI_nlt (by omega) (by omega) q)) (fun _ => ?_)
    refine gf_aload_n 0 dX12_termsOf_12 rfl rfl ?_
    refine gf_getR flX12_161 rfl dX12_termsOf_13 (gt_247 hG) (gp_247_63 hG) ?_
    refine gf_iload_n 3 dX12_termsOf_16 rfl rfl ?_
    refine gf_iald 201 dX12_termsOf_17 (gt_294 hG) (gl_294 hG) rfl (by omega) (by decide) ?_
    refine gf_iconst (1) dX12_termsOf_18 rfl ?_
    refine gf_icmp_ne 42 dX12_termsOf_19 rfl (fun zc19 => ?_) (fun zc19 => ?_)
    · refine gf_iinc (1) dX12_termsOf_42 rfl rfl (Nat.le_of_ble_eq_true rfl) ?_
      refine gf_goto 4 dX12_termsOf_45 rfl ?_
      exact gf_lw (ih (jz + 1) (by omega)) ⟨rfl, rfl, lvE (show nI ((mtO M s o (jz))) = nI (mtO M s o (jz + 1)) from congrArg nI (if_neg (fun w => zc19 w.1) : mtB M s o (mtO M s o (jz)) jz = _).symm), lvE (nI_1 (jz + 1)), trivial⟩
    · refine gf_aload_n 0 dX12_termsOf_22 rfl rfl ?_
      refine gf_getR flX12_164 rfl dX12_termsOf_23 (gt_247 hG) (gp_247_64 hG) ?_
      refine gf_iload_n 3 dX12_termsOf_26 rfl rfl ?_
      refine gf_iald 201 dX12_termsOf_27 (gt_295 hG) (gl_295 hG) rfl (by omega) (by decide) ?_
      refine gf_iload_n 1 dX12_termsOf_28 rfl rfl ?_
      refine gf_icmp_ne 42 dX12_termsOf_29 rfl (fun zc29 => ?_) (fun zc29 => ?_)
      · refine gf_iinc (1) dX12_termsOf_42 rfl rfl (Nat.le_of_ble_eq_true rfl) ?_
        refine gf_goto 4 dX12_termsOf_45 rfl ?_
        exact gf_lw (ih (jz + 1) (by omega)) ⟨rfl, rfl, lvE (show nI ((mtO M s o (jz))) = nI (mtO M s o (jz + 1)) from congrArg nI (if_neg (fun w => zc29 w.2.1) : mtB M s o (mtO M s o (jz)) jz = _).symm), lvE (nI_1 (jz + 1)), trivial⟩
      · refine gf_aload_n 0 dX12_termsOf_32 rfl rfl ?_
        refine gf_iload_n 3 dX12_termsOf_33 rfl rfl ?_
        refine gf_callV cmX12_isKnown lkX12_492 imX12_isKnown seX12_isKnown ⟨rfl, by decide⟩ dX12_termsOf_34 (d1 := d - 1) (by omega) (gt_247 hG) (e_X12_isKnown E (by omega) h hG M N A (show jz + 1 ≤ 200 by omega)) rfl rfl (Nat.le_of_ble_eq_true rfl) ?_
        refine gf_if_eq 42 dX12_termsOf_37 rfl (fun zc37 => ?_) (fun zc37 => ?_)
        · refine gf_iinc (1) dX12_termsOf_42 rfl rfl (Nat.le_of_ble_eq_true rfl) ?_
          refine gf_goto 4 dX12_termsOf_45 rfl ?_
          exact gf_lw (ih (jz + 1) (by omega)) ⟨rfl, rfl, lvE (show nI ((mtO M s o (jz))) = nI (mtO M s o (jz + 1)) from congrArg nI (if_neg (fun w => of_decide_eq_false (bI_f zc37) w.2.2) : mtB M s o (mtO M s o (jz)) jz = _).symm), lvE (nI_1 (jz + 1)), trivial⟩
        · refine gf_iload_n 3 dX12_termsOf_40 rfl rfl ?_
          refine gf_istore_n 2 dX12_termsOf_41 rfl (Nat.le_of_ble_eq_true rfl) ?_
          refine gf_iinc (1) dX12_termsOf_42 rfl rfl (Nat.le_of_ble_eq_true rfl) ?_
          refine gf_goto 4 dX12_termsOf_45 rfl ?_
          exact gf_lw (ih (jz + 1) (by omega)) ⟨rfl, rfl, lvE (show nI (jz + 1) = nI (mtO M s o (jz + 1)) from congrArg nI (if_pos ⟨zc19, zc29, of_decide_eq_true (bI_t zc37)⟩ : mtB M s o (mtO M s o (jz)) jz = _).symm), lvE (nI_1 (jz + 1)), trivial⟩
theorem e_X12_termsOf (E : gE) {d : Nat} (hd : 2 ≤ d) (o : Int32) {n s : Nat} (h : hp_T) (hG : gr h) (M : mM) (N : mN) (A : macI M n s) : ev E mX12_termsOf d [.ref (E.1 + 247), .int o] (hm h M N) (some (.int (nI (mtO M s o (n))))) (hm h M N) := by
  refine ev_of rfl (fun q => absurd q (by decide)) (Nat.le_of_ble_eq_true rfl) ?_
  refine gf_iconst (0) dX12_termsOf_0 rfl ?_
  refine gf_istore_n 2 dX12_termsOf_1 rfl (Nat.le_of_ble_eq_true rfl) ?_
  refine gf_iconst (1) dX12_termsOf_2 rfl ?_
  refine gf_istore_n 3 dX12_termsOf_3 rfl (Nat.le_of_ble_eq_true rfl) ?_
  refine gf_lw (l_X12_termsOf E hd o h hG M N A ?_ n 0 (by omega)) ⟨rfl, rfl, rfl, rfl, trivial⟩
  refine gf_iload_n 2 dX12_termsOf_48 rfl rfl ?_
  exact gf_iretE dX12_termsOf_49 rfl (rfl) (rfl)
def mpB (M : mM) (s : Nat) (c : Int32) (i : Nat) : Bool := decide (poP M s (i + 1)) && decide (M 49 (i + 1) = c)
theorem l_X12_policiesOn (E : gE) {d : Nat} (hd : 3 ≤ d) (c : Int32) {n s : Nat} (h : hp_T) (hG : gr h) (M : mM) (N : mN) (A : macI M n s) {v : Option Value} {hz : hp_T} (K : gf E mX12_policiesOn d 39 [(0, .ref (E.1 + 247)), (1, .int c), (2, .int (nI (fa_cnt (mpB M s c) (n)))), (3, .int (nI (n + 1)))] [] (hm h M N) v hz) : ∀ (kz jz : Nat), jz + kz = n → gf E mX12_policiesOn d 4 [(0, .ref (E.1 + 247)), (1, .int c), (2, .int (nI (fa_cnt (mpB M s c) (jz)))), (3, .int (nI (jz + 1)))] [] (hm h M N) v hz := by
  have hA1 := A.2.1
  intro kz
  induction kz with
  | zero =>
    intro jz hj
    have hj : n = jz := by omega
    subst hj
    refine gf_iload_n 3 dX12_policiesOn_4 rfl rfl ?_
    refine gf_aload_n 0 dX12_policiesOn_5 rfl rfl ?_
    refine gf_getI flX12_424 rfl dX12_policiesOn_6 (gt_247 hG) ?_
    refine gf_icmp_gt 39 dX12_policiesOn_9 rfl (fun _ => ?_) (fun q => absurd (by rw [show hp_i (hm h M N) 247 62 = nI n from A.1]; exact nI_lt (by omega) (by omega)) q)
    exact gf_lw K ⟨rfl, rfl, rfl, rfl, trivial⟩
  | succ kz ih =>
    intro jz hj
    refine gf_iload_n 3 dX12_policiesOn_4 rfl rfl ?_
    refine gf_aload_n 0 dX12_policiesOn_5 rfl rfl ?_
    refine gf_getI flX12_424 rfl dX12_policiesOn_6 (gt_247 hG) ?_
    refine gf_icmp_gt 39 dX12_policiesOn_9 rfl (fun q => absurd q (fun q => by rw [show hp_i (hm h M N) 247 62 = nI n from A.1] at q; exact nI_nlt (by omega) (by omega) q)) (fun _ => ?_)
    refine gf_aload_n 0 dX12_policiesOn_12 rfl rfl ?_
    refine gf_iload_n 3 dX12_policiesOn_13 rfl rfl ?_
    refine gf_callV cmX12_isPolicy lkX12_517 imX12_isPolicy seX12_isPolicy ⟨rfl, by decide⟩ dX12_policiesOn_14 (d1 := d - 1) (by omega) (gt_247 hG) (e_X12_isPolicy E (by omega) (nI (jz + 1)) h hG M N A) rfl rfl (Nat.le_of_ble_eq_true rfl) ?_
    rw [poQ_n (by omega) (by omega) hA1]
    refine gf_if_eq 33 dX12_policiesOn_17 rfl (fun zc17 => ?_) (fun zc17 => ?_)
    · refine gf_iinc (1) dX12_policiesOn_33 rfl rfl (Nat.le_of_ble_eq_true rfl) ?_
      refine gf_goto 4 dX12_policiesOn_36 rfl ?_
      exact gf_lw (ih (jz + 1) (by omega)) ⟨rfl, rfl, lvE (by rw [fa_cnt_no (show mpB M s c jz = false by unfold mpB; rw [bI_f zc17]; rfl)]), lvE (nI_1 (jz + 1)), trivial⟩
    · refine gf_aload_n 0 dX12_policiesOn_20 rfl rfl ?_
      refine gf_getR flX12_167 rfl dX12_policiesOn_21 (gt_247 hG) (gp_247_65 hG) ?_
      refine gf_iload_n 3 dX12_policiesOn_24 rfl rfl ?_
      refine gf_iald 201 dX12_policiesOn_25 (gt_296 hG) (gl_296 hG) rfl (by omega) (by decide) ?_
      refine gf_iload_n 1 dX12_policiesOn_26 rfl rfl ?_
      refine gf_icmp_ne 33 dX12_policiesOn_27 rfl (fun zc27 => ?_) (fun zc27 => ?_)
      · refine gf_iinc (1) dX12_policiesOn_33 rfl rfl (Nat.le_of_ble_eq_true rfl) ?_
        refine gf_goto 4 dX12_policiesOn_36 rfl ?_
        exact gf_lw (ih (jz + 1) (by omega)) ⟨rfl, rfl, lvE (by rw [fa_cnt_no (show mpB M s c jz = false by unfold mpB; rw [decide_eq_false (show ¬ M 49 (jz + 1) = c from zc27), Bool.and_false])]), lvE (nI_1 (jz + 1)), trivial⟩
      · refine gf_iinc (1) dX12_policiesOn_30 rfl rfl (Nat.le_of_ble_eq_true rfl) ?_
        refine gf_iinc (1) dX12_policiesOn_33 rfl rfl (Nat.le_of_ble_eq_true rfl) ?_
        refine gf_goto 4 dX12_policiesOn_36 rfl ?_
        exact gf_lw (ih (jz + 1) (by omega)) ⟨rfl, rfl, lvE (by rw [fa_cnt_yes (show mpB M s c jz = true by unfold mpB; rw [bI_t zc17, decide_eq_true (show M 49 (jz + 1) = c from zc27)]; rfl)]; exact nI_1 _), lvE (nI_1 (jz + 1)), trivial⟩
theorem e_X12_policiesOn (E : gE) {d : Nat} (hd : 3 ≤ d) (c : Int32) {n s : Nat} (h : hp_T) (hG : gr h) (M : mM) (N : mN) (A : macI M n s) : ev E mX12_policiesOn d [.ref (E.1 + 247), .int c] (hm h M N) (some (.int (nI (fa_cnt (mpB M s c) (n))))) (hm h M N) := by
  refine ev_of rfl (fun q => absurd q (by decide)) (Nat.le_of_ble_eq_true rfl) ?_
  refine gf_iconst (0) dX12_policiesOn_0 rfl ?_
  refine gf_istore_n 2 dX12_policiesOn_1 rfl (Nat.le_of_ble_eq_true rfl) ?_
  refine gf_iconst (1) dX12_policiesOn_2 rfl ?_
  refine gf_istore_n 3 dX12_policiesOn_3 rfl (Nat.le_of_ble_eq_true rfl) ?_
  refine gf_lw (l_X12_policiesOn E hd c h hG M N A ?_ n 0 (by omega)) ⟨rfl, rfl, rfl, rfl, trivial⟩
  refine gf_iload_n 2 dX12_policiesOn_39 rfl rfl ?_
  exact gf_iretE dX12_policiesOn_40 rfl (rfl) (rfl)
def mhB (M : mM) (s : Nat) (o c : Int32) (i : Nat) : Bool := decide (poP M s (i + 1)) && (decide (M 49 (i + 1) = c) && decide (M 48 (i + 1) = o))
theorem l_X12_hasPolicy (E : gE) {d : Nat} (hd : 3 ≤ d) (o c : Int32) {n s : Nat} (h : hp_T) (hG : gr h) (M : mM) (N : mN) (A : macI M n s) : ∀ (kz jz : Nat), jz + kz = n → (∀ i, i < jz → mhB M s o c i = false) → gf E mX12_hasPolicy d 2 [(0, .ref (E.1 + 247)), (1, .int o), (2, .int c), (3, .int (nI (jz + 1)))] [] (hm h M N) (some (.int (bI (anyb (mhB M s o c) n)))) (hm h M N) := by
  have hA1 := A.2.1
  intro kz
  induction kz with
  | zero =>
    intro jz hj hno
    have hj : n = jz := by omega
    refine gf_iload_n 3 dX12_hasPolicy_2 rfl rfl ?_
    refine gf_aload_n 0 dX12_hasPolicy_3 rfl rfl ?_
    refine gf_getI flX12_424 rfl dX12_hasPolicy_4 (gt_247 hG) ?_
    refine gf_icmp_gt 46 dX12_hasPolicy_7 rfl (fun _ => ?_) (fun q => absurd (by rw [show hp_i (hm h M N) 247 62 = nI n from A.1]; exact nI_lt (by omega) (by omega)) q)
    refine gf_iconst (0) dX12_hasPolicy_46 rfl ?_
    exact gf_bret dX12_hasPolicy_47 rfl (by rw [anyb_no (fun i hi => hno i (by omega))]; rfl) (rfl)
  | succ kz ih =>
    intro jz hj hno
    refine gf_iload_n 3 dX12_hasPolicy_2 rfl rfl ?_
    refine gf_aload_n 0 dX12_hasPolicy_3 rfl rfl ?_
    refine gf_getI flX12_424 rfl dX12_hasPolicy_4 (gt_247 hG) ?_
    refine gf_icmp_gt 46 dX12_hasPolicy_7 rfl (fun q => absurd q (fun q => by rw [show hp_i (hm h M N) 247 62 = nI n from A.1] at q; exact nI_nlt (by omega) (by omega) q)) (fun _ => ?_)
    refine gf_aload_n 0 dX12_hasPolicy_10 rfl rfl ?_
    refine gf_iload_n 3 dX12_hasPolicy_11 rfl rfl ?_
    refine gf_callV cmX12_isPolicy lkX12_517 imX12_isPolicy seX12_isPolicy ⟨rfl, by decide⟩ dX12_hasPolicy_12 (d1 := d - 1) (by omega) (gt_247 hG) (e_X12_isPolicy E (by omega) (nI (jz + 1)) h hG M N A) rfl rfl (Nat.le_of_ble_eq_true rfl) ?_
    rw [poQ_n (by omega) (by omega) hA1]
    refine gf_if_eq 40 dX12_hasPolicy_15 rfl (fun zc15 => ?_) (fun zc15 => ?_)
    · refine gf_iinc (1) dX12_hasPolicy_40 rfl rfl (Nat.le_of_ble_eq_true rfl) ?_
      refine gf_goto 2 dX12_hasPolicy_43 rfl ?_
      exact gf_lw (ih (jz + 1) (by omega) (fun i hi => by rcases Nat.lt_succ_iff_lt_or_eq.mp hi with w | w; exact hno i w; rw [w]; exact (show mhB M s o c jz = false from by unfold mhB; rw [bI_f zc15]; rfl))) ⟨rfl, rfl, rfl, lvE (nI_1 (jz + 1)), trivial⟩
    · refine gf_aload_n 0 dX12_hasPolicy_18 rfl rfl ?_
      refine gf_getR flX12_167 rfl dX12_hasPolicy_19 (gt_247 hG) (gp_247_65 hG) ?_
      refine gf_iload_n 3 dX12_hasPolicy_22 rfl rfl ?_
      refine gf_iald 201 dX12_hasPolicy_23 (gt_296 hG) (gl_296 hG) rfl (by omega) (by decide) ?_
      refine gf_iload_n 2 dX12_hasPolicy_24 rfl rfl ?_
      refine gf_icmp_ne 40 dX12_hasPolicy_25 rfl (fun zc25 => ?_) (fun zc25 => ?_)
      · refine gf_iinc (1) dX12_hasPolicy_40 rfl rfl (Nat.le_of_ble_eq_true rfl) ?_
        refine gf_goto 2 dX12_hasPolicy_43 rfl ?_
        exact gf_lw (ih (jz + 1) (by omega) (fun i hi => by rcases Nat.lt_succ_iff_lt_or_eq.mp hi with w | w; exact hno i w; rw [w]; exact (show mhB M s o c jz = false from by unfold mhB; rw [decide_eq_false (show ¬ M 49 (jz + 1) = c from zc25), Bool.false_and, Bool.and_false]))) ⟨rfl, rfl, rfl, lvE (nI_1 (jz + 1)), trivial⟩
      · refine gf_aload_n 0 dX12_hasPolicy_28 rfl rfl ?_
        refine gf_getR flX12_164 rfl dX12_hasPolicy_29 (gt_247 hG) (gp_247_64 hG) ?_
        refine gf_iload_n 3 dX12_hasPolicy_32 rfl rfl ?_
        refine gf_iald 201 dX12_hasPolicy_33 (gt_295 hG) (gl_295 hG) rfl (by omega) (by decide) ?_
        refine gf_iload_n 1 dX12_hasPolicy_34 rfl rfl ?_
        refine gf_icmp_ne 40 dX12_hasPolicy_35 rfl (fun zc35 => ?_) (fun zc35 => ?_)
        · refine gf_iinc (1) dX12_hasPolicy_40 rfl rfl (Nat.le_of_ble_eq_true rfl) ?_
          refine gf_goto 2 dX12_hasPolicy_43 rfl ?_
          exact gf_lw (ih (jz + 1) (by omega) (fun i hi => by rcases Nat.lt_succ_iff_lt_or_eq.mp hi with w | w; exact hno i w; rw [w]; exact (show mhB M s o c jz = false from by unfold mhB; rw [decide_eq_false (show ¬ M 48 (jz + 1) = o from zc35), Bool.and_false, Bool.and_false]))) ⟨rfl, rfl, rfl, lvE (nI_1 (jz + 1)), trivial⟩
        · refine gf_iconst (1) dX12_hasPolicy_38 rfl ?_
          exact gf_bret dX12_hasPolicy_39 rfl (by rw [anyb_in (k := jz) (by omega) (show mhB M s o c jz = true by unfold mhB; rw [bI_t zc15, decide_eq_true (show M 49 (jz + 1) = c from zc25), decide_eq_true (show M 48 (jz + 1) = o from zc35)]; rfl)]; rfl) (rfl)
theorem e_X12_hasPolicy (E : gE) {d : Nat} (hd : 3 ≤ d) (o c : Int32) {n s : Nat} (h : hp_T) (hG : gr h) (M : mM) (N : mN) (A : macI M n s) : ev E mX12_hasPolicy d [.ref (E.1 + 247), .int o, .int c] (hm h M N) (some (.int (bI (anyb (mhB M s o c) n)))) (hm h M N) := by
  refine ev_of rfl (fun q => absurd q (by decide)) (Nat.le_of_ble_eq_true rfl) ?_
  refine gf_iconst (1) dX12_hasPolicy_0 rfl ?_
  refine gf_istore_n 3 dX12_hasPolicy_1 rfl (Nat.le_of_ble_eq_true rfl) ?_
  exact gf_lw (l_X12_hasPolicy E hd o c h hG M N A n 0 (by omega) (fun i hi => absurd hi (Nat.not_lt_zero i))) ⟨rfl, rfl, rfl, rfl, trivial⟩
theorem e_X12_rowOfWay (E : gE) {d : Nat} {y : Nat} (hy : y < 8) (h : hp_T) : ev E mX12_rowOfWay d [.int (nI y)] h (some (.int ((gf_sc 0).getD y 0))) h := by
  refine ev_of rfl (fun q => absurd q (by decide)) (Nat.le_of_ble_eq_true rfl) ?_
  rcases (show y = 0 ∨ y = 1 ∨ y = 2 ∨ y = 3 ∨ y = 4 ∨ y = 5 ∨ y = 6 ∨ y = 7 by omega) with rfl | rfl | rfl | rfl | rfl | rfl | rfl | rfl
  · refine gf_iload_n 0 dX12_rowOfWay_0 rfl rfl ?_
    refine gf_bipush (7) dX12_rowOfWay_1 rfl ?_
    refine gf_icmp_eq 11 dX12_rowOfWay_3 rfl (fun q => absurd q (by decide)) (fun _ => ?_)
    refine gf_iload_n 0 dX12_rowOfWay_6 rfl rfl ?_
    refine gf_iconst (2) dX12_rowOfWay_7 rfl ?_
    refine gf_icmp_ge 15 dX12_rowOfWay_8 rfl (fun q => absurd q (by decide)) (fun _ => ?_)
    refine gf_iconst (-1) dX12_rowOfWay_11 rfl ?_
    refine gf_goto 31 dX12_rowOfWay_12 rfl ?_
    exact gf_iretE dX12_rowOfWay_31 rfl (rfl) (rfl)
  · refine gf_iload_n 0 dX12_rowOfWay_0 rfl rfl ?_
    refine gf_bipush (7) dX12_rowOfWay_1 rfl ?_
    refine gf_icmp_eq 11 dX12_rowOfWay_3 rfl (fun q => absurd q (by decide)) (fun _ => ?_)
    refine gf_iload_n 0 dX12_rowOfWay_6 rfl rfl ?_
    refine gf_iconst (2) dX12_rowOfWay_7 rfl ?_
    refine gf_icmp_ge 15 dX12_rowOfWay_8 rfl (fun q => absurd q (by decide)) (fun _ => ?_)
    refine gf_iconst (-1) dX12_rowOfWay_11 rfl ?_
    refine gf_goto 31 dX12_rowOfWay_12 rfl ?_
    exact gf_iretE dX12_rowOfWay_31 rfl (rfl) (rfl)
  · refine gf_iload_n 0 dX12_rowOfWay_0 rfl rfl ?_
    refine gf_bipush (7) dX12_rowOfWay_1 rfl ?_
    refine gf_icmp_eq 11 dX12_rowOfWay_3 rfl (fun q => absurd q (by decide)) (fun _ => ?_)
    refine gf_iload_n 0 dX12_rowOfWay_6 rfl rfl ?_
    refine gf_iconst (2) dX12_rowOfWay_7 rfl ?_
    refine gf_icmp_ge 15 dX12_rowOfWay_8 rfl (fun _ => ?_) (fun q => absurd (by decide) q)
    refine gf_iload_n 0 dX12_rowOfWay_15 rfl rfl ?_
    refine gf_iconst (2) dX12_rowOfWay_16 rfl ?_
    refine gf_icmp_eq 26 dX12_rowOfWay_17 rfl (fun _ => ?_) (fun q => absurd (by decide) q)
    refine gf_iconst (0) dX12_rowOfWay_26 rfl ?_
    refine gf_goto 31 dX12_rowOfWay_27 rfl ?_
    exact gf_iretE dX12_rowOfWay_31 rfl (rfl) (rfl)
  · refine gf_iload_n 0 dX12_rowOfWay_0 rfl rfl ?_
    refine gf_bipush (7) dX12_rowOfWay_1 rfl ?_
    refine gf_icmp_eq 11 dX12_rowOfWay_3 rfl (fun q => absurd q (by decide)) (fun _ => ?_)
    refine gf_iload_n 0 dX12_rowOfWay_6 rfl rfl ?_
    refine gf_iconst (2) dX12_rowOfWay_7 rfl ?_
    refine gf_icmp_ge 15 dX12_rowOfWay_8 rfl (fun _ => ?_) (fun q => absurd (by decide) q)
    refine gf_iload_n 0 dX12_rowOfWay_15 rfl rfl ?_
    refine gf_iconst (2) dX12_rowOfWay_16 rfl ?_
    refine gf_icmp_eq 26 dX12_rowOfWay_17 rfl (fun q => absurd q (by decide)) (fun _ => ?_)
    refine gf_iload_n 0 dX12_rowOfWay_20 rfl rfl ?_
    refine gf_bipush (6) dX12_rowOfWay_21 rfl ?_
    refine gf_icmp_ne 30 dX12_rowOfWay_23 rfl (fun _ => ?_) (fun q => absurd q (by decide))
    refine gf_iconst (1) dX12_rowOfWay_30 rfl ?_
    exact gf_iretE dX12_rowOfWay_31 rfl (rfl) (rfl)
  · refine gf_iload_n 0 dX12_rowOfWay_0 rfl rfl ?_
    refine gf_bipush (7) dX12_rowOfWay_1 rfl ?_
    refine gf_icmp_eq 11 dX12_rowOfWay_3 rfl (fun q => absurd q (by decide)) (fun _ => ?_)
    refine gf_iload_n 0 dX12_rowOfWay_6 rfl rfl ?_
    refine gf_iconst (2) dX12_rowOfWay_7 rfl ?_
    refine gf_icmp_ge 15 dX12_rowOfWay_8 rfl (fun _ => ?_) (fun q => absurd (by decide) q)
    refine gf_iload_n 0 dX12_rowOfWay_15 rfl rfl ?_
    refine gf_iconst (2) dX12_rowOfWay_16 rfl ?_
    refine gf_icmp_eq 26 dX12_rowOfWay_17 rfl (fun q => absurd q (by decide)) (fun _ => ?_)
    refine gf_iload_n 0 dX12_rowOfWay_20 rfl rfl ?_
    refine gf_bipush (6) dX12_rowOfWay_21 rfl ?_
    refine gf_icmp_ne 30 dX12_rowOfWay_23 rfl (fun _ => ?_) (fun q => absurd q (by decide))
    refine gf_iconst (1) dX12_rowOfWay_30 rfl ?_
    exact gf_iretE dX12_rowOfWay_31 rfl (rfl) (rfl)
  · refine gf_iload_n 0 dX12_rowOfWay_0 rfl rfl ?_
    refine gf_bipush (7) dX12_rowOfWay_1 rfl ?_
    refine gf_icmp_eq 11 dX12_rowOfWay_3 rfl (fun q => absurd q (by decide)) (fun _ => ?_)
    refine gf_iload_n 0 dX12_rowOfWay_6 rfl rfl ?_
    refine gf_iconst (2) dX12_rowOfWay_7 rfl ?_
    refine gf_icmp_ge 15 dX12_rowOfWay_8 rfl (fun _ => ?_) (fun q => absurd (by decide) q)
    refine gf_iload_n 0 dX12_rowOfWay_15 rfl rfl ?_
    refine gf_iconst (2) dX12_rowOfWay_16 rfl ?_
    refine gf_icmp_eq 26 dX12_rowOfWay_17 rfl (fun q => absurd q (by decide)) (fun _ => ?_)
    refine gf_iload_n 0 dX12_rowOfWay_20 rfl rfl ?_
    refine gf_bipush (6) dX12_rowOfWay_21 rfl ?_
    refine gf_icmp_ne 30 dX12_rowOfWay_23 rfl (fun _ => ?_) (fun q => absurd q (by decide))
    refine gf_iconst (1) dX12_rowOfWay_30 rfl ?_
    exact gf_iretE dX12_rowOfWay_31 rfl (rfl) (rfl)
  · refine gf_iload_n 0 dX12_rowOfWay_0 rfl rfl ?_
    refine gf_bipush (7) dX12_rowOfWay_1 rfl ?_
    refine gf_icmp_eq 11 dX12_rowOfWay_3 rfl (fun q => absurd q (by decide)) (fun _ => ?_)
    refine gf_iload_n 0 dX12_rowOfWay_6 rfl rfl ?_
    refine gf_iconst (2) dX12_rowOfWay_7 rfl ?_
    refine gf_icmp_ge 15 dX12_rowOfWay_8 rfl (fun _ => ?_) (fun q => absurd (by decide) q)
    refine gf_iload_n 0 dX12_rowOfWay_15 rfl rfl ?_
    refine gf_iconst (2) dX12_rowOfWay_16 rfl ?_
    refine gf_icmp_eq 26 dX12_rowOfWay_17 rfl (fun q => absurd q (by decide)) (fun _ => ?_)
    refine gf_iload_n 0 dX12_rowOfWay_20 rfl rfl ?_
    refine gf_bipush (6) dX12_rowOfWay_21 rfl ?_
    refine gf_icmp_ne 30 dX12_rowOfWay_23 rfl (fun q => absurd (by decide) q) (fun _ => ?_)
    refine gf_iconst (0) dX12_rowOfWay_26 rfl ?_
    refine gf_goto 31 dX12_rowOfWay_27 rfl ?_
    exact gf_iretE dX12_rowOfWay_31 rfl (rfl) (rfl)
  · refine gf_iload_n 0 dX12_rowOfWay_0 rfl rfl ?_
    refine gf_bipush (7) dX12_rowOfWay_1 rfl ?_
    refine gf_icmp_eq 11 dX12_rowOfWay_3 rfl (fun _ => ?_) (fun q => absurd (by decide) q)
    refine gf_iconst (-1) dX12_rowOfWay_11 rfl ?_
    refine gf_goto 31 dX12_rowOfWay_12 rfl ?_
    exact gf_iretE dX12_rowOfWay_31 rfl (rfl) (rfl)
theorem e_X12_columnOfWay (E : gE) {d : Nat} {y : Nat} (hy : y < 8) (h : hp_T) : ev E mX12_columnOfWay d [.int (nI y)] h (some (.int ((gf_sc 1).getD y 0))) h := by
  refine ev_of rfl (fun q => absurd q (by decide)) (Nat.le_of_ble_eq_true rfl) ?_
  rcases (show y = 0 ∨ y = 1 ∨ y = 2 ∨ y = 3 ∨ y = 4 ∨ y = 5 ∨ y = 6 ∨ y = 7 by omega) with rfl | rfl | rfl | rfl | rfl | rfl | rfl | rfl
  · refine gf_iload_n 0 dX12_columnOfWay_0 rfl rfl ?_
    refine gf_if_eq 9 dX12_columnOfWay_1 rfl (fun _ => ?_) (fun q => absurd (by decide) q)
    refine gf_iconst (0) dX12_columnOfWay_9 rfl ?_
    refine gf_goto 23 dX12_columnOfWay_10 rfl ?_
    exact gf_iretE dX12_columnOfWay_23 rfl (rfl) (rfl)
  · refine gf_iload_n 0 dX12_columnOfWay_0 rfl rfl ?_
    refine gf_if_eq 9 dX12_columnOfWay_1 rfl (fun q => absurd q (by decide)) (fun _ => ?_)
    refine gf_iload_n 0 dX12_columnOfWay_4 rfl rfl ?_
    refine gf_iconst (4) dX12_columnOfWay_5 rfl ?_
    refine gf_icmp_ne 13 dX12_columnOfWay_6 rfl (fun _ => ?_) (fun q => absurd q (by decide))
    refine gf_iload_n 0 dX12_columnOfWay_13 rfl rfl ?_
    refine gf_iconst (4) dX12_columnOfWay_14 rfl ?_
    refine gf_icmp_ge 22 dX12_columnOfWay_15 rfl (fun q => absurd q (by decide)) (fun _ => ?_)
    refine gf_iconst (1) dX12_columnOfWay_18 rfl ?_
    refine gf_goto 23 dX12_columnOfWay_19 rfl ?_
    exact gf_iretE dX12_columnOfWay_23 rfl (rfl) (rfl)
  · refine gf_iload_n 0 dX12_columnOfWay_0 rfl rfl ?_
    refine gf_if_eq 9 dX12_columnOfWay_1 rfl (fun q => absurd q (by decide)) (fun _ => ?_)
    refine gf_iload_n 0 dX12_columnOfWay_4 rfl rfl ?_
    refine gf_iconst (4) dX12_columnOfWay_5 rfl ?_
    refine gf_icmp_ne 13 dX12_columnOfWay_6 rfl (fun _ => ?_) (fun q => absurd q (by decide))
    refine gf_iload_n 0 dX12_columnOfWay_13 rfl rfl ?_
    refine gf_iconst (4) dX12_columnOfWay_14 rfl ?_
    refine gf_icmp_ge 22 dX12_columnOfWay_15 rfl (fun q => absurd q (by decide)) (fun _ => ?_)
    refine gf_iconst (1) dX12_columnOfWay_18 rfl ?_
    refine gf_goto 23 dX12_columnOfWay_19 rfl ?_
    exact gf_iretE dX12_columnOfWay_23 rfl (rfl) (rfl)
  · refine gf_iload_n 0 dX12_columnOfWay_0 rfl rfl ?_
    refine gf_if_eq 9 dX12_columnOfWay_1 rfl (fun q => absurd q (by decide)) (fun _ => ?_)
    refine gf_iload_n 0 dX12_columnOfWay_4 rfl rfl ?_
    refine gf_iconst (4) dX12_columnOfWay_5 rfl ?_
    refine gf_icmp_ne 13 dX12_columnOfWay_6 rfl (fun _ => ?_) (fun q => absurd q (by decide))
    refine gf_iload_n 0 dX12_columnOfWay_13 rfl rfl ?_
    refine gf_iconst (4) dX12_columnOfWay_14 rfl ?_
    refine gf_icmp_ge 22 dX12_columnOfWay_15 rfl (fun q => absurd q (by decide)) (fun _ => ?_)
    refine gf_iconst (1) dX12_columnOfWay_18 rfl ?_
    refine gf_goto 23 dX12_columnOfWay_19 rfl ?_
    exact gf_iretE dX12_columnOfWay_23 rfl (rfl) (rfl)
  · refine gf_iload_n 0 dX12_columnOfWay_0 rfl rfl ?_
    refine gf_if_eq 9 dX12_columnOfWay_1 rfl (fun q => absurd q (by decide)) (fun _ => ?_)
    refine gf_iload_n 0 dX12_columnOfWay_4 rfl rfl ?_
    refine gf_iconst (4) dX12_columnOfWay_5 rfl ?_
    refine gf_icmp_ne 13 dX12_columnOfWay_6 rfl (fun q => absurd (by decide) q) (fun _ => ?_)
    refine gf_iconst (0) dX12_columnOfWay_9 rfl ?_
    refine gf_goto 23 dX12_columnOfWay_10 rfl ?_
    exact gf_iretE dX12_columnOfWay_23 rfl (rfl) (rfl)
  · refine gf_iload_n 0 dX12_columnOfWay_0 rfl rfl ?_
    refine gf_if_eq 9 dX12_columnOfWay_1 rfl (fun q => absurd q (by decide)) (fun _ => ?_)
    refine gf_iload_n 0 dX12_columnOfWay_4 rfl rfl ?_
    refine gf_iconst (4) dX12_columnOfWay_5 rfl ?_
    refine gf_icmp_ne 13 dX12_columnOfWay_6 rfl (fun _ => ?_) (fun q => absurd q (by decide))
    refine gf_iload_n 0 dX12_columnOfWay_13 rfl rfl ?_
    refine gf_iconst (4) dX12_columnOfWay_14 rfl ?_
    refine gf_icmp_ge 22 dX12_columnOfWay_15 rfl (fun _ => ?_) (fun q => absurd (by decide) q)
    refine gf_iconst (-1) dX12_columnOfWay_22 rfl ?_
    exact gf_iretE dX12_columnOfWay_23 rfl (rfl) (rfl)
  · refine gf_iload_n 0 dX12_columnOfWay_0 rfl rfl ?_
    refine gf_if_eq 9 dX12_columnOfWay_1 rfl (fun q => absurd q (by decide)) (fun _ => ?_)
    refine gf_iload_n 0 dX12_columnOfWay_4 rfl rfl ?_
    refine gf_iconst (4) dX12_columnOfWay_5 rfl ?_
    refine gf_icmp_ne 13 dX12_columnOfWay_6 rfl (fun _ => ?_) (fun q => absurd q (by decide))
    refine gf_iload_n 0 dX12_columnOfWay_13 rfl rfl ?_
    refine gf_iconst (4) dX12_columnOfWay_14 rfl ?_
    refine gf_icmp_ge 22 dX12_columnOfWay_15 rfl (fun _ => ?_) (fun q => absurd (by decide) q)
    refine gf_iconst (-1) dX12_columnOfWay_22 rfl ?_
    exact gf_iretE dX12_columnOfWay_23 rfl (rfl) (rfl)
  · refine gf_iload_n 0 dX12_columnOfWay_0 rfl rfl ?_
    refine gf_if_eq 9 dX12_columnOfWay_1 rfl (fun q => absurd q (by decide)) (fun _ => ?_)
    refine gf_iload_n 0 dX12_columnOfWay_4 rfl rfl ?_
    refine gf_iconst (4) dX12_columnOfWay_5 rfl ?_
    refine gf_icmp_ne 13 dX12_columnOfWay_6 rfl (fun _ => ?_) (fun q => absurd q (by decide))
    refine gf_iload_n 0 dX12_columnOfWay_13 rfl rfl ?_
    refine gf_iconst (4) dX12_columnOfWay_14 rfl ?_
    refine gf_icmp_ge 22 dX12_columnOfWay_15 rfl (fun _ => ?_) (fun q => absurd (by decide) q)
    refine gf_iconst (-1) dX12_columnOfWay_22 rfl ?_
    exact gf_iretE dX12_columnOfWay_23 rfl (rfl) (rfl)
theorem e_X12_beside (E : gE) {d : Nat} (hd : 1 ≤ d) {w g c y : Nat} (h : hp_T) (hG : gr h) (M : mM) (N : mN) (C : (1 ≤ w ∧ w ≤ 12 ∧ 1 ≤ g ∧ g ≤ 10) ∧ M 0 42 = nI w ∧ M 0 43 = nI g) (hc : c < w * g) (hy : y < 8) : ev E mX12_beside d [.ref (E.1 + 247), .int (nI c), .int (nI y)] (hm h M N) (some (.int (enc (nbo w g c y)))) (hm h M N) := by
  obtain ⟨w1, w2, g1, g2⟩ := C.1
  have hn : w * g ≤ 120 := Nat.le_trans (Nat.mul_le_mul w2 g2) (by decide)
  have hr1 : c / w < g := Nat.div_lt_of_lt_mul hc
  have hx1 : c % w < w := Nat.mod_lt _ (by omega)
  have le := lay_e (w := w) (g := g) (r := c / w) (c := c % w) (way := y) (by omega) (by omega) hr1 hx1 hy
  have ecw : c / w * w + c % w = c := by rw [Nat.mul_comm]; exact Nat.div_add_mod c w
  refine ev_of rfl (fun q => absurd q (by decide)) (Nat.le_of_ble_eq_true rfl) ?_
  refine gf_iload_n 1 dX12_beside_0 rfl rfl ?_
  refine gf_aload_n 0 dX12_beside_1 rfl rfl ?_
  refine gf_getI flX12_106 rfl dX12_beside_2 (gt_247 hG) ?_
  rw [show hp_i (hm h M N) 247 42 = nI w from C.2.1]
  refine gf_idiv dX12_beside_5 (nI_ne0 (by omega) (by omega)) ?_
  rw [pk_div (by omega) (by omega) (by omega)]
  refine gf_iload_n 2 dX12_beside_6 rfl rfl ?_
  refine gf_callS cmX12_rowOfWay lkX12_462 stX12_rowOfWay dX12_beside_7 (d1 := d - 1) (by omega) (e_X12_rowOfWay E hy _) rfl rfl (Nat.le_of_ble_eq_true rfl) ?_
  refine gf_iadd dX12_beside_10 ?_
  refine gf_istore_n 3 dX12_beside_11 rfl (Nat.le_of_ble_eq_true rfl) ?_
  refine gf_iload_n 1 dX12_beside_12 rfl rfl ?_
  refine gf_aload_n 0 dX12_beside_13 rfl rfl ?_
  refine gf_getI flX12_106 rfl dX12_beside_14 (gt_247 hG) ?_
  rw [show hp_i (hm h M N) 247 42 = nI w from C.2.1]
  refine gf_irem dX12_beside_17 (nI_ne0 (by omega) (by omega)) ?_
  rw [pk_rem (by omega) (by omega) (by omega)]
  refine gf_iload_n 2 dX12_beside_18 rfl rfl ?_
  refine gf_callS cmX12_columnOfWay lkX12_466 stX12_columnOfWay dX12_beside_19 (d1 := d - 1) (by omega) (e_X12_columnOfWay E hy _) rfl rfl (Nat.le_of_ble_eq_true rfl) ?_
  refine gf_iadd dX12_beside_22 ?_
  refine gf_istore dX12_beside_23 (Nat.le_of_ble_eq_true rfl) ?_
  refine gf_iload_n 3 dX12_beside_25 rfl rfl ?_
  refine gf_i2l dX12_beside_26 ?_
  refine gf_lconst (0) dX12_beside_27 rfl ?_
  refine gf_aload_n 0 dX12_beside_28 rfl rfl ?_
  refine gf_getI flX12_109 rfl dX12_beside_29 (gt_247 hG) ?_
  rw [show hp_i (hm h M N) 247 43 = nI g from C.2.2]
  refine gf_iconst (1) dX12_beside_32 rfl ?_
  refine gf_isub dX12_beside_33 ?_
  refine gf_i2l dX12_beside_34 ?_
  refine gf_callS cmX12_isIn lkX12_325 stX12_isIn dX12_beside_35 (d1 := d - 1) (by omega) (e_X12_isIn E (by omega) (nI (c / w) + (gf_sc 0).getD y 0).toInt64 0 (nI g - 1).toInt64 _) rfl rfl (Nat.le_of_ble_eq_true rfl) ?_
  refine gf_if_eq 70 dX12_beside_38 rfl (fun zc38 => ?_) (fun zc38 => ?_)
  · have hr : ¬ (0 ≤ (nI (c / w) + (gf_sc 0).getD y 0) ∧ (nI (c / w) + (gf_sc 0).getD y 0) ≤ nI g - 1) := fun q => zb_0.mp zc38 (by rw [z64_0]; exact (isIn_w _ _ _).mpr q)
    refine gf_iconst (-1) dX12_beside_70 rfl ?_
    exact gf_iretE dX12_beside_71 rfl ((le.2 (fun q => hr q.1)).trans (by rw [ecw])) (rfl)
  · have hr : 0 ≤ (nI (c / w) + (gf_sc 0).getD y 0) ∧ (nI (c / w) + (gf_sc 0).getD y 0) ≤ nI g - 1 := (isIn_w _ _ _).mp (by have q := zb_1.mp zc38; rw [z64_0] at q; exact q)
    refine gf_iload dX12_beside_41 rfl ?_
    refine gf_i2l dX12_beside_43 ?_
    refine gf_lconst (0) dX12_beside_44 rfl ?_
    refine gf_aload_n 0 dX12_beside_45 rfl rfl ?_
    refine gf_getI flX12_106 rfl dX12_beside_46 (gt_247 hG) ?_
    rw [show hp_i (hm h M N) 247 42 = nI w from C.2.1]
    refine gf_iconst (1) dX12_beside_49 rfl ?_
    refine gf_isub dX12_beside_50 ?_
    refine gf_i2l dX12_beside_51 ?_
    refine gf_callS cmX12_isIn lkX12_325 stX12_isIn dX12_beside_52 (d1 := d - 1) (by omega) (e_X12_isIn E (by omega) (nI (c % w) + (gf_sc 1).getD y 0).toInt64 0 (nI w - 1).toInt64 _) rfl rfl (Nat.le_of_ble_eq_true rfl) ?_
    refine gf_if_eq 70 dX12_beside_55 rfl (fun zc55 => ?_) (fun zc55 => ?_)
    · have hx : ¬ (0 ≤ (nI (c % w) + (gf_sc 1).getD y 0) ∧ (nI (c % w) + (gf_sc 1).getD y 0) ≤ nI w - 1) := fun q => zb_0.mp zc55 (by rw [z64_0]; exact (isIn_w _ _ _).mpr q)
      refine gf_iconst (-1) dX12_beside_70 rfl ?_
      exact gf_iretE dX12_beside_71 rfl ((le.2 (fun q => hx q.2)).trans (by rw [ecw])) (rfl)
    · have hx : 0 ≤ (nI (c % w) + (gf_sc 1).getD y 0) ∧ (nI (c % w) + (gf_sc 1).getD y 0) ≤ nI w - 1 := (isIn_w _ _ _).mp (by have q := zb_1.mp zc55; rw [z64_0] at q; exact q)
      refine gf_iload_n 3 dX12_beside_58 rfl rfl ?_
      refine gf_aload_n 0 dX12_beside_59 rfl rfl ?_
      refine gf_getI flX12_106 rfl dX12_beside_60 (gt_247 hG) ?_
      rw [show hp_i (hm h M N) 247 42 = nI w from C.2.1]
      refine gf_imul dX12_beside_63 ?_
      refine gf_iload dX12_beside_64 rfl ?_
      refine gf_iadd dX12_beside_66 ?_
      refine gf_goto 71 dX12_beside_67 rfl ?_
      exact gf_iretE dX12_beside_71 rfl ((le.1 ⟨hr, hx⟩).trans (by rw [ecw])) (rfl)
theorem l_X12_near (E : gE) {d : Nat} (hd : 2 ≤ d) {w g c : Nat} (h : hp_T) (hG : gr h) (M : mM) (N : mN) (C : (1 ≤ w ∧ w ≤ 12 ∧ 1 ≤ g ∧ g ≤ 10) ∧ M 0 42 = nI w ∧ M 0 43 = nI g) (hc : c < w * g) {v : Option Value} {hz : hp_T} (K : gf E mX12_near d 43 [(0, .ref (E.1 + 247)), (1, .int (nI c)), (2, .int (nI (fa_cnt (hsN (M 34) w g c) ((8 : Nat))))), (3, .int (nI ((8 : Nat))))] [] (hm h M N) v hz) : ∀ (kz jz : Nat), jz + kz = (8 : Nat) → gf E mX12_near d 4 [(0, .ref (E.1 + 247)), (1, .int (nI c)), (2, .int (nI (fa_cnt (hsN (M 34) w g c) (jz)))), (3, .int (nI (jz)))] [] (hm h M N) v hz := by
  have hn : w * g ≤ 120 := Nat.le_trans (Nat.mul_le_mul C.1.2.1 C.1.2.2.2) (by decide)
  intro kz
  induction kz with
  | zero =>
    intro jz hj
    have hj : (8 : Nat) = jz := by omega
    subst hj
    refine gf_iload_n 3 dX12_near_4 rfl rfl ?_
    refine gf_bipush (8) dX12_near_5 rfl ?_
    refine gf_icmp_ge 43 dX12_near_7 rfl (fun _ => ?_) (fun q => absurd (Int32.le_refl _) q)
    exact gf_lw K ⟨rfl, rfl, rfl, rfl, trivial⟩
  | succ kz ih =>
    intro jz hj
    cases hnb : nbo w g c jz with
    | none =>
      have hsv : hsN (M 34) w g c jz = false := by unfold hsN; rw [hnb]
      refine gf_iload_n 3 dX12_near_4 rfl rfl ?_
      refine gf_bipush (8) dX12_near_5 rfl ?_
      refine gf_icmp_ge 43 dX12_near_7 rfl (fun q => absurd q (nI_ge (b := 8) (by omega) (by omega))) (fun _ => ?_)
      refine gf_aload_n 0 dX12_near_10 rfl rfl ?_
      refine gf_iload_n 1 dX12_near_11 rfl rfl ?_
      refine gf_iload_n 3 dX12_near_12 rfl rfl ?_
      refine gf_callV cmX12_beside lkX12_520 imX12_beside seX12_beside ⟨rfl, by decide⟩ dX12_near_13 (d1 := d - 1) (by omega) (gt_247 hG) (e_X12_beside E (by omega) h hG M N C hc (show jz < 8 by omega)) rfl rfl (Nat.le_of_ble_eq_true rfl) ?_
      rw [hnb]
      refine gf_iconst (-1) dX12_near_16 rfl ?_
      refine gf_icmp_eq 37 dX12_near_17 rfl (fun _ => ?_) (fun q => absurd (by rw [show enc none = -1 from rfl]) q)
      refine gf_iinc (1) dX12_near_37 rfl rfl (Nat.le_of_ble_eq_true rfl) ?_
      refine gf_goto 4 dX12_near_40 rfl ?_
      exact gf_lw (ih (jz + 1) (by omega)) ⟨rfl, rfl, lvE (by rw [fa_cnt_no hsv]), lvE (nI_1 jz), trivial⟩
    | some jj =>
      have hjj := nbo_lt hnb
      refine gf_iload_n 3 dX12_near_4 rfl rfl ?_
      refine gf_bipush (8) dX12_near_5 rfl ?_
      refine gf_icmp_ge 43 dX12_near_7 rfl (fun q => absurd q (nI_ge (b := 8) (by omega) (by omega))) (fun _ => ?_)
      refine gf_aload_n 0 dX12_near_10 rfl rfl ?_
      refine gf_iload_n 1 dX12_near_11 rfl rfl ?_
      refine gf_iload_n 3 dX12_near_12 rfl rfl ?_
      refine gf_callV cmX12_beside lkX12_520 imX12_beside seX12_beside ⟨rfl, by decide⟩ dX12_near_13 (d1 := d - 1) (by omega) (gt_247 hG) (e_X12_beside E (by omega) h hG M N C hc (show jz < 8 by omega)) rfl rfl (Nat.le_of_ble_eq_true rfl) ?_
      rw [hnb]
      rw [show enc (some jj) = nI jj from rfl]
      refine gf_iconst (-1) dX12_near_16 rfl ?_
      refine gf_icmp_eq 37 dX12_near_17 rfl (fun q => absurd q (nI_nm1 (by omega))) (fun _ => ?_)
      refine gf_aload_n 0 dX12_near_20 rfl rfl ?_
      refine gf_getR flX12_121 rfl dX12_near_21 (gt_247 hG) (gp_247_47 hG) ?_
      refine gf_aload_n 0 dX12_near_24 rfl rfl ?_
      refine gf_iload_n 1 dX12_near_25 rfl rfl ?_
      refine gf_iload_n 3 dX12_near_26 rfl rfl ?_
      refine gf_callV cmX12_beside lkX12_520 imX12_beside seX12_beside ⟨rfl, by decide⟩ dX12_near_27 (d1 := d - 1) (by omega) (gt_247 hG) (e_X12_beside E (by omega) h hG M N C hc (show jz < 8 by omega)) rfl rfl (Nat.le_of_ble_eq_true rfl) ?_
      rw [hnb]
      rw [show enc (some jj) = nI jj from rfl]
      refine gf_zald 120 dX12_near_30 (gt_281 hG) (gl_281 hG) rfl (by omega) (by decide) ?_
      refine gf_if_eq 37 dX12_near_31 rfl (fun zc31 => ?_) (fun zc31 => ?_)
      · have hsv : hsN (M 34) w g c jz = false := by unfold hsN; rw [hnb]; exact decide_eq_false (not_not_intro zc31)
        refine gf_iinc (1) dX12_near_37 rfl rfl (Nat.le_of_ble_eq_true rfl) ?_
        refine gf_goto 4 dX12_near_40 rfl ?_
        exact gf_lw (ih (jz + 1) (by omega)) ⟨rfl, rfl, lvE (by rw [fa_cnt_no hsv]), lvE (nI_1 jz), trivial⟩
      · have hsv : hsN (M 34) w g c jz = true := by unfold hsN; rw [hnb]; exact decide_eq_true zc31
        refine gf_iinc (1) dX12_near_34 rfl rfl (Nat.le_of_ble_eq_true rfl) ?_
        refine gf_iinc (1) dX12_near_37 rfl rfl (Nat.le_of_ble_eq_true rfl) ?_
        refine gf_goto 4 dX12_near_40 rfl ?_
        exact gf_lw (ih (jz + 1) (by omega)) ⟨rfl, rfl, lvE (by rw [fa_cnt_yes hsv]; exact nI_1 _), lvE (nI_1 jz), trivial⟩
theorem e_X12_near (E : gE) {d : Nat} (hd : 2 ≤ d) {w g c : Nat} (h : hp_T) (hG : gr h) (M : mM) (N : mN) (C : (1 ≤ w ∧ w ≤ 12 ∧ 1 ≤ g ∧ g ≤ 10) ∧ M 0 42 = nI w ∧ M 0 43 = nI g) (hc : c < w * g) : ev E mX12_near d [.ref (E.1 + 247), .int (nI c)] (hm h M N) (some (.int (nI (fa_cnt (hsN (M 34) w g c) (8))))) (hm h M N) := by
  refine ev_of rfl (fun q => absurd q (by decide)) (Nat.le_of_ble_eq_true rfl) ?_
  refine gf_iconst (0) dX12_near_0 rfl ?_
  refine gf_istore_n 2 dX12_near_1 rfl (Nat.le_of_ble_eq_true rfl) ?_
  refine gf_iconst (0) dX12_near_2 rfl ?_
  refine gf_istore_n 3 dX12_near_3 rfl (Nat.le_of_ble_eq_true rfl) ?_
  refine gf_lw (l_X12_near E hd h hG M N C hc ?_ 8 0 (by omega)) ⟨rfl, rfl, rfl, rfl, trivial⟩
  refine gf_iload_n 2 dX12_near_43 rfl rfl ?_
  exact gf_iretE dX12_near_44 rfl (rfl) (rfl)
