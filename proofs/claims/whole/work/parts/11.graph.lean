/-! ===== the fixed shape: cells 0 .. 246 of the class, 247 .. 332 of the reference ===== -/
def gr_tl : List (Nat × Nat) := [(11, 0), (1, 0), (16, 120), (14, 120), (14, 120), (14, 120), (16, 120), (14, 120), (14, 120), (18, 120), (14, 8), (14, 8), (14, 8), (14, 8), (14, 8), (14, 8), (14, 8), (14, 8), (14, 8), (14, 8), (14, 8), (14, 8), (14, 8), (14, 8), (14, 8), (14, 8), (14, 8), (14, 8), (14, 8), (14, 8), (14, 8), (14, 8), (14, 8), (14, 8), (14, 8), (14, 8), (14, 8), (14, 8), (14, 8), (14, 8), (14, 8), (14, 8), (14, 8), (14, 8), (14, 8), (14, 8), (14, 8), (14, 8), (14, 8), (14, 8), (14, 8), (14, 8), (14, 8), (14, 8), (14, 8), (14, 8), (14, 8), (14, 8), (14, 8), (14, 8), (14, 8), (14, 8), (14, 8), (14, 8), (14, 8), (14, 8), (14, 8), (14, 8), (14, 8), (14, 8), (14, 8), (14, 8), (14, 8), (14, 8), (14, 8), (14, 8), (14, 8), (14, 8), (14, 8), (14, 8), (14, 8), (14, 8), (14, 8), (14, 8), (14, 8), (14, 8), (14, 8), (14, 8), (14, 8), (14, 8), (14, 8), (14, 8), (14, 8), (14, 8), (14, 8), (14, 8), (14, 8), (14, 8), (14, 8), (14, 8), (14, 8), (14, 8), (14, 8), (14, 8), (14, 8), (14, 8), (14, 8), (14, 8), (14, 8), (14, 8), (14, 8), (14, 8), (14, 8), (14, 8), (14, 8), (14, 8), (14, 8), (14, 8), (14, 8), (14, 8), (14, 8), (14, 8), (14, 8), (14, 8), (14, 8), (14, 8), (14, 8), (14, 8), (14, 8), (14, 8), (14, 6), (16, 121), (14, 121), (14, 121), (14, 9), (18, 9), (14, 9), (14, 9), (14, 9), (14, 9), (14, 9), (14, 9), (14, 9), (14, 9), (14, 9), (3, 0), (14, 12), (14, 12), (14, 12), (14, 12), (9, 0), (14, 600), (14, 24), (14, 24), (14, 600), (14, 600), (14, 600), (14, 600), (0, 0), (14, 201), (14, 201), (14, 201), (17, 201), (14, 201), (14, 201), (7, 0), (17, 9), (14, 200), (14, 120), (14, 120), (14, 120), (6, 0), (14, 7), (14, 64), (5, 0), (16, 120), (14, 120), (14, 120), (14, 120), (14, 120), (14, 120), (14, 120), (16, 120), (14, 12), (14, 12), (14, 12), (2, 0), (16, 201), (14, 201), (14, 201), (14, 9), (14, 200), (15, 200), (5, 0), (16, 120), (14, 120), (14, 120), (14, 120), (14, 120), (14, 120), (14, 120), (16, 120), (14, 12), (14, 12), (14, 12), (2, 0), (16, 201), (14, 201), (14, 201), (14, 9), (14, 200), (15, 200), (4, 0), (19, 9), (15, 10), (15, 10), (15, 10), (15, 10), (15, 10), (15, 10), (15, 10), (15, 10), (15, 10), (19, 9), (15, 10), (15, 10), (15, 10), (15, 10), (15, 10), (15, 10), (15, 10), (15, 10), (15, 10), (19, 9), (15, 10), (15, 10), (15, 10), (15, 10), (15, 10), (15, 10), (15, 10), (15, 10), (15, 10), (8, 0), (14, 8), (14, 3), (14, 3), (12, 0), (14, 600), (13, 5), (13, 4), (13, 4), (13, 3), (13, 7), (13, 6), (13, 5), (13, 5), (13, 5), (13, 2), (13, 3), (13, 3), (13, 3), (13, 6), (13, 4), (13, 5), (13, 5), (13, 3), (13, 4), (13, 6), (13, 4), (13, 3), (13, 3), (14, 201), (14, 4824), (14, 4824), (14, 4824), (14, 128640), (14, 700), (14, 120), (14, 120), (14, 120), (16, 120), (16, 120), (14, 6), (14, 121), (14, 121), (16, 121), (14, 9), (14, 12), (14, 12), (14, 12), (14, 12), (14, 81), (14, 8), (14, 201), (14, 201), (14, 201), (14, 201), (14, 201), (15, 700), (14, 120), (14, 120), (14, 120), (14, 120), (14, 120), (16, 120), (14, 120), (14, 12), (14, 12), (14, 12), (14, 201), (14, 201), (14, 201), (16, 201), (15, 201), (16, 120), (14, 120), (14, 120), (14, 120), (14, 120), (14, 120), (14, 120), (14, 12), (14, 12), (14, 12), (16, 201), (14, 201), (14, 201), (14, 9), (15, 90), (15, 90), (15, 90), (14, 3)]
def gr_rl : List (Nat × Nat × Nat) := [(1, 3, 2), (1, 4, 3), (1, 5, 4), (1, 6, 5), (1, 7, 6), (1, 8, 7), (1, 9, 8), (9, 0, 10), (9, 1, 11), (9, 2, 12), (9, 3, 13), (9, 4, 14), (9, 5, 15), (9, 6, 16), (9, 7, 17), (9, 8, 18), (9, 9, 19), (9, 10, 20), (9, 11, 21), (9, 12, 22), (9, 13, 23), (9, 14, 24), (9, 15, 25), (9, 16, 26), (9, 17, 27), (9, 18, 28), (9, 19, 29), (9, 20, 30), (9, 21, 31), (9, 22, 32), (9, 23, 33), (9, 24, 34), (9, 25, 35), (9, 26, 36), (9, 27, 37), (9, 28, 38), (9, 29, 39), (9, 30, 40), (9, 31, 41), (9, 32, 42), (9, 33, 43), (9, 34, 44), (9, 35, 45), (9, 36, 46), (9, 37, 47), (9, 38, 48), (9, 39, 49), (9, 40, 50), (9, 41, 51), (9, 42, 52), (9, 43, 53), (9, 44, 54), (9, 45, 55), (9, 46, 56), (9, 47, 57), (9, 48, 58), (9, 49, 59), (9, 50, 60), (9, 51, 61), (9, 52, 62), (9, 53, 63), (9, 54, 64), (9, 55, 65), (9, 56, 66), (9, 57, 67), (9, 58, 68), (9, 59, 69), (9, 60, 70), (9, 61, 71), (9, 62, 72), (9, 63, 73), (9, 64, 74), (9, 65, 75), (9, 66, 76), (9, 67, 77), (9, 68, 78), (9, 69, 79), (9, 70, 80), (9, 71, 81), (9, 72, 82), (9, 73, 83), (9, 74, 84), (9, 75, 85), (9, 76, 86), (9, 77, 87), (9, 78, 88), (9, 79, 89), (9, 80, 90), (9, 81, 91), (9, 82, 92), (9, 83, 93), (9, 84, 94), (9, 85, 95), (9, 86, 96), (9, 87, 97), (9, 88, 98), (9, 89, 99), (9, 90, 100), (9, 91, 101), (9, 92, 102), (9, 93, 103), (9, 94, 104), (9, 95, 105), (9, 96, 106), (9, 97, 107), (9, 98, 108), (9, 99, 109), (9, 100, 110), (9, 101, 111), (9, 102, 112), (9, 103, 113), (9, 104, 114), (9, 105, 115), (9, 106, 116), (9, 107, 117), (9, 108, 118), (9, 109, 119), (9, 110, 120), (9, 111, 121), (9, 112, 122), (9, 113, 123), (9, 114, 124), (9, 115, 125), (9, 116, 126), (9, 117, 127), (9, 118, 128), (9, 119, 129), (1, 10, 9), (1, 11, 130), (1, 12, 131), (1, 13, 132), (1, 14, 133), (1, 15, 134), (135, 0, 136), (135, 1, 137), (135, 2, 138), (135, 3, 139), (135, 4, 140), (135, 5, 141), (135, 6, 142), (135, 7, 143), (135, 8, 144), (1, 16, 135), (0, 0, 1), (145, 1, 146), (145, 2, 147), (145, 3, 148), (145, 4, 149), (0, 1, 145), (150, 5, 151), (150, 6, 152), (150, 7, 153), (150, 8, 154), (150, 9, 155), (150, 10, 156), (150, 11, 157), (0, 2, 150), (158, 2, 159), (158, 3, 160), (158, 4, 161), (158, 5, 162), (158, 6, 163), (158, 7, 164), (0, 3, 158), (165, 1, 166), (165, 2, 167), (165, 3, 168), (165, 4, 169), (165, 5, 170), (0, 4, 165), (171, 2, 172), (171, 3, 173), (171, 0, 1), (171, 1, 165), (0, 5, 171), (174, 3, 175), (174, 4, 176), (174, 7, 177), (174, 8, 178), (174, 9, 179), (174, 10, 180), (174, 11, 181), (174, 12, 182), (174, 13, 183), (174, 14, 184), (174, 15, 185), (174, 5, 1), (174, 6, 145), (0, 6, 174), (186, 0, 187), (186, 1, 188), (186, 2, 189), (186, 3, 190), (186, 7, 191), (186, 8, 192), (186, 4, 158), (186, 5, 165), (186, 6, 171), (0, 7, 186), (193, 3, 194), (193, 4, 195), (193, 7, 196), (193, 8, 197), (193, 9, 198), (193, 10, 199), (193, 11, 200), (193, 12, 201), (193, 13, 202), (193, 14, 203), (193, 15, 204), (193, 5, 1), (193, 6, 145), (0, 8, 193), (205, 0, 206), (205, 1, 207), (205, 2, 208), (205, 3, 209), (205, 7, 210), (205, 8, 211), (205, 4, 158), (205, 5, 165), (205, 6, 171), (0, 9, 205), (213, 0, 214), (213, 1, 215), (213, 2, 216), (213, 3, 217), (213, 4, 218), (213, 5, 219), (213, 6, 220), (213, 7, 221), (213, 8, 222), (212, 1, 213), (223, 0, 224), (223, 1, 225), (223, 2, 226), (223, 3, 227), (223, 4, 228), (223, 5, 229), (223, 6, 230), (223, 7, 231), (223, 8, 232), (212, 2, 223), (233, 0, 234), (233, 1, 235), (233, 2, 236), (233, 3, 237), (233, 4, 238), (233, 5, 239), (233, 6, 240), (233, 7, 241), (233, 8, 242), (212, 3, 233), (0, 10, 212), (243, 2, 244), (243, 3, 245), (243, 6, 246), (243, 4, 145), (243, 5, 193), (0, 11, 243), (247, 0, 248), (247, 9, 249), (247, 10, 250), (247, 11, 251), (247, 12, 252), (247, 13, 253), (247, 14, 254), (247, 15, 255), (247, 16, 256), (247, 17, 257), (247, 18, 258), (247, 19, 259), (247, 20, 260), (247, 21, 261), (247, 22, 262), (247, 23, 263), (247, 24, 264), (247, 25, 265), (247, 26, 266), (247, 27, 267), (247, 28, 268), (247, 29, 269), (247, 30, 270), (247, 31, 271), (247, 32, 272), (247, 33, 273), (247, 34, 274), (247, 35, 275), (247, 36, 276), (247, 38, 277), (247, 44, 278), (247, 45, 279), (247, 46, 280), (247, 47, 281), (247, 48, 282), (247, 49, 283), (247, 50, 284), (247, 51, 285), (247, 52, 286), (247, 53, 287), (247, 55, 288), (247, 56, 289), (247, 57, 290), (247, 58, 291), (247, 59, 292), (247, 61, 293), (247, 63, 294), (247, 64, 295), (247, 65, 296), (247, 66, 297), (247, 67, 298), (247, 69, 299), (247, 75, 300), (247, 76, 301), (247, 77, 302), (247, 78, 303), (247, 79, 304), (247, 80, 305), (247, 81, 306), (247, 82, 307), (247, 83, 308), (247, 84, 309), (247, 85, 310), (247, 86, 311), (247, 87, 312), (247, 88, 313), (247, 89, 314), (247, 93, 315), (247, 94, 316), (247, 95, 317), (247, 96, 318), (247, 97, 319), (247, 98, 320), (247, 99, 321), (247, 100, 322), (247, 101, 323), (247, 102, 324), (247, 104, 325), (247, 105, 326), (247, 106, 327), (247, 107, 328), (247, 108, 329), (247, 109, 330), (247, 110, 331), (247, 113, 332)]
def gr (h : hp_T) : Prop := 333 ≤ hp_n h ∧ (∀ (a : Nat) (q : Nat × Nat), gr_tl[a]? = some q → hp_tag h a = q.1 ∧ hp_len h a = q.2) ∧ ∀ (i : Nat) (q : Nat × Nat × Nat), gr_rl[i]? = some q → hp_r h q.1 q.2.1 = some q.2.2
theorem gt_0 {h : hp_T} (g : gr h) : hp_tag h 0 = 11 := (g.2.1 0 (11, 0) rfl).1
theorem gt_1 {h : hp_T} (g : gr h) : hp_tag h 1 = 1 := (g.2.1 1 (1, 0) rfl).1
theorem gt_2 {h : hp_T} (g : gr h) : hp_tag h 2 = 16 := (g.2.1 2 (16, 120) rfl).1
theorem gl_2 {h : hp_T} (g : gr h) : hp_len h 2 = 120 := (g.2.1 2 (16, 120) rfl).2
theorem gt_3 {h : hp_T} (g : gr h) : hp_tag h 3 = 14 := (g.2.1 3 (14, 120) rfl).1
theorem gl_3 {h : hp_T} (g : gr h) : hp_len h 3 = 120 := (g.2.1 3 (14, 120) rfl).2
theorem gt_4 {h : hp_T} (g : gr h) : hp_tag h 4 = 14 := (g.2.1 4 (14, 120) rfl).1
theorem gl_4 {h : hp_T} (g : gr h) : hp_len h 4 = 120 := (g.2.1 4 (14, 120) rfl).2
theorem gt_5 {h : hp_T} (g : gr h) : hp_tag h 5 = 14 := (g.2.1 5 (14, 120) rfl).1
theorem gl_5 {h : hp_T} (g : gr h) : hp_len h 5 = 120 := (g.2.1 5 (14, 120) rfl).2
theorem gt_6 {h : hp_T} (g : gr h) : hp_tag h 6 = 16 := (g.2.1 6 (16, 120) rfl).1
theorem gl_6 {h : hp_T} (g : gr h) : hp_len h 6 = 120 := (g.2.1 6 (16, 120) rfl).2
theorem gt_7 {h : hp_T} (g : gr h) : hp_tag h 7 = 14 := (g.2.1 7 (14, 120) rfl).1
theorem gl_7 {h : hp_T} (g : gr h) : hp_len h 7 = 120 := (g.2.1 7 (14, 120) rfl).2
theorem gt_8 {h : hp_T} (g : gr h) : hp_tag h 8 = 14 := (g.2.1 8 (14, 120) rfl).1
theorem gl_8 {h : hp_T} (g : gr h) : hp_len h 8 = 120 := (g.2.1 8 (14, 120) rfl).2
theorem gt_9 {h : hp_T} (g : gr h) : hp_tag h 9 = 18 := (g.2.1 9 (18, 120) rfl).1
theorem gl_9 {h : hp_T} (g : gr h) : hp_len h 9 = 120 := (g.2.1 9 (18, 120) rfl).2
theorem gt_10 {h : hp_T} (g : gr h) : hp_tag h 10 = 14 := (g.2.1 10 (14, 8) rfl).1
theorem gl_10 {h : hp_T} (g : gr h) : hp_len h 10 = 8 := (g.2.1 10 (14, 8) rfl).2
theorem gt_11 {h : hp_T} (g : gr h) : hp_tag h 11 = 14 := (g.2.1 11 (14, 8) rfl).1
theorem gl_11 {h : hp_T} (g : gr h) : hp_len h 11 = 8 := (g.2.1 11 (14, 8) rfl).2
theorem gt_12 {h : hp_T} (g : gr h) : hp_tag h 12 = 14 := (g.2.1 12 (14, 8) rfl).1
theorem gl_12 {h : hp_T} (g : gr h) : hp_len h 12 = 8 := (g.2.1 12 (14, 8) rfl).2
theorem gt_13 {h : hp_T} (g : gr h) : hp_tag h 13 = 14 := (g.2.1 13 (14, 8) rfl).1
theorem gl_13 {h : hp_T} (g : gr h) : hp_len h 13 = 8 := (g.2.1 13 (14, 8) rfl).2
theorem gt_14 {h : hp_T} (g : gr h) : hp_tag h 14 = 14 := (g.2.1 14 (14, 8) rfl).1
theorem gl_14 {h : hp_T} (g : gr h) : hp_len h 14 = 8 := (g.2.1 14 (14, 8) rfl).2
theorem gt_15 {h : hp_T} (g : gr h) : hp_tag h 15 = 14 := (g.2.1 15 (14, 8) rfl).1
theorem gl_15 {h : hp_T} (g : gr h) : hp_len h 15 = 8 := (g.2.1 15 (14, 8) rfl).2
theorem gt_16 {h : hp_T} (g : gr h) : hp_tag h 16 = 14 := (g.2.1 16 (14, 8) rfl).1
theorem gl_16 {h : hp_T} (g : gr h) : hp_len h 16 = 8 := (g.2.1 16 (14, 8) rfl).2
theorem gt_17 {h : hp_T} (g : gr h) : hp_tag h 17 = 14 := (g.2.1 17 (14, 8) rfl).1
theorem gl_17 {h : hp_T} (g : gr h) : hp_len h 17 = 8 := (g.2.1 17 (14, 8) rfl).2
theorem gt_18 {h : hp_T} (g : gr h) : hp_tag h 18 = 14 := (g.2.1 18 (14, 8) rfl).1
theorem gl_18 {h : hp_T} (g : gr h) : hp_len h 18 = 8 := (g.2.1 18 (14, 8) rfl).2
theorem gt_19 {h : hp_T} (g : gr h) : hp_tag h 19 = 14 := (g.2.1 19 (14, 8) rfl).1
theorem gl_19 {h : hp_T} (g : gr h) : hp_len h 19 = 8 := (g.2.1 19 (14, 8) rfl).2
theorem gt_20 {h : hp_T} (g : gr h) : hp_tag h 20 = 14 := (g.2.1 20 (14, 8) rfl).1
theorem gl_20 {h : hp_T} (g : gr h) : hp_len h 20 = 8 := (g.2.1 20 (14, 8) rfl).2
theorem gt_21 {h : hp_T} (g : gr h) : hp_tag h 21 = 14 := (g.2.1 21 (14, 8) rfl).1
theorem gl_21 {h : hp_T} (g : gr h) : hp_len h 21 = 8 := (g.2.1 21 (14, 8) rfl).2
theorem gt_22 {h : hp_T} (g : gr h) : hp_tag h 22 = 14 := (g.2.1 22 (14, 8) rfl).1
theorem gl_22 {h : hp_T} (g : gr h) : hp_len h 22 = 8 := (g.2.1 22 (14, 8) rfl).2
theorem gt_23 {h : hp_T} (g : gr h) : hp_tag h 23 = 14 := (g.2.1 23 (14, 8) rfl).1
theorem gl_23 {h : hp_T} (g : gr h) : hp_len h 23 = 8 := (g.2.1 23 (14, 8) rfl).2
theorem gt_24 {h : hp_T} (g : gr h) : hp_tag h 24 = 14 := (g.2.1 24 (14, 8) rfl).1
theorem gl_24 {h : hp_T} (g : gr h) : hp_len h 24 = 8 := (g.2.1 24 (14, 8) rfl).2
theorem gt_25 {h : hp_T} (g : gr h) : hp_tag h 25 = 14 := (g.2.1 25 (14, 8) rfl).1
theorem gl_25 {h : hp_T} (g : gr h) : hp_len h 25 = 8 := (g.2.1 25 (14, 8) rfl).2
theorem gt_26 {h : hp_T} (g : gr h) : hp_tag h 26 = 14 := (g.2.1 26 (14, 8) rfl).1
theorem gl_26 {h : hp_T} (g : gr h) : hp_len h 26 = 8 := (g.2.1 26 (14, 8) rfl).2
theorem gt_27 {h : hp_T} (g : gr h) : hp_tag h 27 = 14 := (g.2.1 27 (14, 8) rfl).1
theorem gl_27 {h : hp_T} (g : gr h) : hp_len h 27 = 8 := (g.2.1 27 (14, 8) rfl).2
theorem gt_28 {h : hp_T} (g : gr h) : hp_tag h 28 = 14 := (g.2.1 28 (14, 8) rfl).1
theorem gl_28 {h : hp_T} (g : gr h) : hp_len h 28 = 8 := (g.2.1 28 (14, 8) rfl).2
theorem gt_29 {h : hp_T} (g : gr h) : hp_tag h 29 = 14 := (g.2.1 29 (14, 8) rfl).1
theorem gl_29 {h : hp_T} (g : gr h) : hp_len h 29 = 8 := (g.2.1 29 (14, 8) rfl).2
theorem gt_30 {h : hp_T} (g : gr h) : hp_tag h 30 = 14 := (g.2.1 30 (14, 8) rfl).1
theorem gl_30 {h : hp_T} (g : gr h) : hp_len h 30 = 8 := (g.2.1 30 (14, 8) rfl).2
theorem gt_31 {h : hp_T} (g : gr h) : hp_tag h 31 = 14 := (g.2.1 31 (14, 8) rfl).1
theorem gl_31 {h : hp_T} (g : gr h) : hp_len h 31 = 8 := (g.2.1 31 (14, 8) rfl).2
theorem gt_32 {h : hp_T} (g : gr h) : hp_tag h 32 = 14 := (g.2.1 32 (14, 8) rfl).1
theorem gl_32 {h : hp_T} (g : gr h) : hp_len h 32 = 8 := (g.2.1 32 (14, 8) rfl).2
theorem gt_33 {h : hp_T} (g : gr h) : hp_tag h 33 = 14 := (g.2.1 33 (14, 8) rfl).1
theorem gl_33 {h : hp_T} (g : gr h) : hp_len h 33 = 8 := (g.2.1 33 (14, 8) rfl).2
theorem gt_34 {h : hp_T} (g : gr h) : hp_tag h 34 = 14 := (g.2.1 34 (14, 8) rfl).1
theorem gl_34 {h : hp_T} (g : gr h) : hp_len h 34 = 8 := (g.2.1 34 (14, 8) rfl).2
theorem gt_35 {h : hp_T} (g : gr h) : hp_tag h 35 = 14 := (g.2.1 35 (14, 8) rfl).1
theorem gl_35 {h : hp_T} (g : gr h) : hp_len h 35 = 8 := (g.2.1 35 (14, 8) rfl).2
theorem gt_36 {h : hp_T} (g : gr h) : hp_tag h 36 = 14 := (g.2.1 36 (14, 8) rfl).1
theorem gl_36 {h : hp_T} (g : gr h) : hp_len h 36 = 8 := (g.2.1 36 (14, 8) rfl).2
theorem gt_37 {h : hp_T} (g : gr h) : hp_tag h 37 = 14 := (g.2.1 37 (14, 8) rfl).1
theorem gl_37 {h : hp_T} (g : gr h) : hp_len h 37 = 8 := (g.2.1 37 (14, 8) rfl).2
theorem gt_38 {h : hp_T} (g : gr h) : hp_tag h 38 = 14 := (g.2.1 38 (14, 8) rfl).1
theorem gl_38 {h : hp_T} (g : gr h) : hp_len h 38 = 8 := (g.2.1 38 (14, 8) rfl).2
theorem gt_39 {h : hp_T} (g : gr h) : hp_tag h 39 = 14 := (g.2.1 39 (14, 8) rfl).1
theorem gl_39 {h : hp_T} (g : gr h) : hp_len h 39 = 8 := (g.2.1 39 (14, 8) rfl).2
theorem gt_40 {h : hp_T} (g : gr h) : hp_tag h 40 = 14 := (g.2.1 40 (14, 8) rfl).1
theorem gl_40 {h : hp_T} (g : gr h) : hp_len h 40 = 8 := (g.2.1 40 (14, 8) rfl).2
theorem gt_41 {h : hp_T} (g : gr h) : hp_tag h 41 = 14 := (g.2.1 41 (14, 8) rfl).1
theorem gl_41 {h : hp_T} (g : gr h) : hp_len h 41 = 8 := (g.2.1 41 (14, 8) rfl).2
theorem gt_42 {h : hp_T} (g : gr h) : hp_tag h 42 = 14 := (g.2.1 42 (14, 8) rfl).1
theorem gl_42 {h : hp_T} (g : gr h) : hp_len h 42 = 8 := (g.2.1 42 (14, 8) rfl).2
theorem gt_43 {h : hp_T} (g : gr h) : hp_tag h 43 = 14 := (g.2.1 43 (14, 8) rfl).1
theorem gl_43 {h : hp_T} (g : gr h) : hp_len h 43 = 8 := (g.2.1 43 (14, 8) rfl).2
theorem gt_44 {h : hp_T} (g : gr h) : hp_tag h 44 = 14 := (g.2.1 44 (14, 8) rfl).1
theorem gl_44 {h : hp_T} (g : gr h) : hp_len h 44 = 8 := (g.2.1 44 (14, 8) rfl).2
theorem gt_45 {h : hp_T} (g : gr h) : hp_tag h 45 = 14 := (g.2.1 45 (14, 8) rfl).1
theorem gl_45 {h : hp_T} (g : gr h) : hp_len h 45 = 8 := (g.2.1 45 (14, 8) rfl).2
theorem gt_46 {h : hp_T} (g : gr h) : hp_tag h 46 = 14 := (g.2.1 46 (14, 8) rfl).1
theorem gl_46 {h : hp_T} (g : gr h) : hp_len h 46 = 8 := (g.2.1 46 (14, 8) rfl).2
theorem gt_47 {h : hp_T} (g : gr h) : hp_tag h 47 = 14 := (g.2.1 47 (14, 8) rfl).1
theorem gl_47 {h : hp_T} (g : gr h) : hp_len h 47 = 8 := (g.2.1 47 (14, 8) rfl).2
theorem gt_48 {h : hp_T} (g : gr h) : hp_tag h 48 = 14 := (g.2.1 48 (14, 8) rfl).1
theorem gl_48 {h : hp_T} (g : gr h) : hp_len h 48 = 8 := (g.2.1 48 (14, 8) rfl).2
theorem gt_49 {h : hp_T} (g : gr h) : hp_tag h 49 = 14 := (g.2.1 49 (14, 8) rfl).1
theorem gl_49 {h : hp_T} (g : gr h) : hp_len h 49 = 8 := (g.2.1 49 (14, 8) rfl).2
theorem gt_50 {h : hp_T} (g : gr h) : hp_tag h 50 = 14 := (g.2.1 50 (14, 8) rfl).1
theorem gl_50 {h : hp_T} (g : gr h) : hp_len h 50 = 8 := (g.2.1 50 (14, 8) rfl).2
theorem gt_51 {h : hp_T} (g : gr h) : hp_tag h 51 = 14 := (g.2.1 51 (14, 8) rfl).1
theorem gl_51 {h : hp_T} (g : gr h) : hp_len h 51 = 8 := (g.2.1 51 (14, 8) rfl).2
theorem gt_52 {h : hp_T} (g : gr h) : hp_tag h 52 = 14 := (g.2.1 52 (14, 8) rfl).1
theorem gl_52 {h : hp_T} (g : gr h) : hp_len h 52 = 8 := (g.2.1 52 (14, 8) rfl).2
theorem gt_53 {h : hp_T} (g : gr h) : hp_tag h 53 = 14 := (g.2.1 53 (14, 8) rfl).1
theorem gl_53 {h : hp_T} (g : gr h) : hp_len h 53 = 8 := (g.2.1 53 (14, 8) rfl).2
theorem gt_54 {h : hp_T} (g : gr h) : hp_tag h 54 = 14 := (g.2.1 54 (14, 8) rfl).1
theorem gl_54 {h : hp_T} (g : gr h) : hp_len h 54 = 8 := (g.2.1 54 (14, 8) rfl).2
theorem gt_55 {h : hp_T} (g : gr h) : hp_tag h 55 = 14 := (g.2.1 55 (14, 8) rfl).1
theorem gl_55 {h : hp_T} (g : gr h) : hp_len h 55 = 8 := (g.2.1 55 (14, 8) rfl).2
theorem gt_56 {h : hp_T} (g : gr h) : hp_tag h 56 = 14 := (g.2.1 56 (14, 8) rfl).1
theorem gl_56 {h : hp_T} (g : gr h) : hp_len h 56 = 8 := (g.2.1 56 (14, 8) rfl).2
theorem gt_57 {h : hp_T} (g : gr h) : hp_tag h 57 = 14 := (g.2.1 57 (14, 8) rfl).1
theorem gl_57 {h : hp_T} (g : gr h) : hp_len h 57 = 8 := (g.2.1 57 (14, 8) rfl).2
theorem gt_58 {h : hp_T} (g : gr h) : hp_tag h 58 = 14 := (g.2.1 58 (14, 8) rfl).1
theorem gl_58 {h : hp_T} (g : gr h) : hp_len h 58 = 8 := (g.2.1 58 (14, 8) rfl).2
theorem gt_59 {h : hp_T} (g : gr h) : hp_tag h 59 = 14 := (g.2.1 59 (14, 8) rfl).1
theorem gl_59 {h : hp_T} (g : gr h) : hp_len h 59 = 8 := (g.2.1 59 (14, 8) rfl).2
theorem gt_60 {h : hp_T} (g : gr h) : hp_tag h 60 = 14 := (g.2.1 60 (14, 8) rfl).1
theorem gl_60 {h : hp_T} (g : gr h) : hp_len h 60 = 8 := (g.2.1 60 (14, 8) rfl).2
theorem gt_61 {h : hp_T} (g : gr h) : hp_tag h 61 = 14 := (g.2.1 61 (14, 8) rfl).1
theorem gl_61 {h : hp_T} (g : gr h) : hp_len h 61 = 8 := (g.2.1 61 (14, 8) rfl).2
theorem gt_62 {h : hp_T} (g : gr h) : hp_tag h 62 = 14 := (g.2.1 62 (14, 8) rfl).1
theorem gl_62 {h : hp_T} (g : gr h) : hp_len h 62 = 8 := (g.2.1 62 (14, 8) rfl).2
theorem gt_63 {h : hp_T} (g : gr h) : hp_tag h 63 = 14 := (g.2.1 63 (14, 8) rfl).1
theorem gl_63 {h : hp_T} (g : gr h) : hp_len h 63 = 8 := (g.2.1 63 (14, 8) rfl).2
theorem gt_64 {h : hp_T} (g : gr h) : hp_tag h 64 = 14 := (g.2.1 64 (14, 8) rfl).1
theorem gl_64 {h : hp_T} (g : gr h) : hp_len h 64 = 8 := (g.2.1 64 (14, 8) rfl).2
theorem gt_65 {h : hp_T} (g : gr h) : hp_tag h 65 = 14 := (g.2.1 65 (14, 8) rfl).1
theorem gl_65 {h : hp_T} (g : gr h) : hp_len h 65 = 8 := (g.2.1 65 (14, 8) rfl).2
theorem gt_66 {h : hp_T} (g : gr h) : hp_tag h 66 = 14 := (g.2.1 66 (14, 8) rfl).1
theorem gl_66 {h : hp_T} (g : gr h) : hp_len h 66 = 8 := (g.2.1 66 (14, 8) rfl).2
theorem gt_67 {h : hp_T} (g : gr h) : hp_tag h 67 = 14 := (g.2.1 67 (14, 8) rfl).1
theorem gl_67 {h : hp_T} (g : gr h) : hp_len h 67 = 8 := (g.2.1 67 (14, 8) rfl).2
theorem gt_68 {h : hp_T} (g : gr h) : hp_tag h 68 = 14 := (g.2.1 68 (14, 8) rfl).1
theorem gl_68 {h : hp_T} (g : gr h) : hp_len h 68 = 8 := (g.2.1 68 (14, 8) rfl).2
theorem gt_69 {h : hp_T} (g : gr h) : hp_tag h 69 = 14 := (g.2.1 69 (14, 8) rfl).1
theorem gl_69 {h : hp_T} (g : gr h) : hp_len h 69 = 8 := (g.2.1 69 (14, 8) rfl).2
theorem gt_70 {h : hp_T} (g : gr h) : hp_tag h 70 = 14 := (g.2.1 70 (14, 8) rfl).1
theorem gl_70 {h : hp_T} (g : gr h) : hp_len h 70 = 8 := (g.2.1 70 (14, 8) rfl).2
theorem gt_71 {h : hp_T} (g : gr h) : hp_tag h 71 = 14 := (g.2.1 71 (14, 8) rfl).1
theorem gl_71 {h : hp_T} (g : gr h) : hp_len h 71 = 8 := (g.2.1 71 (14, 8) rfl).2
theorem gt_72 {h : hp_T} (g : gr h) : hp_tag h 72 = 14 := (g.2.1 72 (14, 8) rfl).1
theorem gl_72 {h : hp_T} (g : gr h) : hp_len h 72 = 8 := (g.2.1 72 (14, 8) rfl).2
theorem gt_73 {h : hp_T} (g : gr h) : hp_tag h 73 = 14 := (g.2.1 73 (14, 8) rfl).1
theorem gl_73 {h : hp_T} (g : gr h) : hp_len h 73 = 8 := (g.2.1 73 (14, 8) rfl).2
theorem gt_74 {h : hp_T} (g : gr h) : hp_tag h 74 = 14 := (g.2.1 74 (14, 8) rfl).1
theorem gl_74 {h : hp_T} (g : gr h) : hp_len h 74 = 8 := (g.2.1 74 (14, 8) rfl).2
theorem gt_75 {h : hp_T} (g : gr h) : hp_tag h 75 = 14 := (g.2.1 75 (14, 8) rfl).1
theorem gl_75 {h : hp_T} (g : gr h) : hp_len h 75 = 8 := (g.2.1 75 (14, 8) rfl).2
theorem gt_76 {h : hp_T} (g : gr h) : hp_tag h 76 = 14 := (g.2.1 76 (14, 8) rfl).1
theorem gl_76 {h : hp_T} (g : gr h) : hp_len h 76 = 8 := (g.2.1 76 (14, 8) rfl).2
theorem gt_77 {h : hp_T} (g : gr h) : hp_tag h 77 = 14 := (g.2.1 77 (14, 8) rfl).1
theorem gl_77 {h : hp_T} (g : gr h) : hp_len h 77 = 8 := (g.2.1 77 (14, 8) rfl).2
theorem gt_78 {h : hp_T} (g : gr h) : hp_tag h 78 = 14 := (g.2.1 78 (14, 8) rfl).1
theorem gl_78 {h : hp_T} (g : gr h) : hp_len h 78 = 8 := (g.2.1 78 (14, 8) rfl).2
theorem gt_79 {h : hp_T} (g : gr h) : hp_tag h 79 = 14 := (g.2.1 79 (14, 8) rfl).1
theorem gl_79 {h : hp_T} (g : gr h) : hp_len h 79 = 8 := (g.2.1 79 (14, 8) rfl).2
theorem gt_80 {h : hp_T} (g : gr h) : hp_tag h 80 = 14 := (g.2.1 80 (14, 8) rfl).1
theorem gl_80 {h : hp_T} (g : gr h) : hp_len h 80 = 8 := (g.2.1 80 (14, 8) rfl).2
theorem gt_81 {h : hp_T} (g : gr h) : hp_tag h 81 = 14 := (g.2.1 81 (14, 8) rfl).1
theorem gl_81 {h : hp_T} (g : gr h) : hp_len h 81 = 8 := (g.2.1 81 (14, 8) rfl).2
theorem gt_82 {h : hp_T} (g : gr h) : hp_tag h 82 = 14 := (g.2.1 82 (14, 8) rfl).1
theorem gl_82 {h : hp_T} (g : gr h) : hp_len h 82 = 8 := (g.2.1 82 (14, 8) rfl).2
theorem gt_83 {h : hp_T} (g : gr h) : hp_tag h 83 = 14 := (g.2.1 83 (14, 8) rfl).1
theorem gl_83 {h : hp_T} (g : gr h) : hp_len h 83 = 8 := (g.2.1 83 (14, 8) rfl).2
theorem gt_84 {h : hp_T} (g : gr h) : hp_tag h 84 = 14 := (g.2.1 84 (14, 8) rfl).1
theorem gl_84 {h : hp_T} (g : gr h) : hp_len h 84 = 8 := (g.2.1 84 (14, 8) rfl).2
theorem gt_85 {h : hp_T} (g : gr h) : hp_tag h 85 = 14 := (g.2.1 85 (14, 8) rfl).1
theorem gl_85 {h : hp_T} (g : gr h) : hp_len h 85 = 8 := (g.2.1 85 (14, 8) rfl).2
theorem gt_86 {h : hp_T} (g : gr h) : hp_tag h 86 = 14 := (g.2.1 86 (14, 8) rfl).1
theorem gl_86 {h : hp_T} (g : gr h) : hp_len h 86 = 8 := (g.2.1 86 (14, 8) rfl).2
theorem gt_87 {h : hp_T} (g : gr h) : hp_tag h 87 = 14 := (g.2.1 87 (14, 8) rfl).1
theorem gl_87 {h : hp_T} (g : gr h) : hp_len h 87 = 8 := (g.2.1 87 (14, 8) rfl).2
theorem gt_88 {h : hp_T} (g : gr h) : hp_tag h 88 = 14 := (g.2.1 88 (14, 8) rfl).1
theorem gl_88 {h : hp_T} (g : gr h) : hp_len h 88 = 8 := (g.2.1 88 (14, 8) rfl).2
theorem gt_89 {h : hp_T} (g : gr h) : hp_tag h 89 = 14 := (g.2.1 89 (14, 8) rfl).1
theorem gl_89 {h : hp_T} (g : gr h) : hp_len h 89 = 8 := (g.2.1 89 (14, 8) rfl).2
theorem gt_90 {h : hp_T} (g : gr h) : hp_tag h 90 = 14 := (g.2.1 90 (14, 8) rfl).1
theorem gl_90 {h : hp_T} (g : gr h) : hp_len h 90 = 8 := (g.2.1 90 (14, 8) rfl).2
theorem gt_91 {h : hp_T} (g : gr h) : hp_tag h 91 = 14 := (g.2.1 91 (14, 8) rfl).1
theorem gl_91 {h : hp_T} (g : gr h) : hp_len h 91 = 8 := (g.2.1 91 (14, 8) rfl).2
theorem gt_92 {h : hp_T} (g : gr h) : hp_tag h 92 = 14 := (g.2.1 92 (14, 8) rfl).1
theorem gl_92 {h : hp_T} (g : gr h) : hp_len h 92 = 8 := (g.2.1 92 (14, 8) rfl).2
theorem gt_93 {h : hp_T} (g : gr h) : hp_tag h 93 = 14 := (g.2.1 93 (14, 8) rfl).1
theorem gl_93 {h : hp_T} (g : gr h) : hp_len h 93 = 8 := (g.2.1 93 (14, 8) rfl).2
theorem gt_94 {h : hp_T} (g : gr h) : hp_tag h 94 = 14 := (g.2.1 94 (14, 8) rfl).1
theorem gl_94 {h : hp_T} (g : gr h) : hp_len h 94 = 8 := (g.2.1 94 (14, 8) rfl).2
theorem gt_95 {h : hp_T} (g : gr h) : hp_tag h 95 = 14 := (g.2.1 95 (14, 8) rfl).1
theorem gl_95 {h : hp_T} (g : gr h) : hp_len h 95 = 8 := (g.2.1 95 (14, 8) rfl).2
theorem gt_96 {h : hp_T} (g : gr h) : hp_tag h 96 = 14 := (g.2.1 96 (14, 8) rfl).1
theorem gl_96 {h : hp_T} (g : gr h) : hp_len h 96 = 8 := (g.2.1 96 (14, 8) rfl).2
theorem gt_97 {h : hp_T} (g : gr h) : hp_tag h 97 = 14 := (g.2.1 97 (14, 8) rfl).1
theorem gl_97 {h : hp_T} (g : gr h) : hp_len h 97 = 8 := (g.2.1 97 (14, 8) rfl).2
theorem gt_98 {h : hp_T} (g : gr h) : hp_tag h 98 = 14 := (g.2.1 98 (14, 8) rfl).1
theorem gl_98 {h : hp_T} (g : gr h) : hp_len h 98 = 8 := (g.2.1 98 (14, 8) rfl).2
theorem gt_99 {h : hp_T} (g : gr h) : hp_tag h 99 = 14 := (g.2.1 99 (14, 8) rfl).1
theorem gl_99 {h : hp_T} (g : gr h) : hp_len h 99 = 8 := (g.2.1 99 (14, 8) rfl).2
theorem gt_100 {h : hp_T} (g : gr h) : hp_tag h 100 = 14 := (g.2.1 100 (14, 8) rfl).1
theorem gl_100 {h : hp_T} (g : gr h) : hp_len h 100 = 8 := (g.2.1 100 (14, 8) rfl).2
theorem gt_101 {h : hp_T} (g : gr h) : hp_tag h 101 = 14 := (g.2.1 101 (14, 8) rfl).1
theorem gl_101 {h : hp_T} (g : gr h) : hp_len h 101 = 8 := (g.2.1 101 (14, 8) rfl).2
theorem gt_102 {h : hp_T} (g : gr h) : hp_tag h 102 = 14 := (g.2.1 102 (14, 8) rfl).1
theorem gl_102 {h : hp_T} (g : gr h) : hp_len h 102 = 8 := (g.2.1 102 (14, 8) rfl).2
theorem gt_103 {h : hp_T} (g : gr h) : hp_tag h 103 = 14 := (g.2.1 103 (14, 8) rfl).1
theorem gl_103 {h : hp_T} (g : gr h) : hp_len h 103 = 8 := (g.2.1 103 (14, 8) rfl).2
theorem gt_104 {h : hp_T} (g : gr h) : hp_tag h 104 = 14 := (g.2.1 104 (14, 8) rfl).1
theorem gl_104 {h : hp_T} (g : gr h) : hp_len h 104 = 8 := (g.2.1 104 (14, 8) rfl).2
theorem gt_105 {h : hp_T} (g : gr h) : hp_tag h 105 = 14 := (g.2.1 105 (14, 8) rfl).1
theorem gl_105 {h : hp_T} (g : gr h) : hp_len h 105 = 8 := (g.2.1 105 (14, 8) rfl).2
theorem gt_106 {h : hp_T} (g : gr h) : hp_tag h 106 = 14 := (g.2.1 106 (14, 8) rfl).1
theorem gl_106 {h : hp_T} (g : gr h) : hp_len h 106 = 8 := (g.2.1 106 (14, 8) rfl).2
theorem gt_107 {h : hp_T} (g : gr h) : hp_tag h 107 = 14 := (g.2.1 107 (14, 8) rfl).1
theorem gl_107 {h : hp_T} (g : gr h) : hp_len h 107 = 8 := (g.2.1 107 (14, 8) rfl).2
theorem gt_108 {h : hp_T} (g : gr h) : hp_tag h 108 = 14 := (g.2.1 108 (14, 8) rfl).1
theorem gl_108 {h : hp_T} (g : gr h) : hp_len h 108 = 8 := (g.2.1 108 (14, 8) rfl).2
theorem gt_109 {h : hp_T} (g : gr h) : hp_tag h 109 = 14 := (g.2.1 109 (14, 8) rfl).1
theorem gl_109 {h : hp_T} (g : gr h) : hp_len h 109 = 8 := (g.2.1 109 (14, 8) rfl).2
theorem gt_110 {h : hp_T} (g : gr h) : hp_tag h 110 = 14 := (g.2.1 110 (14, 8) rfl).1
theorem gl_110 {h : hp_T} (g : gr h) : hp_len h 110 = 8 := (g.2.1 110 (14, 8) rfl).2
theorem gt_111 {h : hp_T} (g : gr h) : hp_tag h 111 = 14 := (g.2.1 111 (14, 8) rfl).1
theorem gl_111 {h : hp_T} (g : gr h) : hp_len h 111 = 8 := (g.2.1 111 (14, 8) rfl).2
theorem gt_112 {h : hp_T} (g : gr h) : hp_tag h 112 = 14 := (g.2.1 112 (14, 8) rfl).1
theorem gl_112 {h : hp_T} (g : gr h) : hp_len h 112 = 8 := (g.2.1 112 (14, 8) rfl).2
theorem gt_113 {h : hp_T} (g : gr h) : hp_tag h 113 = 14 := (g.2.1 113 (14, 8) rfl).1
theorem gl_113 {h : hp_T} (g : gr h) : hp_len h 113 = 8 := (g.2.1 113 (14, 8) rfl).2
theorem gt_114 {h : hp_T} (g : gr h) : hp_tag h 114 = 14 := (g.2.1 114 (14, 8) rfl).1
theorem gl_114 {h : hp_T} (g : gr h) : hp_len h 114 = 8 := (g.2.1 114 (14, 8) rfl).2
theorem gt_115 {h : hp_T} (g : gr h) : hp_tag h 115 = 14 := (g.2.1 115 (14, 8) rfl).1
theorem gl_115 {h : hp_T} (g : gr h) : hp_len h 115 = 8 := (g.2.1 115 (14, 8) rfl).2
theorem gt_116 {h : hp_T} (g : gr h) : hp_tag h 116 = 14 := (g.2.1 116 (14, 8) rfl).1
theorem gl_116 {h : hp_T} (g : gr h) : hp_len h 116 = 8 := (g.2.1 116 (14, 8) rfl).2
theorem gt_117 {h : hp_T} (g : gr h) : hp_tag h 117 = 14 := (g.2.1 117 (14, 8) rfl).1
theorem gl_117 {h : hp_T} (g : gr h) : hp_len h 117 = 8 := (g.2.1 117 (14, 8) rfl).2
theorem gt_118 {h : hp_T} (g : gr h) : hp_tag h 118 = 14 := (g.2.1 118 (14, 8) rfl).1
theorem gl_118 {h : hp_T} (g : gr h) : hp_len h 118 = 8 := (g.2.1 118 (14, 8) rfl).2
theorem gt_119 {h : hp_T} (g : gr h) : hp_tag h 119 = 14 := (g.2.1 119 (14, 8) rfl).1
theorem gl_119 {h : hp_T} (g : gr h) : hp_len h 119 = 8 := (g.2.1 119 (14, 8) rfl).2
theorem gt_120 {h : hp_T} (g : gr h) : hp_tag h 120 = 14 := (g.2.1 120 (14, 8) rfl).1
theorem gl_120 {h : hp_T} (g : gr h) : hp_len h 120 = 8 := (g.2.1 120 (14, 8) rfl).2
theorem gt_121 {h : hp_T} (g : gr h) : hp_tag h 121 = 14 := (g.2.1 121 (14, 8) rfl).1
theorem gl_121 {h : hp_T} (g : gr h) : hp_len h 121 = 8 := (g.2.1 121 (14, 8) rfl).2
theorem gt_122 {h : hp_T} (g : gr h) : hp_tag h 122 = 14 := (g.2.1 122 (14, 8) rfl).1
theorem gl_122 {h : hp_T} (g : gr h) : hp_len h 122 = 8 := (g.2.1 122 (14, 8) rfl).2
theorem gt_123 {h : hp_T} (g : gr h) : hp_tag h 123 = 14 := (g.2.1 123 (14, 8) rfl).1
theorem gl_123 {h : hp_T} (g : gr h) : hp_len h 123 = 8 := (g.2.1 123 (14, 8) rfl).2
theorem gt_124 {h : hp_T} (g : gr h) : hp_tag h 124 = 14 := (g.2.1 124 (14, 8) rfl).1
theorem gl_124 {h : hp_T} (g : gr h) : hp_len h 124 = 8 := (g.2.1 124 (14, 8) rfl).2
theorem gt_125 {h : hp_T} (g : gr h) : hp_tag h 125 = 14 := (g.2.1 125 (14, 8) rfl).1
theorem gl_125 {h : hp_T} (g : gr h) : hp_len h 125 = 8 := (g.2.1 125 (14, 8) rfl).2
theorem gt_126 {h : hp_T} (g : gr h) : hp_tag h 126 = 14 := (g.2.1 126 (14, 8) rfl).1
theorem gl_126 {h : hp_T} (g : gr h) : hp_len h 126 = 8 := (g.2.1 126 (14, 8) rfl).2
theorem gt_127 {h : hp_T} (g : gr h) : hp_tag h 127 = 14 := (g.2.1 127 (14, 8) rfl).1
theorem gl_127 {h : hp_T} (g : gr h) : hp_len h 127 = 8 := (g.2.1 127 (14, 8) rfl).2
theorem gt_128 {h : hp_T} (g : gr h) : hp_tag h 128 = 14 := (g.2.1 128 (14, 8) rfl).1
theorem gl_128 {h : hp_T} (g : gr h) : hp_len h 128 = 8 := (g.2.1 128 (14, 8) rfl).2
theorem gt_129 {h : hp_T} (g : gr h) : hp_tag h 129 = 14 := (g.2.1 129 (14, 8) rfl).1
theorem gl_129 {h : hp_T} (g : gr h) : hp_len h 129 = 8 := (g.2.1 129 (14, 8) rfl).2
theorem gt_130 {h : hp_T} (g : gr h) : hp_tag h 130 = 14 := (g.2.1 130 (14, 6) rfl).1
theorem gl_130 {h : hp_T} (g : gr h) : hp_len h 130 = 6 := (g.2.1 130 (14, 6) rfl).2
theorem gt_131 {h : hp_T} (g : gr h) : hp_tag h 131 = 16 := (g.2.1 131 (16, 121) rfl).1
theorem gl_131 {h : hp_T} (g : gr h) : hp_len h 131 = 121 := (g.2.1 131 (16, 121) rfl).2
theorem gt_132 {h : hp_T} (g : gr h) : hp_tag h 132 = 14 := (g.2.1 132 (14, 121) rfl).1
theorem gl_132 {h : hp_T} (g : gr h) : hp_len h 132 = 121 := (g.2.1 132 (14, 121) rfl).2
theorem gt_133 {h : hp_T} (g : gr h) : hp_tag h 133 = 14 := (g.2.1 133 (14, 121) rfl).1
theorem gl_133 {h : hp_T} (g : gr h) : hp_len h 133 = 121 := (g.2.1 133 (14, 121) rfl).2
theorem gt_134 {h : hp_T} (g : gr h) : hp_tag h 134 = 14 := (g.2.1 134 (14, 9) rfl).1
theorem gl_134 {h : hp_T} (g : gr h) : hp_len h 134 = 9 := (g.2.1 134 (14, 9) rfl).2
theorem gt_135 {h : hp_T} (g : gr h) : hp_tag h 135 = 18 := (g.2.1 135 (18, 9) rfl).1
theorem gl_135 {h : hp_T} (g : gr h) : hp_len h 135 = 9 := (g.2.1 135 (18, 9) rfl).2
theorem gt_136 {h : hp_T} (g : gr h) : hp_tag h 136 = 14 := (g.2.1 136 (14, 9) rfl).1
theorem gl_136 {h : hp_T} (g : gr h) : hp_len h 136 = 9 := (g.2.1 136 (14, 9) rfl).2
theorem gt_137 {h : hp_T} (g : gr h) : hp_tag h 137 = 14 := (g.2.1 137 (14, 9) rfl).1
theorem gl_137 {h : hp_T} (g : gr h) : hp_len h 137 = 9 := (g.2.1 137 (14, 9) rfl).2
theorem gt_138 {h : hp_T} (g : gr h) : hp_tag h 138 = 14 := (g.2.1 138 (14, 9) rfl).1
theorem gl_138 {h : hp_T} (g : gr h) : hp_len h 138 = 9 := (g.2.1 138 (14, 9) rfl).2
theorem gt_139 {h : hp_T} (g : gr h) : hp_tag h 139 = 14 := (g.2.1 139 (14, 9) rfl).1
theorem gl_139 {h : hp_T} (g : gr h) : hp_len h 139 = 9 := (g.2.1 139 (14, 9) rfl).2
theorem gt_140 {h : hp_T} (g : gr h) : hp_tag h 140 = 14 := (g.2.1 140 (14, 9) rfl).1
theorem gl_140 {h : hp_T} (g : gr h) : hp_len h 140 = 9 := (g.2.1 140 (14, 9) rfl).2
theorem gt_141 {h : hp_T} (g : gr h) : hp_tag h 141 = 14 := (g.2.1 141 (14, 9) rfl).1
theorem gl_141 {h : hp_T} (g : gr h) : hp_len h 141 = 9 := (g.2.1 141 (14, 9) rfl).2
theorem gt_142 {h : hp_T} (g : gr h) : hp_tag h 142 = 14 := (g.2.1 142 (14, 9) rfl).1
theorem gl_142 {h : hp_T} (g : gr h) : hp_len h 142 = 9 := (g.2.1 142 (14, 9) rfl).2
theorem gt_143 {h : hp_T} (g : gr h) : hp_tag h 143 = 14 := (g.2.1 143 (14, 9) rfl).1
theorem gl_143 {h : hp_T} (g : gr h) : hp_len h 143 = 9 := (g.2.1 143 (14, 9) rfl).2
theorem gt_144 {h : hp_T} (g : gr h) : hp_tag h 144 = 14 := (g.2.1 144 (14, 9) rfl).1
theorem gl_144 {h : hp_T} (g : gr h) : hp_len h 144 = 9 := (g.2.1 144 (14, 9) rfl).2
theorem gt_145 {h : hp_T} (g : gr h) : hp_tag h 145 = 3 := (g.2.1 145 (3, 0) rfl).1
theorem gt_146 {h : hp_T} (g : gr h) : hp_tag h 146 = 14 := (g.2.1 146 (14, 12) rfl).1
theorem gl_146 {h : hp_T} (g : gr h) : hp_len h 146 = 12 := (g.2.1 146 (14, 12) rfl).2
theorem gt_147 {h : hp_T} (g : gr h) : hp_tag h 147 = 14 := (g.2.1 147 (14, 12) rfl).1
theorem gl_147 {h : hp_T} (g : gr h) : hp_len h 147 = 12 := (g.2.1 147 (14, 12) rfl).2
theorem gt_148 {h : hp_T} (g : gr h) : hp_tag h 148 = 14 := (g.2.1 148 (14, 12) rfl).1
theorem gl_148 {h : hp_T} (g : gr h) : hp_len h 148 = 12 := (g.2.1 148 (14, 12) rfl).2
theorem gt_149 {h : hp_T} (g : gr h) : hp_tag h 149 = 14 := (g.2.1 149 (14, 12) rfl).1
theorem gl_149 {h : hp_T} (g : gr h) : hp_len h 149 = 12 := (g.2.1 149 (14, 12) rfl).2
theorem gt_150 {h : hp_T} (g : gr h) : hp_tag h 150 = 9 := (g.2.1 150 (9, 0) rfl).1
theorem gt_151 {h : hp_T} (g : gr h) : hp_tag h 151 = 14 := (g.2.1 151 (14, 600) rfl).1
theorem gl_151 {h : hp_T} (g : gr h) : hp_len h 151 = 600 := (g.2.1 151 (14, 600) rfl).2
theorem gt_152 {h : hp_T} (g : gr h) : hp_tag h 152 = 14 := (g.2.1 152 (14, 24) rfl).1
theorem gl_152 {h : hp_T} (g : gr h) : hp_len h 152 = 24 := (g.2.1 152 (14, 24) rfl).2
theorem gt_153 {h : hp_T} (g : gr h) : hp_tag h 153 = 14 := (g.2.1 153 (14, 24) rfl).1
theorem gl_153 {h : hp_T} (g : gr h) : hp_len h 153 = 24 := (g.2.1 153 (14, 24) rfl).2
theorem gt_154 {h : hp_T} (g : gr h) : hp_tag h 154 = 14 := (g.2.1 154 (14, 600) rfl).1
theorem gl_154 {h : hp_T} (g : gr h) : hp_len h 154 = 600 := (g.2.1 154 (14, 600) rfl).2
theorem gt_155 {h : hp_T} (g : gr h) : hp_tag h 155 = 14 := (g.2.1 155 (14, 600) rfl).1
theorem gl_155 {h : hp_T} (g : gr h) : hp_len h 155 = 600 := (g.2.1 155 (14, 600) rfl).2
theorem gt_156 {h : hp_T} (g : gr h) : hp_tag h 156 = 14 := (g.2.1 156 (14, 600) rfl).1
theorem gl_156 {h : hp_T} (g : gr h) : hp_len h 156 = 600 := (g.2.1 156 (14, 600) rfl).2
theorem gt_157 {h : hp_T} (g : gr h) : hp_tag h 157 = 14 := (g.2.1 157 (14, 600) rfl).1
theorem gl_157 {h : hp_T} (g : gr h) : hp_len h 157 = 600 := (g.2.1 157 (14, 600) rfl).2
theorem gt_158 {h : hp_T} (g : gr h) : hp_tag h 158 = 0 := (g.2.1 158 (0, 0) rfl).1
theorem gt_159 {h : hp_T} (g : gr h) : hp_tag h 159 = 14 := (g.2.1 159 (14, 201) rfl).1
theorem gl_159 {h : hp_T} (g : gr h) : hp_len h 159 = 201 := (g.2.1 159 (14, 201) rfl).2
theorem gt_160 {h : hp_T} (g : gr h) : hp_tag h 160 = 14 := (g.2.1 160 (14, 201) rfl).1
theorem gl_160 {h : hp_T} (g : gr h) : hp_len h 160 = 201 := (g.2.1 160 (14, 201) rfl).2
theorem gt_161 {h : hp_T} (g : gr h) : hp_tag h 161 = 14 := (g.2.1 161 (14, 201) rfl).1
theorem gl_161 {h : hp_T} (g : gr h) : hp_len h 161 = 201 := (g.2.1 161 (14, 201) rfl).2
theorem gt_162 {h : hp_T} (g : gr h) : hp_tag h 162 = 17 := (g.2.1 162 (17, 201) rfl).1
theorem gl_162 {h : hp_T} (g : gr h) : hp_len h 162 = 201 := (g.2.1 162 (17, 201) rfl).2
theorem gt_163 {h : hp_T} (g : gr h) : hp_tag h 163 = 14 := (g.2.1 163 (14, 201) rfl).1
theorem gl_163 {h : hp_T} (g : gr h) : hp_len h 163 = 201 := (g.2.1 163 (14, 201) rfl).2
theorem gt_164 {h : hp_T} (g : gr h) : hp_tag h 164 = 14 := (g.2.1 164 (14, 201) rfl).1
theorem gl_164 {h : hp_T} (g : gr h) : hp_len h 164 = 201 := (g.2.1 164 (14, 201) rfl).2
theorem gt_165 {h : hp_T} (g : gr h) : hp_tag h 165 = 7 := (g.2.1 165 (7, 0) rfl).1
theorem gt_166 {h : hp_T} (g : gr h) : hp_tag h 166 = 17 := (g.2.1 166 (17, 9) rfl).1
theorem gl_166 {h : hp_T} (g : gr h) : hp_len h 166 = 9 := (g.2.1 166 (17, 9) rfl).2
theorem gt_167 {h : hp_T} (g : gr h) : hp_tag h 167 = 14 := (g.2.1 167 (14, 200) rfl).1
theorem gl_167 {h : hp_T} (g : gr h) : hp_len h 167 = 200 := (g.2.1 167 (14, 200) rfl).2
theorem gt_168 {h : hp_T} (g : gr h) : hp_tag h 168 = 14 := (g.2.1 168 (14, 120) rfl).1
theorem gl_168 {h : hp_T} (g : gr h) : hp_len h 168 = 120 := (g.2.1 168 (14, 120) rfl).2
theorem gt_169 {h : hp_T} (g : gr h) : hp_tag h 169 = 14 := (g.2.1 169 (14, 120) rfl).1
theorem gl_169 {h : hp_T} (g : gr h) : hp_len h 169 = 120 := (g.2.1 169 (14, 120) rfl).2
theorem gt_170 {h : hp_T} (g : gr h) : hp_tag h 170 = 14 := (g.2.1 170 (14, 120) rfl).1
theorem gl_170 {h : hp_T} (g : gr h) : hp_len h 170 = 120 := (g.2.1 170 (14, 120) rfl).2
theorem gt_171 {h : hp_T} (g : gr h) : hp_tag h 171 = 6 := (g.2.1 171 (6, 0) rfl).1
theorem gt_172 {h : hp_T} (g : gr h) : hp_tag h 172 = 14 := (g.2.1 172 (14, 7) rfl).1
theorem gl_172 {h : hp_T} (g : gr h) : hp_len h 172 = 7 := (g.2.1 172 (14, 7) rfl).2
theorem gt_173 {h : hp_T} (g : gr h) : hp_tag h 173 = 14 := (g.2.1 173 (14, 64) rfl).1
theorem gl_173 {h : hp_T} (g : gr h) : hp_len h 173 = 64 := (g.2.1 173 (14, 64) rfl).2
theorem gt_174 {h : hp_T} (g : gr h) : hp_tag h 174 = 5 := (g.2.1 174 (5, 0) rfl).1
theorem gt_175 {h : hp_T} (g : gr h) : hp_tag h 175 = 16 := (g.2.1 175 (16, 120) rfl).1
theorem gl_175 {h : hp_T} (g : gr h) : hp_len h 175 = 120 := (g.2.1 175 (16, 120) rfl).2
theorem gt_176 {h : hp_T} (g : gr h) : hp_tag h 176 = 14 := (g.2.1 176 (14, 120) rfl).1
theorem gl_176 {h : hp_T} (g : gr h) : hp_len h 176 = 120 := (g.2.1 176 (14, 120) rfl).2
theorem gt_177 {h : hp_T} (g : gr h) : hp_tag h 177 = 14 := (g.2.1 177 (14, 120) rfl).1
theorem gl_177 {h : hp_T} (g : gr h) : hp_len h 177 = 120 := (g.2.1 177 (14, 120) rfl).2
theorem gt_178 {h : hp_T} (g : gr h) : hp_tag h 178 = 14 := (g.2.1 178 (14, 120) rfl).1
theorem gl_178 {h : hp_T} (g : gr h) : hp_len h 178 = 120 := (g.2.1 178 (14, 120) rfl).2
theorem gt_179 {h : hp_T} (g : gr h) : hp_tag h 179 = 14 := (g.2.1 179 (14, 120) rfl).1
theorem gl_179 {h : hp_T} (g : gr h) : hp_len h 179 = 120 := (g.2.1 179 (14, 120) rfl).2
theorem gt_180 {h : hp_T} (g : gr h) : hp_tag h 180 = 14 := (g.2.1 180 (14, 120) rfl).1
theorem gl_180 {h : hp_T} (g : gr h) : hp_len h 180 = 120 := (g.2.1 180 (14, 120) rfl).2
theorem gt_181 {h : hp_T} (g : gr h) : hp_tag h 181 = 14 := (g.2.1 181 (14, 120) rfl).1
theorem gl_181 {h : hp_T} (g : gr h) : hp_len h 181 = 120 := (g.2.1 181 (14, 120) rfl).2
theorem gt_182 {h : hp_T} (g : gr h) : hp_tag h 182 = 16 := (g.2.1 182 (16, 120) rfl).1
theorem gl_182 {h : hp_T} (g : gr h) : hp_len h 182 = 120 := (g.2.1 182 (16, 120) rfl).2
theorem gt_183 {h : hp_T} (g : gr h) : hp_tag h 183 = 14 := (g.2.1 183 (14, 12) rfl).1
theorem gl_183 {h : hp_T} (g : gr h) : hp_len h 183 = 12 := (g.2.1 183 (14, 12) rfl).2
theorem gt_184 {h : hp_T} (g : gr h) : hp_tag h 184 = 14 := (g.2.1 184 (14, 12) rfl).1
theorem gl_184 {h : hp_T} (g : gr h) : hp_len h 184 = 12 := (g.2.1 184 (14, 12) rfl).2
theorem gt_185 {h : hp_T} (g : gr h) : hp_tag h 185 = 14 := (g.2.1 185 (14, 12) rfl).1
theorem gl_185 {h : hp_T} (g : gr h) : hp_len h 185 = 12 := (g.2.1 185 (14, 12) rfl).2
theorem gt_186 {h : hp_T} (g : gr h) : hp_tag h 186 = 2 := (g.2.1 186 (2, 0) rfl).1
theorem gt_187 {h : hp_T} (g : gr h) : hp_tag h 187 = 16 := (g.2.1 187 (16, 201) rfl).1
theorem gl_187 {h : hp_T} (g : gr h) : hp_len h 187 = 201 := (g.2.1 187 (16, 201) rfl).2
theorem gt_188 {h : hp_T} (g : gr h) : hp_tag h 188 = 14 := (g.2.1 188 (14, 201) rfl).1
theorem gl_188 {h : hp_T} (g : gr h) : hp_len h 188 = 201 := (g.2.1 188 (14, 201) rfl).2
theorem gt_189 {h : hp_T} (g : gr h) : hp_tag h 189 = 14 := (g.2.1 189 (14, 201) rfl).1
theorem gl_189 {h : hp_T} (g : gr h) : hp_len h 189 = 201 := (g.2.1 189 (14, 201) rfl).2
theorem gt_190 {h : hp_T} (g : gr h) : hp_tag h 190 = 14 := (g.2.1 190 (14, 9) rfl).1
theorem gl_190 {h : hp_T} (g : gr h) : hp_len h 190 = 9 := (g.2.1 190 (14, 9) rfl).2
theorem gt_191 {h : hp_T} (g : gr h) : hp_tag h 191 = 14 := (g.2.1 191 (14, 200) rfl).1
theorem gl_191 {h : hp_T} (g : gr h) : hp_len h 191 = 200 := (g.2.1 191 (14, 200) rfl).2
theorem gt_192 {h : hp_T} (g : gr h) : hp_tag h 192 = 15 := (g.2.1 192 (15, 200) rfl).1
theorem gl_192 {h : hp_T} (g : gr h) : hp_len h 192 = 200 := (g.2.1 192 (15, 200) rfl).2
theorem gt_193 {h : hp_T} (g : gr h) : hp_tag h 193 = 5 := (g.2.1 193 (5, 0) rfl).1
theorem gt_194 {h : hp_T} (g : gr h) : hp_tag h 194 = 16 := (g.2.1 194 (16, 120) rfl).1
theorem gl_194 {h : hp_T} (g : gr h) : hp_len h 194 = 120 := (g.2.1 194 (16, 120) rfl).2
theorem gt_195 {h : hp_T} (g : gr h) : hp_tag h 195 = 14 := (g.2.1 195 (14, 120) rfl).1
theorem gl_195 {h : hp_T} (g : gr h) : hp_len h 195 = 120 := (g.2.1 195 (14, 120) rfl).2
theorem gt_196 {h : hp_T} (g : gr h) : hp_tag h 196 = 14 := (g.2.1 196 (14, 120) rfl).1
theorem gl_196 {h : hp_T} (g : gr h) : hp_len h 196 = 120 := (g.2.1 196 (14, 120) rfl).2
theorem gt_197 {h : hp_T} (g : gr h) : hp_tag h 197 = 14 := (g.2.1 197 (14, 120) rfl).1
theorem gl_197 {h : hp_T} (g : gr h) : hp_len h 197 = 120 := (g.2.1 197 (14, 120) rfl).2
theorem gt_198 {h : hp_T} (g : gr h) : hp_tag h 198 = 14 := (g.2.1 198 (14, 120) rfl).1
theorem gl_198 {h : hp_T} (g : gr h) : hp_len h 198 = 120 := (g.2.1 198 (14, 120) rfl).2
theorem gt_199 {h : hp_T} (g : gr h) : hp_tag h 199 = 14 := (g.2.1 199 (14, 120) rfl).1
theorem gl_199 {h : hp_T} (g : gr h) : hp_len h 199 = 120 := (g.2.1 199 (14, 120) rfl).2
theorem gt_200 {h : hp_T} (g : gr h) : hp_tag h 200 = 14 := (g.2.1 200 (14, 120) rfl).1
theorem gl_200 {h : hp_T} (g : gr h) : hp_len h 200 = 120 := (g.2.1 200 (14, 120) rfl).2
theorem gt_201 {h : hp_T} (g : gr h) : hp_tag h 201 = 16 := (g.2.1 201 (16, 120) rfl).1
theorem gl_201 {h : hp_T} (g : gr h) : hp_len h 201 = 120 := (g.2.1 201 (16, 120) rfl).2
theorem gt_202 {h : hp_T} (g : gr h) : hp_tag h 202 = 14 := (g.2.1 202 (14, 12) rfl).1
theorem gl_202 {h : hp_T} (g : gr h) : hp_len h 202 = 12 := (g.2.1 202 (14, 12) rfl).2
theorem gt_203 {h : hp_T} (g : gr h) : hp_tag h 203 = 14 := (g.2.1 203 (14, 12) rfl).1
theorem gl_203 {h : hp_T} (g : gr h) : hp_len h 203 = 12 := (g.2.1 203 (14, 12) rfl).2
theorem gt_204 {h : hp_T} (g : gr h) : hp_tag h 204 = 14 := (g.2.1 204 (14, 12) rfl).1
theorem gl_204 {h : hp_T} (g : gr h) : hp_len h 204 = 12 := (g.2.1 204 (14, 12) rfl).2
theorem gt_205 {h : hp_T} (g : gr h) : hp_tag h 205 = 2 := (g.2.1 205 (2, 0) rfl).1
theorem gt_206 {h : hp_T} (g : gr h) : hp_tag h 206 = 16 := (g.2.1 206 (16, 201) rfl).1
theorem gl_206 {h : hp_T} (g : gr h) : hp_len h 206 = 201 := (g.2.1 206 (16, 201) rfl).2
theorem gt_207 {h : hp_T} (g : gr h) : hp_tag h 207 = 14 := (g.2.1 207 (14, 201) rfl).1
theorem gl_207 {h : hp_T} (g : gr h) : hp_len h 207 = 201 := (g.2.1 207 (14, 201) rfl).2
theorem gt_208 {h : hp_T} (g : gr h) : hp_tag h 208 = 14 := (g.2.1 208 (14, 201) rfl).1
theorem gl_208 {h : hp_T} (g : gr h) : hp_len h 208 = 201 := (g.2.1 208 (14, 201) rfl).2
theorem gt_209 {h : hp_T} (g : gr h) : hp_tag h 209 = 14 := (g.2.1 209 (14, 9) rfl).1
theorem gl_209 {h : hp_T} (g : gr h) : hp_len h 209 = 9 := (g.2.1 209 (14, 9) rfl).2
theorem gt_210 {h : hp_T} (g : gr h) : hp_tag h 210 = 14 := (g.2.1 210 (14, 200) rfl).1
theorem gl_210 {h : hp_T} (g : gr h) : hp_len h 210 = 200 := (g.2.1 210 (14, 200) rfl).2
theorem gt_211 {h : hp_T} (g : gr h) : hp_tag h 211 = 15 := (g.2.1 211 (15, 200) rfl).1
theorem gl_211 {h : hp_T} (g : gr h) : hp_len h 211 = 200 := (g.2.1 211 (15, 200) rfl).2
theorem gt_212 {h : hp_T} (g : gr h) : hp_tag h 212 = 4 := (g.2.1 212 (4, 0) rfl).1
theorem gt_213 {h : hp_T} (g : gr h) : hp_tag h 213 = 19 := (g.2.1 213 (19, 9) rfl).1
theorem gl_213 {h : hp_T} (g : gr h) : hp_len h 213 = 9 := (g.2.1 213 (19, 9) rfl).2
theorem gt_214 {h : hp_T} (g : gr h) : hp_tag h 214 = 15 := (g.2.1 214 (15, 10) rfl).1
theorem gl_214 {h : hp_T} (g : gr h) : hp_len h 214 = 10 := (g.2.1 214 (15, 10) rfl).2
theorem gt_215 {h : hp_T} (g : gr h) : hp_tag h 215 = 15 := (g.2.1 215 (15, 10) rfl).1
theorem gl_215 {h : hp_T} (g : gr h) : hp_len h 215 = 10 := (g.2.1 215 (15, 10) rfl).2
theorem gt_216 {h : hp_T} (g : gr h) : hp_tag h 216 = 15 := (g.2.1 216 (15, 10) rfl).1
theorem gl_216 {h : hp_T} (g : gr h) : hp_len h 216 = 10 := (g.2.1 216 (15, 10) rfl).2
theorem gt_217 {h : hp_T} (g : gr h) : hp_tag h 217 = 15 := (g.2.1 217 (15, 10) rfl).1
theorem gl_217 {h : hp_T} (g : gr h) : hp_len h 217 = 10 := (g.2.1 217 (15, 10) rfl).2
theorem gt_218 {h : hp_T} (g : gr h) : hp_tag h 218 = 15 := (g.2.1 218 (15, 10) rfl).1
theorem gl_218 {h : hp_T} (g : gr h) : hp_len h 218 = 10 := (g.2.1 218 (15, 10) rfl).2
theorem gt_219 {h : hp_T} (g : gr h) : hp_tag h 219 = 15 := (g.2.1 219 (15, 10) rfl).1
theorem gl_219 {h : hp_T} (g : gr h) : hp_len h 219 = 10 := (g.2.1 219 (15, 10) rfl).2
theorem gt_220 {h : hp_T} (g : gr h) : hp_tag h 220 = 15 := (g.2.1 220 (15, 10) rfl).1
theorem gl_220 {h : hp_T} (g : gr h) : hp_len h 220 = 10 := (g.2.1 220 (15, 10) rfl).2
theorem gt_221 {h : hp_T} (g : gr h) : hp_tag h 221 = 15 := (g.2.1 221 (15, 10) rfl).1
theorem gl_221 {h : hp_T} (g : gr h) : hp_len h 221 = 10 := (g.2.1 221 (15, 10) rfl).2
theorem gt_222 {h : hp_T} (g : gr h) : hp_tag h 222 = 15 := (g.2.1 222 (15, 10) rfl).1
theorem gl_222 {h : hp_T} (g : gr h) : hp_len h 222 = 10 := (g.2.1 222 (15, 10) rfl).2
theorem gt_223 {h : hp_T} (g : gr h) : hp_tag h 223 = 19 := (g.2.1 223 (19, 9) rfl).1
theorem gl_223 {h : hp_T} (g : gr h) : hp_len h 223 = 9 := (g.2.1 223 (19, 9) rfl).2
theorem gt_224 {h : hp_T} (g : gr h) : hp_tag h 224 = 15 := (g.2.1 224 (15, 10) rfl).1
theorem gl_224 {h : hp_T} (g : gr h) : hp_len h 224 = 10 := (g.2.1 224 (15, 10) rfl).2
theorem gt_225 {h : hp_T} (g : gr h) : hp_tag h 225 = 15 := (g.2.1 225 (15, 10) rfl).1
theorem gl_225 {h : hp_T} (g : gr h) : hp_len h 225 = 10 := (g.2.1 225 (15, 10) rfl).2
theorem gt_226 {h : hp_T} (g : gr h) : hp_tag h 226 = 15 := (g.2.1 226 (15, 10) rfl).1
theorem gl_226 {h : hp_T} (g : gr h) : hp_len h 226 = 10 := (g.2.1 226 (15, 10) rfl).2
theorem gt_227 {h : hp_T} (g : gr h) : hp_tag h 227 = 15 := (g.2.1 227 (15, 10) rfl).1
theorem gl_227 {h : hp_T} (g : gr h) : hp_len h 227 = 10 := (g.2.1 227 (15, 10) rfl).2
theorem gt_228 {h : hp_T} (g : gr h) : hp_tag h 228 = 15 := (g.2.1 228 (15, 10) rfl).1
theorem gl_228 {h : hp_T} (g : gr h) : hp_len h 228 = 10 := (g.2.1 228 (15, 10) rfl).2
theorem gt_229 {h : hp_T} (g : gr h) : hp_tag h 229 = 15 := (g.2.1 229 (15, 10) rfl).1
theorem gl_229 {h : hp_T} (g : gr h) : hp_len h 229 = 10 := (g.2.1 229 (15, 10) rfl).2
theorem gt_230 {h : hp_T} (g : gr h) : hp_tag h 230 = 15 := (g.2.1 230 (15, 10) rfl).1
theorem gl_230 {h : hp_T} (g : gr h) : hp_len h 230 = 10 := (g.2.1 230 (15, 10) rfl).2
theorem gt_231 {h : hp_T} (g : gr h) : hp_tag h 231 = 15 := (g.2.1 231 (15, 10) rfl).1
theorem gl_231 {h : hp_T} (g : gr h) : hp_len h 231 = 10 := (g.2.1 231 (15, 10) rfl).2
theorem gt_232 {h : hp_T} (g : gr h) : hp_tag h 232 = 15 := (g.2.1 232 (15, 10) rfl).1
theorem gl_232 {h : hp_T} (g : gr h) : hp_len h 232 = 10 := (g.2.1 232 (15, 10) rfl).2
theorem gt_233 {h : hp_T} (g : gr h) : hp_tag h 233 = 19 := (g.2.1 233 (19, 9) rfl).1
theorem gl_233 {h : hp_T} (g : gr h) : hp_len h 233 = 9 := (g.2.1 233 (19, 9) rfl).2
theorem gt_234 {h : hp_T} (g : gr h) : hp_tag h 234 = 15 := (g.2.1 234 (15, 10) rfl).1
theorem gl_234 {h : hp_T} (g : gr h) : hp_len h 234 = 10 := (g.2.1 234 (15, 10) rfl).2
theorem gt_235 {h : hp_T} (g : gr h) : hp_tag h 235 = 15 := (g.2.1 235 (15, 10) rfl).1
theorem gl_235 {h : hp_T} (g : gr h) : hp_len h 235 = 10 := (g.2.1 235 (15, 10) rfl).2
theorem gt_236 {h : hp_T} (g : gr h) : hp_tag h 236 = 15 := (g.2.1 236 (15, 10) rfl).1
theorem gl_236 {h : hp_T} (g : gr h) : hp_len h 236 = 10 := (g.2.1 236 (15, 10) rfl).2
theorem gt_237 {h : hp_T} (g : gr h) : hp_tag h 237 = 15 := (g.2.1 237 (15, 10) rfl).1
theorem gl_237 {h : hp_T} (g : gr h) : hp_len h 237 = 10 := (g.2.1 237 (15, 10) rfl).2
theorem gt_238 {h : hp_T} (g : gr h) : hp_tag h 238 = 15 := (g.2.1 238 (15, 10) rfl).1
theorem gl_238 {h : hp_T} (g : gr h) : hp_len h 238 = 10 := (g.2.1 238 (15, 10) rfl).2
theorem gt_239 {h : hp_T} (g : gr h) : hp_tag h 239 = 15 := (g.2.1 239 (15, 10) rfl).1
theorem gl_239 {h : hp_T} (g : gr h) : hp_len h 239 = 10 := (g.2.1 239 (15, 10) rfl).2
theorem gt_240 {h : hp_T} (g : gr h) : hp_tag h 240 = 15 := (g.2.1 240 (15, 10) rfl).1
theorem gl_240 {h : hp_T} (g : gr h) : hp_len h 240 = 10 := (g.2.1 240 (15, 10) rfl).2
theorem gt_241 {h : hp_T} (g : gr h) : hp_tag h 241 = 15 := (g.2.1 241 (15, 10) rfl).1
theorem gl_241 {h : hp_T} (g : gr h) : hp_len h 241 = 10 := (g.2.1 241 (15, 10) rfl).2
theorem gt_242 {h : hp_T} (g : gr h) : hp_tag h 242 = 15 := (g.2.1 242 (15, 10) rfl).1
theorem gl_242 {h : hp_T} (g : gr h) : hp_len h 242 = 10 := (g.2.1 242 (15, 10) rfl).2
theorem gt_243 {h : hp_T} (g : gr h) : hp_tag h 243 = 8 := (g.2.1 243 (8, 0) rfl).1
theorem gt_244 {h : hp_T} (g : gr h) : hp_tag h 244 = 14 := (g.2.1 244 (14, 8) rfl).1
theorem gl_244 {h : hp_T} (g : gr h) : hp_len h 244 = 8 := (g.2.1 244 (14, 8) rfl).2
theorem gt_245 {h : hp_T} (g : gr h) : hp_tag h 245 = 14 := (g.2.1 245 (14, 3) rfl).1
theorem gl_245 {h : hp_T} (g : gr h) : hp_len h 245 = 3 := (g.2.1 245 (14, 3) rfl).2
theorem gt_246 {h : hp_T} (g : gr h) : hp_tag h 246 = 14 := (g.2.1 246 (14, 3) rfl).1
theorem gl_246 {h : hp_T} (g : gr h) : hp_len h 246 = 3 := (g.2.1 246 (14, 3) rfl).2
theorem gt_247 {h : hp_T} (g : gr h) : hp_tag h 247 = 12 := (g.2.1 247 (12, 0) rfl).1
theorem gt_248 {h : hp_T} (g : gr h) : hp_tag h 248 = 14 := (g.2.1 248 (14, 600) rfl).1
theorem gl_248 {h : hp_T} (g : gr h) : hp_len h 248 = 600 := (g.2.1 248 (14, 600) rfl).2
theorem gt_249 {h : hp_T} (g : gr h) : hp_tag h 249 = 13 := (g.2.1 249 (13, 5) rfl).1
theorem gl_249 {h : hp_T} (g : gr h) : hp_len h 249 = 5 := (g.2.1 249 (13, 5) rfl).2
theorem gt_250 {h : hp_T} (g : gr h) : hp_tag h 250 = 13 := (g.2.1 250 (13, 4) rfl).1
theorem gl_250 {h : hp_T} (g : gr h) : hp_len h 250 = 4 := (g.2.1 250 (13, 4) rfl).2
theorem gt_251 {h : hp_T} (g : gr h) : hp_tag h 251 = 13 := (g.2.1 251 (13, 4) rfl).1
theorem gl_251 {h : hp_T} (g : gr h) : hp_len h 251 = 4 := (g.2.1 251 (13, 4) rfl).2
theorem gt_252 {h : hp_T} (g : gr h) : hp_tag h 252 = 13 := (g.2.1 252 (13, 3) rfl).1
theorem gl_252 {h : hp_T} (g : gr h) : hp_len h 252 = 3 := (g.2.1 252 (13, 3) rfl).2
theorem gt_253 {h : hp_T} (g : gr h) : hp_tag h 253 = 13 := (g.2.1 253 (13, 7) rfl).1
theorem gl_253 {h : hp_T} (g : gr h) : hp_len h 253 = 7 := (g.2.1 253 (13, 7) rfl).2
theorem gt_254 {h : hp_T} (g : gr h) : hp_tag h 254 = 13 := (g.2.1 254 (13, 6) rfl).1
theorem gl_254 {h : hp_T} (g : gr h) : hp_len h 254 = 6 := (g.2.1 254 (13, 6) rfl).2
theorem gt_255 {h : hp_T} (g : gr h) : hp_tag h 255 = 13 := (g.2.1 255 (13, 5) rfl).1
theorem gl_255 {h : hp_T} (g : gr h) : hp_len h 255 = 5 := (g.2.1 255 (13, 5) rfl).2
theorem gt_256 {h : hp_T} (g : gr h) : hp_tag h 256 = 13 := (g.2.1 256 (13, 5) rfl).1
theorem gl_256 {h : hp_T} (g : gr h) : hp_len h 256 = 5 := (g.2.1 256 (13, 5) rfl).2
theorem gt_257 {h : hp_T} (g : gr h) : hp_tag h 257 = 13 := (g.2.1 257 (13, 5) rfl).1
theorem gl_257 {h : hp_T} (g : gr h) : hp_len h 257 = 5 := (g.2.1 257 (13, 5) rfl).2
theorem gt_258 {h : hp_T} (g : gr h) : hp_tag h 258 = 13 := (g.2.1 258 (13, 2) rfl).1
theorem gl_258 {h : hp_T} (g : gr h) : hp_len h 258 = 2 := (g.2.1 258 (13, 2) rfl).2
theorem gt_259 {h : hp_T} (g : gr h) : hp_tag h 259 = 13 := (g.2.1 259 (13, 3) rfl).1
theorem gl_259 {h : hp_T} (g : gr h) : hp_len h 259 = 3 := (g.2.1 259 (13, 3) rfl).2
theorem gt_260 {h : hp_T} (g : gr h) : hp_tag h 260 = 13 := (g.2.1 260 (13, 3) rfl).1
theorem gl_260 {h : hp_T} (g : gr h) : hp_len h 260 = 3 := (g.2.1 260 (13, 3) rfl).2
theorem gt_261 {h : hp_T} (g : gr h) : hp_tag h 261 = 13 := (g.2.1 261 (13, 3) rfl).1
theorem gl_261 {h : hp_T} (g : gr h) : hp_len h 261 = 3 := (g.2.1 261 (13, 3) rfl).2
theorem gt_262 {h : hp_T} (g : gr h) : hp_tag h 262 = 13 := (g.2.1 262 (13, 6) rfl).1
theorem gl_262 {h : hp_T} (g : gr h) : hp_len h 262 = 6 := (g.2.1 262 (13, 6) rfl).2
theorem gt_263 {h : hp_T} (g : gr h) : hp_tag h 263 = 13 := (g.2.1 263 (13, 4) rfl).1
theorem gl_263 {h : hp_T} (g : gr h) : hp_len h 263 = 4 := (g.2.1 263 (13, 4) rfl).2
theorem gt_264 {h : hp_T} (g : gr h) : hp_tag h 264 = 13 := (g.2.1 264 (13, 5) rfl).1
theorem gl_264 {h : hp_T} (g : gr h) : hp_len h 264 = 5 := (g.2.1 264 (13, 5) rfl).2
theorem gt_265 {h : hp_T} (g : gr h) : hp_tag h 265 = 13 := (g.2.1 265 (13, 5) rfl).1
theorem gl_265 {h : hp_T} (g : gr h) : hp_len h 265 = 5 := (g.2.1 265 (13, 5) rfl).2
theorem gt_266 {h : hp_T} (g : gr h) : hp_tag h 266 = 13 := (g.2.1 266 (13, 3) rfl).1
theorem gl_266 {h : hp_T} (g : gr h) : hp_len h 266 = 3 := (g.2.1 266 (13, 3) rfl).2
theorem gt_267 {h : hp_T} (g : gr h) : hp_tag h 267 = 13 := (g.2.1 267 (13, 4) rfl).1
theorem gl_267 {h : hp_T} (g : gr h) : hp_len h 267 = 4 := (g.2.1 267 (13, 4) rfl).2
theorem gt_268 {h : hp_T} (g : gr h) : hp_tag h 268 = 13 := (g.2.1 268 (13, 6) rfl).1
theorem gl_268 {h : hp_T} (g : gr h) : hp_len h 268 = 6 := (g.2.1 268 (13, 6) rfl).2
theorem gt_269 {h : hp_T} (g : gr h) : hp_tag h 269 = 13 := (g.2.1 269 (13, 4) rfl).1
theorem gl_269 {h : hp_T} (g : gr h) : hp_len h 269 = 4 := (g.2.1 269 (13, 4) rfl).2
theorem gt_270 {h : hp_T} (g : gr h) : hp_tag h 270 = 13 := (g.2.1 270 (13, 3) rfl).1
theorem gl_270 {h : hp_T} (g : gr h) : hp_len h 270 = 3 := (g.2.1 270 (13, 3) rfl).2
theorem gt_271 {h : hp_T} (g : gr h) : hp_tag h 271 = 13 := (g.2.1 271 (13, 3) rfl).1
theorem gl_271 {h : hp_T} (g : gr h) : hp_len h 271 = 3 := (g.2.1 271 (13, 3) rfl).2
theorem gt_272 {h : hp_T} (g : gr h) : hp_tag h 272 = 14 := (g.2.1 272 (14, 201) rfl).1
theorem gl_272 {h : hp_T} (g : gr h) : hp_len h 272 = 201 := (g.2.1 272 (14, 201) rfl).2
theorem gt_273 {h : hp_T} (g : gr h) : hp_tag h 273 = 14 := (g.2.1 273 (14, 4824) rfl).1
theorem gl_273 {h : hp_T} (g : gr h) : hp_len h 273 = 4824 := (g.2.1 273 (14, 4824) rfl).2
theorem gt_274 {h : hp_T} (g : gr h) : hp_tag h 274 = 14 := (g.2.1 274 (14, 4824) rfl).1
theorem gl_274 {h : hp_T} (g : gr h) : hp_len h 274 = 4824 := (g.2.1 274 (14, 4824) rfl).2
theorem gt_275 {h : hp_T} (g : gr h) : hp_tag h 275 = 14 := (g.2.1 275 (14, 4824) rfl).1
theorem gl_275 {h : hp_T} (g : gr h) : hp_len h 275 = 4824 := (g.2.1 275 (14, 4824) rfl).2
theorem gt_276 {h : hp_T} (g : gr h) : hp_tag h 276 = 14 := (g.2.1 276 (14, 128640) rfl).1
theorem gl_276 {h : hp_T} (g : gr h) : hp_len h 276 = 128640 := (g.2.1 276 (14, 128640) rfl).2
theorem gt_277 {h : hp_T} (g : gr h) : hp_tag h 277 = 14 := (g.2.1 277 (14, 700) rfl).1
theorem gl_277 {h : hp_T} (g : gr h) : hp_len h 277 = 700 := (g.2.1 277 (14, 700) rfl).2
theorem gt_278 {h : hp_T} (g : gr h) : hp_tag h 278 = 14 := (g.2.1 278 (14, 120) rfl).1
theorem gl_278 {h : hp_T} (g : gr h) : hp_len h 278 = 120 := (g.2.1 278 (14, 120) rfl).2
theorem gt_279 {h : hp_T} (g : gr h) : hp_tag h 279 = 14 := (g.2.1 279 (14, 120) rfl).1
theorem gl_279 {h : hp_T} (g : gr h) : hp_len h 279 = 120 := (g.2.1 279 (14, 120) rfl).2
theorem gt_280 {h : hp_T} (g : gr h) : hp_tag h 280 = 14 := (g.2.1 280 (14, 120) rfl).1
theorem gl_280 {h : hp_T} (g : gr h) : hp_len h 280 = 120 := (g.2.1 280 (14, 120) rfl).2
theorem gt_281 {h : hp_T} (g : gr h) : hp_tag h 281 = 16 := (g.2.1 281 (16, 120) rfl).1
theorem gl_281 {h : hp_T} (g : gr h) : hp_len h 281 = 120 := (g.2.1 281 (16, 120) rfl).2
theorem gt_282 {h : hp_T} (g : gr h) : hp_tag h 282 = 16 := (g.2.1 282 (16, 120) rfl).1
theorem gl_282 {h : hp_T} (g : gr h) : hp_len h 282 = 120 := (g.2.1 282 (16, 120) rfl).2
theorem gt_283 {h : hp_T} (g : gr h) : hp_tag h 283 = 14 := (g.2.1 283 (14, 6) rfl).1
theorem gl_283 {h : hp_T} (g : gr h) : hp_len h 283 = 6 := (g.2.1 283 (14, 6) rfl).2
theorem gt_284 {h : hp_T} (g : gr h) : hp_tag h 284 = 14 := (g.2.1 284 (14, 121) rfl).1
theorem gl_284 {h : hp_T} (g : gr h) : hp_len h 284 = 121 := (g.2.1 284 (14, 121) rfl).2
theorem gt_285 {h : hp_T} (g : gr h) : hp_tag h 285 = 14 := (g.2.1 285 (14, 121) rfl).1
theorem gl_285 {h : hp_T} (g : gr h) : hp_len h 285 = 121 := (g.2.1 285 (14, 121) rfl).2
theorem gt_286 {h : hp_T} (g : gr h) : hp_tag h 286 = 16 := (g.2.1 286 (16, 121) rfl).1
theorem gl_286 {h : hp_T} (g : gr h) : hp_len h 286 = 121 := (g.2.1 286 (16, 121) rfl).2
theorem gt_287 {h : hp_T} (g : gr h) : hp_tag h 287 = 14 := (g.2.1 287 (14, 9) rfl).1
theorem gl_287 {h : hp_T} (g : gr h) : hp_len h 287 = 9 := (g.2.1 287 (14, 9) rfl).2
theorem gt_288 {h : hp_T} (g : gr h) : hp_tag h 288 = 14 := (g.2.1 288 (14, 12) rfl).1
theorem gl_288 {h : hp_T} (g : gr h) : hp_len h 288 = 12 := (g.2.1 288 (14, 12) rfl).2
theorem gt_289 {h : hp_T} (g : gr h) : hp_tag h 289 = 14 := (g.2.1 289 (14, 12) rfl).1
theorem gl_289 {h : hp_T} (g : gr h) : hp_len h 289 = 12 := (g.2.1 289 (14, 12) rfl).2
theorem gt_290 {h : hp_T} (g : gr h) : hp_tag h 290 = 14 := (g.2.1 290 (14, 12) rfl).1
theorem gl_290 {h : hp_T} (g : gr h) : hp_len h 290 = 12 := (g.2.1 290 (14, 12) rfl).2
theorem gt_291 {h : hp_T} (g : gr h) : hp_tag h 291 = 14 := (g.2.1 291 (14, 12) rfl).1
theorem gl_291 {h : hp_T} (g : gr h) : hp_len h 291 = 12 := (g.2.1 291 (14, 12) rfl).2
theorem gt_292 {h : hp_T} (g : gr h) : hp_tag h 292 = 14 := (g.2.1 292 (14, 81) rfl).1
theorem gl_292 {h : hp_T} (g : gr h) : hp_len h 292 = 81 := (g.2.1 292 (14, 81) rfl).2
theorem gt_293 {h : hp_T} (g : gr h) : hp_tag h 293 = 14 := (g.2.1 293 (14, 8) rfl).1
theorem gl_293 {h : hp_T} (g : gr h) : hp_len h 293 = 8 := (g.2.1 293 (14, 8) rfl).2
theorem gt_294 {h : hp_T} (g : gr h) : hp_tag h 294 = 14 := (g.2.1 294 (14, 201) rfl).1
theorem gl_294 {h : hp_T} (g : gr h) : hp_len h 294 = 201 := (g.2.1 294 (14, 201) rfl).2
theorem gt_295 {h : hp_T} (g : gr h) : hp_tag h 295 = 14 := (g.2.1 295 (14, 201) rfl).1
theorem gl_295 {h : hp_T} (g : gr h) : hp_len h 295 = 201 := (g.2.1 295 (14, 201) rfl).2
theorem gt_296 {h : hp_T} (g : gr h) : hp_tag h 296 = 14 := (g.2.1 296 (14, 201) rfl).1
theorem gl_296 {h : hp_T} (g : gr h) : hp_len h 296 = 201 := (g.2.1 296 (14, 201) rfl).2
theorem gt_297 {h : hp_T} (g : gr h) : hp_tag h 297 = 14 := (g.2.1 297 (14, 201) rfl).1
theorem gl_297 {h : hp_T} (g : gr h) : hp_len h 297 = 201 := (g.2.1 297 (14, 201) rfl).2
theorem gt_298 {h : hp_T} (g : gr h) : hp_tag h 298 = 14 := (g.2.1 298 (14, 201) rfl).1
theorem gl_298 {h : hp_T} (g : gr h) : hp_len h 298 = 201 := (g.2.1 298 (14, 201) rfl).2
theorem gt_299 {h : hp_T} (g : gr h) : hp_tag h 299 = 15 := (g.2.1 299 (15, 700) rfl).1
theorem gl_299 {h : hp_T} (g : gr h) : hp_len h 299 = 700 := (g.2.1 299 (15, 700) rfl).2
theorem gt_300 {h : hp_T} (g : gr h) : hp_tag h 300 = 14 := (g.2.1 300 (14, 120) rfl).1
theorem gl_300 {h : hp_T} (g : gr h) : hp_len h 300 = 120 := (g.2.1 300 (14, 120) rfl).2
theorem gt_301 {h : hp_T} (g : gr h) : hp_tag h 301 = 14 := (g.2.1 301 (14, 120) rfl).1
theorem gl_301 {h : hp_T} (g : gr h) : hp_len h 301 = 120 := (g.2.1 301 (14, 120) rfl).2
theorem gt_302 {h : hp_T} (g : gr h) : hp_tag h 302 = 14 := (g.2.1 302 (14, 120) rfl).1
theorem gl_302 {h : hp_T} (g : gr h) : hp_len h 302 = 120 := (g.2.1 302 (14, 120) rfl).2
theorem gt_303 {h : hp_T} (g : gr h) : hp_tag h 303 = 14 := (g.2.1 303 (14, 120) rfl).1
theorem gl_303 {h : hp_T} (g : gr h) : hp_len h 303 = 120 := (g.2.1 303 (14, 120) rfl).2
theorem gt_304 {h : hp_T} (g : gr h) : hp_tag h 304 = 14 := (g.2.1 304 (14, 120) rfl).1
theorem gl_304 {h : hp_T} (g : gr h) : hp_len h 304 = 120 := (g.2.1 304 (14, 120) rfl).2
theorem gt_305 {h : hp_T} (g : gr h) : hp_tag h 305 = 16 := (g.2.1 305 (16, 120) rfl).1
theorem gl_305 {h : hp_T} (g : gr h) : hp_len h 305 = 120 := (g.2.1 305 (16, 120) rfl).2
theorem gt_306 {h : hp_T} (g : gr h) : hp_tag h 306 = 14 := (g.2.1 306 (14, 120) rfl).1
theorem gl_306 {h : hp_T} (g : gr h) : hp_len h 306 = 120 := (g.2.1 306 (14, 120) rfl).2
theorem gt_307 {h : hp_T} (g : gr h) : hp_tag h 307 = 14 := (g.2.1 307 (14, 12) rfl).1
theorem gl_307 {h : hp_T} (g : gr h) : hp_len h 307 = 12 := (g.2.1 307 (14, 12) rfl).2
theorem gt_308 {h : hp_T} (g : gr h) : hp_tag h 308 = 14 := (g.2.1 308 (14, 12) rfl).1
theorem gl_308 {h : hp_T} (g : gr h) : hp_len h 308 = 12 := (g.2.1 308 (14, 12) rfl).2
theorem gt_309 {h : hp_T} (g : gr h) : hp_tag h 309 = 14 := (g.2.1 309 (14, 12) rfl).1
theorem gl_309 {h : hp_T} (g : gr h) : hp_len h 309 = 12 := (g.2.1 309 (14, 12) rfl).2
theorem gt_310 {h : hp_T} (g : gr h) : hp_tag h 310 = 14 := (g.2.1 310 (14, 201) rfl).1
theorem gl_310 {h : hp_T} (g : gr h) : hp_len h 310 = 201 := (g.2.1 310 (14, 201) rfl).2
theorem gt_311 {h : hp_T} (g : gr h) : hp_tag h 311 = 14 := (g.2.1 311 (14, 201) rfl).1
theorem gl_311 {h : hp_T} (g : gr h) : hp_len h 311 = 201 := (g.2.1 311 (14, 201) rfl).2
theorem gt_312 {h : hp_T} (g : gr h) : hp_tag h 312 = 14 := (g.2.1 312 (14, 201) rfl).1
theorem gl_312 {h : hp_T} (g : gr h) : hp_len h 312 = 201 := (g.2.1 312 (14, 201) rfl).2
theorem gt_313 {h : hp_T} (g : gr h) : hp_tag h 313 = 16 := (g.2.1 313 (16, 201) rfl).1
theorem gl_313 {h : hp_T} (g : gr h) : hp_len h 313 = 201 := (g.2.1 313 (16, 201) rfl).2
theorem gt_314 {h : hp_T} (g : gr h) : hp_tag h 314 = 15 := (g.2.1 314 (15, 201) rfl).1
theorem gl_314 {h : hp_T} (g : gr h) : hp_len h 314 = 201 := (g.2.1 314 (15, 201) rfl).2
theorem gt_315 {h : hp_T} (g : gr h) : hp_tag h 315 = 16 := (g.2.1 315 (16, 120) rfl).1
theorem gl_315 {h : hp_T} (g : gr h) : hp_len h 315 = 120 := (g.2.1 315 (16, 120) rfl).2
theorem gt_316 {h : hp_T} (g : gr h) : hp_tag h 316 = 14 := (g.2.1 316 (14, 120) rfl).1
theorem gl_316 {h : hp_T} (g : gr h) : hp_len h 316 = 120 := (g.2.1 316 (14, 120) rfl).2
theorem gt_317 {h : hp_T} (g : gr h) : hp_tag h 317 = 14 := (g.2.1 317 (14, 120) rfl).1
theorem gl_317 {h : hp_T} (g : gr h) : hp_len h 317 = 120 := (g.2.1 317 (14, 120) rfl).2
theorem gt_318 {h : hp_T} (g : gr h) : hp_tag h 318 = 14 := (g.2.1 318 (14, 120) rfl).1
theorem gl_318 {h : hp_T} (g : gr h) : hp_len h 318 = 120 := (g.2.1 318 (14, 120) rfl).2
theorem gt_319 {h : hp_T} (g : gr h) : hp_tag h 319 = 14 := (g.2.1 319 (14, 120) rfl).1
theorem gl_319 {h : hp_T} (g : gr h) : hp_len h 319 = 120 := (g.2.1 319 (14, 120) rfl).2
theorem gt_320 {h : hp_T} (g : gr h) : hp_tag h 320 = 14 := (g.2.1 320 (14, 120) rfl).1
theorem gl_320 {h : hp_T} (g : gr h) : hp_len h 320 = 120 := (g.2.1 320 (14, 120) rfl).2
theorem gt_321 {h : hp_T} (g : gr h) : hp_tag h 321 = 14 := (g.2.1 321 (14, 120) rfl).1
theorem gl_321 {h : hp_T} (g : gr h) : hp_len h 321 = 120 := (g.2.1 321 (14, 120) rfl).2
theorem gt_322 {h : hp_T} (g : gr h) : hp_tag h 322 = 14 := (g.2.1 322 (14, 12) rfl).1
theorem gl_322 {h : hp_T} (g : gr h) : hp_len h 322 = 12 := (g.2.1 322 (14, 12) rfl).2
theorem gt_323 {h : hp_T} (g : gr h) : hp_tag h 323 = 14 := (g.2.1 323 (14, 12) rfl).1
theorem gl_323 {h : hp_T} (g : gr h) : hp_len h 323 = 12 := (g.2.1 323 (14, 12) rfl).2
theorem gt_324 {h : hp_T} (g : gr h) : hp_tag h 324 = 14 := (g.2.1 324 (14, 12) rfl).1
theorem gl_324 {h : hp_T} (g : gr h) : hp_len h 324 = 12 := (g.2.1 324 (14, 12) rfl).2
theorem gt_325 {h : hp_T} (g : gr h) : hp_tag h 325 = 16 := (g.2.1 325 (16, 201) rfl).1
theorem gl_325 {h : hp_T} (g : gr h) : hp_len h 325 = 201 := (g.2.1 325 (16, 201) rfl).2
theorem gt_326 {h : hp_T} (g : gr h) : hp_tag h 326 = 14 := (g.2.1 326 (14, 201) rfl).1
theorem gl_326 {h : hp_T} (g : gr h) : hp_len h 326 = 201 := (g.2.1 326 (14, 201) rfl).2
theorem gt_327 {h : hp_T} (g : gr h) : hp_tag h 327 = 14 := (g.2.1 327 (14, 201) rfl).1
theorem gl_327 {h : hp_T} (g : gr h) : hp_len h 327 = 201 := (g.2.1 327 (14, 201) rfl).2
theorem gt_328 {h : hp_T} (g : gr h) : hp_tag h 328 = 14 := (g.2.1 328 (14, 9) rfl).1
theorem gl_328 {h : hp_T} (g : gr h) : hp_len h 328 = 9 := (g.2.1 328 (14, 9) rfl).2
theorem gt_329 {h : hp_T} (g : gr h) : hp_tag h 329 = 15 := (g.2.1 329 (15, 90) rfl).1
theorem gl_329 {h : hp_T} (g : gr h) : hp_len h 329 = 90 := (g.2.1 329 (15, 90) rfl).2
theorem gt_330 {h : hp_T} (g : gr h) : hp_tag h 330 = 15 := (g.2.1 330 (15, 90) rfl).1
theorem gl_330 {h : hp_T} (g : gr h) : hp_len h 330 = 90 := (g.2.1 330 (15, 90) rfl).2
theorem gt_331 {h : hp_T} (g : gr h) : hp_tag h 331 = 15 := (g.2.1 331 (15, 90) rfl).1
theorem gl_331 {h : hp_T} (g : gr h) : hp_len h 331 = 90 := (g.2.1 331 (15, 90) rfl).2
theorem gt_332 {h : hp_T} (g : gr h) : hp_tag h 332 = 14 := (g.2.1 332 (14, 3) rfl).1
theorem gl_332 {h : hp_T} (g : gr h) : hp_len h 332 = 3 := (g.2.1 332 (14, 3) rfl).2
theorem gp_1_3 {h : hp_T} (g : gr h) : hp_r h 1 3 = some 2 := g.2.2 0 (1, 3, 2) rfl
theorem gp_1_4 {h : hp_T} (g : gr h) : hp_r h 1 4 = some 3 := g.2.2 1 (1, 4, 3) rfl
theorem gp_1_5 {h : hp_T} (g : gr h) : hp_r h 1 5 = some 4 := g.2.2 2 (1, 5, 4) rfl
theorem gp_1_6 {h : hp_T} (g : gr h) : hp_r h 1 6 = some 5 := g.2.2 3 (1, 6, 5) rfl
theorem gp_1_7 {h : hp_T} (g : gr h) : hp_r h 1 7 = some 6 := g.2.2 4 (1, 7, 6) rfl
theorem gp_1_8 {h : hp_T} (g : gr h) : hp_r h 1 8 = some 7 := g.2.2 5 (1, 8, 7) rfl
theorem gp_1_9 {h : hp_T} (g : gr h) : hp_r h 1 9 = some 8 := g.2.2 6 (1, 9, 8) rfl
theorem gp_9_0 {h : hp_T} (g : gr h) : hp_r h 9 0 = some 10 := g.2.2 7 (9, 0, 10) rfl
theorem gp_9_1 {h : hp_T} (g : gr h) : hp_r h 9 1 = some 11 := g.2.2 8 (9, 1, 11) rfl
theorem gp_9_2 {h : hp_T} (g : gr h) : hp_r h 9 2 = some 12 := g.2.2 9 (9, 2, 12) rfl
theorem gp_9_3 {h : hp_T} (g : gr h) : hp_r h 9 3 = some 13 := g.2.2 10 (9, 3, 13) rfl
theorem gp_9_4 {h : hp_T} (g : gr h) : hp_r h 9 4 = some 14 := g.2.2 11 (9, 4, 14) rfl
theorem gp_9_5 {h : hp_T} (g : gr h) : hp_r h 9 5 = some 15 := g.2.2 12 (9, 5, 15) rfl
theorem gp_9_6 {h : hp_T} (g : gr h) : hp_r h 9 6 = some 16 := g.2.2 13 (9, 6, 16) rfl
theorem gp_9_7 {h : hp_T} (g : gr h) : hp_r h 9 7 = some 17 := g.2.2 14 (9, 7, 17) rfl
theorem gp_9_8 {h : hp_T} (g : gr h) : hp_r h 9 8 = some 18 := g.2.2 15 (9, 8, 18) rfl
theorem gp_9_9 {h : hp_T} (g : gr h) : hp_r h 9 9 = some 19 := g.2.2 16 (9, 9, 19) rfl
theorem gp_9_10 {h : hp_T} (g : gr h) : hp_r h 9 10 = some 20 := g.2.2 17 (9, 10, 20) rfl
theorem gp_9_11 {h : hp_T} (g : gr h) : hp_r h 9 11 = some 21 := g.2.2 18 (9, 11, 21) rfl
theorem gp_9_12 {h : hp_T} (g : gr h) : hp_r h 9 12 = some 22 := g.2.2 19 (9, 12, 22) rfl
theorem gp_9_13 {h : hp_T} (g : gr h) : hp_r h 9 13 = some 23 := g.2.2 20 (9, 13, 23) rfl
theorem gp_9_14 {h : hp_T} (g : gr h) : hp_r h 9 14 = some 24 := g.2.2 21 (9, 14, 24) rfl
theorem gp_9_15 {h : hp_T} (g : gr h) : hp_r h 9 15 = some 25 := g.2.2 22 (9, 15, 25) rfl
theorem gp_9_16 {h : hp_T} (g : gr h) : hp_r h 9 16 = some 26 := g.2.2 23 (9, 16, 26) rfl
theorem gp_9_17 {h : hp_T} (g : gr h) : hp_r h 9 17 = some 27 := g.2.2 24 (9, 17, 27) rfl
theorem gp_9_18 {h : hp_T} (g : gr h) : hp_r h 9 18 = some 28 := g.2.2 25 (9, 18, 28) rfl
theorem gp_9_19 {h : hp_T} (g : gr h) : hp_r h 9 19 = some 29 := g.2.2 26 (9, 19, 29) rfl
theorem gp_9_20 {h : hp_T} (g : gr h) : hp_r h 9 20 = some 30 := g.2.2 27 (9, 20, 30) rfl
theorem gp_9_21 {h : hp_T} (g : gr h) : hp_r h 9 21 = some 31 := g.2.2 28 (9, 21, 31) rfl
theorem gp_9_22 {h : hp_T} (g : gr h) : hp_r h 9 22 = some 32 := g.2.2 29 (9, 22, 32) rfl
theorem gp_9_23 {h : hp_T} (g : gr h) : hp_r h 9 23 = some 33 := g.2.2 30 (9, 23, 33) rfl
theorem gp_9_24 {h : hp_T} (g : gr h) : hp_r h 9 24 = some 34 := g.2.2 31 (9, 24, 34) rfl
theorem gp_9_25 {h : hp_T} (g : gr h) : hp_r h 9 25 = some 35 := g.2.2 32 (9, 25, 35) rfl
theorem gp_9_26 {h : hp_T} (g : gr h) : hp_r h 9 26 = some 36 := g.2.2 33 (9, 26, 36) rfl
theorem gp_9_27 {h : hp_T} (g : gr h) : hp_r h 9 27 = some 37 := g.2.2 34 (9, 27, 37) rfl
theorem gp_9_28 {h : hp_T} (g : gr h) : hp_r h 9 28 = some 38 := g.2.2 35 (9, 28, 38) rfl
theorem gp_9_29 {h : hp_T} (g : gr h) : hp_r h 9 29 = some 39 := g.2.2 36 (9, 29, 39) rfl
theorem gp_9_30 {h : hp_T} (g : gr h) : hp_r h 9 30 = some 40 := g.2.2 37 (9, 30, 40) rfl
theorem gp_9_31 {h : hp_T} (g : gr h) : hp_r h 9 31 = some 41 := g.2.2 38 (9, 31, 41) rfl
theorem gp_9_32 {h : hp_T} (g : gr h) : hp_r h 9 32 = some 42 := g.2.2 39 (9, 32, 42) rfl
theorem gp_9_33 {h : hp_T} (g : gr h) : hp_r h 9 33 = some 43 := g.2.2 40 (9, 33, 43) rfl
theorem gp_9_34 {h : hp_T} (g : gr h) : hp_r h 9 34 = some 44 := g.2.2 41 (9, 34, 44) rfl
theorem gp_9_35 {h : hp_T} (g : gr h) : hp_r h 9 35 = some 45 := g.2.2 42 (9, 35, 45) rfl
theorem gp_9_36 {h : hp_T} (g : gr h) : hp_r h 9 36 = some 46 := g.2.2 43 (9, 36, 46) rfl
theorem gp_9_37 {h : hp_T} (g : gr h) : hp_r h 9 37 = some 47 := g.2.2 44 (9, 37, 47) rfl
theorem gp_9_38 {h : hp_T} (g : gr h) : hp_r h 9 38 = some 48 := g.2.2 45 (9, 38, 48) rfl
theorem gp_9_39 {h : hp_T} (g : gr h) : hp_r h 9 39 = some 49 := g.2.2 46 (9, 39, 49) rfl
theorem gp_9_40 {h : hp_T} (g : gr h) : hp_r h 9 40 = some 50 := g.2.2 47 (9, 40, 50) rfl
theorem gp_9_41 {h : hp_T} (g : gr h) : hp_r h 9 41 = some 51 := g.2.2 48 (9, 41, 51) rfl
theorem gp_9_42 {h : hp_T} (g : gr h) : hp_r h 9 42 = some 52 := g.2.2 49 (9, 42, 52) rfl
theorem gp_9_43 {h : hp_T} (g : gr h) : hp_r h 9 43 = some 53 := g.2.2 50 (9, 43, 53) rfl
theorem gp_9_44 {h : hp_T} (g : gr h) : hp_r h 9 44 = some 54 := g.2.2 51 (9, 44, 54) rfl
theorem gp_9_45 {h : hp_T} (g : gr h) : hp_r h 9 45 = some 55 := g.2.2 52 (9, 45, 55) rfl
theorem gp_9_46 {h : hp_T} (g : gr h) : hp_r h 9 46 = some 56 := g.2.2 53 (9, 46, 56) rfl
theorem gp_9_47 {h : hp_T} (g : gr h) : hp_r h 9 47 = some 57 := g.2.2 54 (9, 47, 57) rfl
theorem gp_9_48 {h : hp_T} (g : gr h) : hp_r h 9 48 = some 58 := g.2.2 55 (9, 48, 58) rfl
theorem gp_9_49 {h : hp_T} (g : gr h) : hp_r h 9 49 = some 59 := g.2.2 56 (9, 49, 59) rfl
theorem gp_9_50 {h : hp_T} (g : gr h) : hp_r h 9 50 = some 60 := g.2.2 57 (9, 50, 60) rfl
theorem gp_9_51 {h : hp_T} (g : gr h) : hp_r h 9 51 = some 61 := g.2.2 58 (9, 51, 61) rfl
theorem gp_9_52 {h : hp_T} (g : gr h) : hp_r h 9 52 = some 62 := g.2.2 59 (9, 52, 62) rfl
theorem gp_9_53 {h : hp_T} (g : gr h) : hp_r h 9 53 = some 63 := g.2.2 60 (9, 53, 63) rfl
theorem gp_9_54 {h : hp_T} (g : gr h) : hp_r h 9 54 = some 64 := g.2.2 61 (9, 54, 64) rfl
theorem gp_9_55 {h : hp_T} (g : gr h) : hp_r h 9 55 = some 65 := g.2.2 62 (9, 55, 65) rfl
theorem gp_9_56 {h : hp_T} (g : gr h) : hp_r h 9 56 = some 66 := g.2.2 63 (9, 56, 66) rfl
theorem gp_9_57 {h : hp_T} (g : gr h) : hp_r h 9 57 = some 67 := g.2.2 64 (9, 57, 67) rfl
theorem gp_9_58 {h : hp_T} (g : gr h) : hp_r h 9 58 = some 68 := g.2.2 65 (9, 58, 68) rfl
theorem gp_9_59 {h : hp_T} (g : gr h) : hp_r h 9 59 = some 69 := g.2.2 66 (9, 59, 69) rfl
theorem gp_9_60 {h : hp_T} (g : gr h) : hp_r h 9 60 = some 70 := g.2.2 67 (9, 60, 70) rfl
theorem gp_9_61 {h : hp_T} (g : gr h) : hp_r h 9 61 = some 71 := g.2.2 68 (9, 61, 71) rfl
theorem gp_9_62 {h : hp_T} (g : gr h) : hp_r h 9 62 = some 72 := g.2.2 69 (9, 62, 72) rfl
theorem gp_9_63 {h : hp_T} (g : gr h) : hp_r h 9 63 = some 73 := g.2.2 70 (9, 63, 73) rfl
theorem gp_9_64 {h : hp_T} (g : gr h) : hp_r h 9 64 = some 74 := g.2.2 71 (9, 64, 74) rfl
theorem gp_9_65 {h : hp_T} (g : gr h) : hp_r h 9 65 = some 75 := g.2.2 72 (9, 65, 75) rfl
theorem gp_9_66 {h : hp_T} (g : gr h) : hp_r h 9 66 = some 76 := g.2.2 73 (9, 66, 76) rfl
theorem gp_9_67 {h : hp_T} (g : gr h) : hp_r h 9 67 = some 77 := g.2.2 74 (9, 67, 77) rfl
theorem gp_9_68 {h : hp_T} (g : gr h) : hp_r h 9 68 = some 78 := g.2.2 75 (9, 68, 78) rfl
theorem gp_9_69 {h : hp_T} (g : gr h) : hp_r h 9 69 = some 79 := g.2.2 76 (9, 69, 79) rfl
theorem gp_9_70 {h : hp_T} (g : gr h) : hp_r h 9 70 = some 80 := g.2.2 77 (9, 70, 80) rfl
theorem gp_9_71 {h : hp_T} (g : gr h) : hp_r h 9 71 = some 81 := g.2.2 78 (9, 71, 81) rfl
theorem gp_9_72 {h : hp_T} (g : gr h) : hp_r h 9 72 = some 82 := g.2.2 79 (9, 72, 82) rfl
theorem gp_9_73 {h : hp_T} (g : gr h) : hp_r h 9 73 = some 83 := g.2.2 80 (9, 73, 83) rfl
theorem gp_9_74 {h : hp_T} (g : gr h) : hp_r h 9 74 = some 84 := g.2.2 81 (9, 74, 84) rfl
theorem gp_9_75 {h : hp_T} (g : gr h) : hp_r h 9 75 = some 85 := g.2.2 82 (9, 75, 85) rfl
theorem gp_9_76 {h : hp_T} (g : gr h) : hp_r h 9 76 = some 86 := g.2.2 83 (9, 76, 86) rfl
theorem gp_9_77 {h : hp_T} (g : gr h) : hp_r h 9 77 = some 87 := g.2.2 84 (9, 77, 87) rfl
theorem gp_9_78 {h : hp_T} (g : gr h) : hp_r h 9 78 = some 88 := g.2.2 85 (9, 78, 88) rfl
theorem gp_9_79 {h : hp_T} (g : gr h) : hp_r h 9 79 = some 89 := g.2.2 86 (9, 79, 89) rfl
theorem gp_9_80 {h : hp_T} (g : gr h) : hp_r h 9 80 = some 90 := g.2.2 87 (9, 80, 90) rfl
theorem gp_9_81 {h : hp_T} (g : gr h) : hp_r h 9 81 = some 91 := g.2.2 88 (9, 81, 91) rfl
theorem gp_9_82 {h : hp_T} (g : gr h) : hp_r h 9 82 = some 92 := g.2.2 89 (9, 82, 92) rfl
theorem gp_9_83 {h : hp_T} (g : gr h) : hp_r h 9 83 = some 93 := g.2.2 90 (9, 83, 93) rfl
theorem gp_9_84 {h : hp_T} (g : gr h) : hp_r h 9 84 = some 94 := g.2.2 91 (9, 84, 94) rfl
theorem gp_9_85 {h : hp_T} (g : gr h) : hp_r h 9 85 = some 95 := g.2.2 92 (9, 85, 95) rfl
theorem gp_9_86 {h : hp_T} (g : gr h) : hp_r h 9 86 = some 96 := g.2.2 93 (9, 86, 96) rfl
theorem gp_9_87 {h : hp_T} (g : gr h) : hp_r h 9 87 = some 97 := g.2.2 94 (9, 87, 97) rfl
theorem gp_9_88 {h : hp_T} (g : gr h) : hp_r h 9 88 = some 98 := g.2.2 95 (9, 88, 98) rfl
theorem gp_9_89 {h : hp_T} (g : gr h) : hp_r h 9 89 = some 99 := g.2.2 96 (9, 89, 99) rfl
theorem gp_9_90 {h : hp_T} (g : gr h) : hp_r h 9 90 = some 100 := g.2.2 97 (9, 90, 100) rfl
theorem gp_9_91 {h : hp_T} (g : gr h) : hp_r h 9 91 = some 101 := g.2.2 98 (9, 91, 101) rfl
theorem gp_9_92 {h : hp_T} (g : gr h) : hp_r h 9 92 = some 102 := g.2.2 99 (9, 92, 102) rfl
theorem gp_9_93 {h : hp_T} (g : gr h) : hp_r h 9 93 = some 103 := g.2.2 100 (9, 93, 103) rfl
theorem gp_9_94 {h : hp_T} (g : gr h) : hp_r h 9 94 = some 104 := g.2.2 101 (9, 94, 104) rfl
theorem gp_9_95 {h : hp_T} (g : gr h) : hp_r h 9 95 = some 105 := g.2.2 102 (9, 95, 105) rfl
theorem gp_9_96 {h : hp_T} (g : gr h) : hp_r h 9 96 = some 106 := g.2.2 103 (9, 96, 106) rfl
theorem gp_9_97 {h : hp_T} (g : gr h) : hp_r h 9 97 = some 107 := g.2.2 104 (9, 97, 107) rfl
theorem gp_9_98 {h : hp_T} (g : gr h) : hp_r h 9 98 = some 108 := g.2.2 105 (9, 98, 108) rfl
theorem gp_9_99 {h : hp_T} (g : gr h) : hp_r h 9 99 = some 109 := g.2.2 106 (9, 99, 109) rfl
theorem gp_9_100 {h : hp_T} (g : gr h) : hp_r h 9 100 = some 110 := g.2.2 107 (9, 100, 110) rfl
theorem gp_9_101 {h : hp_T} (g : gr h) : hp_r h 9 101 = some 111 := g.2.2 108 (9, 101, 111) rfl
theorem gp_9_102 {h : hp_T} (g : gr h) : hp_r h 9 102 = some 112 := g.2.2 109 (9, 102, 112) rfl
theorem gp_9_103 {h : hp_T} (g : gr h) : hp_r h 9 103 = some 113 := g.2.2 110 (9, 103, 113) rfl
theorem gp_9_104 {h : hp_T} (g : gr h) : hp_r h 9 104 = some 114 := g.2.2 111 (9, 104, 114) rfl
theorem gp_9_105 {h : hp_T} (g : gr h) : hp_r h 9 105 = some 115 := g.2.2 112 (9, 105, 115) rfl
theorem gp_9_106 {h : hp_T} (g : gr h) : hp_r h 9 106 = some 116 := g.2.2 113 (9, 106, 116) rfl
theorem gp_9_107 {h : hp_T} (g : gr h) : hp_r h 9 107 = some 117 := g.2.2 114 (9, 107, 117) rfl
theorem gp_9_108 {h : hp_T} (g : gr h) : hp_r h 9 108 = some 118 := g.2.2 115 (9, 108, 118) rfl
theorem gp_9_109 {h : hp_T} (g : gr h) : hp_r h 9 109 = some 119 := g.2.2 116 (9, 109, 119) rfl
theorem gp_9_110 {h : hp_T} (g : gr h) : hp_r h 9 110 = some 120 := g.2.2 117 (9, 110, 120) rfl
theorem gp_9_111 {h : hp_T} (g : gr h) : hp_r h 9 111 = some 121 := g.2.2 118 (9, 111, 121) rfl
theorem gp_9_112 {h : hp_T} (g : gr h) : hp_r h 9 112 = some 122 := g.2.2 119 (9, 112, 122) rfl
theorem gp_9_113 {h : hp_T} (g : gr h) : hp_r h 9 113 = some 123 := g.2.2 120 (9, 113, 123) rfl
theorem gp_9_114 {h : hp_T} (g : gr h) : hp_r h 9 114 = some 124 := g.2.2 121 (9, 114, 124) rfl
theorem gp_9_115 {h : hp_T} (g : gr h) : hp_r h 9 115 = some 125 := g.2.2 122 (9, 115, 125) rfl
theorem gp_9_116 {h : hp_T} (g : gr h) : hp_r h 9 116 = some 126 := g.2.2 123 (9, 116, 126) rfl
theorem gp_9_117 {h : hp_T} (g : gr h) : hp_r h 9 117 = some 127 := g.2.2 124 (9, 117, 127) rfl
theorem gp_9_118 {h : hp_T} (g : gr h) : hp_r h 9 118 = some 128 := g.2.2 125 (9, 118, 128) rfl
theorem gp_9_119 {h : hp_T} (g : gr h) : hp_r h 9 119 = some 129 := g.2.2 126 (9, 119, 129) rfl
theorem gp_1_10 {h : hp_T} (g : gr h) : hp_r h 1 10 = some 9 := g.2.2 127 (1, 10, 9) rfl
theorem gp_1_11 {h : hp_T} (g : gr h) : hp_r h 1 11 = some 130 := g.2.2 128 (1, 11, 130) rfl
theorem gp_1_12 {h : hp_T} (g : gr h) : hp_r h 1 12 = some 131 := g.2.2 129 (1, 12, 131) rfl
theorem gp_1_13 {h : hp_T} (g : gr h) : hp_r h 1 13 = some 132 := g.2.2 130 (1, 13, 132) rfl
theorem gp_1_14 {h : hp_T} (g : gr h) : hp_r h 1 14 = some 133 := g.2.2 131 (1, 14, 133) rfl
theorem gp_1_15 {h : hp_T} (g : gr h) : hp_r h 1 15 = some 134 := g.2.2 132 (1, 15, 134) rfl
theorem gp_135_0 {h : hp_T} (g : gr h) : hp_r h 135 0 = some 136 := g.2.2 133 (135, 0, 136) rfl
theorem gp_135_1 {h : hp_T} (g : gr h) : hp_r h 135 1 = some 137 := g.2.2 134 (135, 1, 137) rfl
theorem gp_135_2 {h : hp_T} (g : gr h) : hp_r h 135 2 = some 138 := g.2.2 135 (135, 2, 138) rfl
theorem gp_135_3 {h : hp_T} (g : gr h) : hp_r h 135 3 = some 139 := g.2.2 136 (135, 3, 139) rfl
theorem gp_135_4 {h : hp_T} (g : gr h) : hp_r h 135 4 = some 140 := g.2.2 137 (135, 4, 140) rfl
theorem gp_135_5 {h : hp_T} (g : gr h) : hp_r h 135 5 = some 141 := g.2.2 138 (135, 5, 141) rfl
theorem gp_135_6 {h : hp_T} (g : gr h) : hp_r h 135 6 = some 142 := g.2.2 139 (135, 6, 142) rfl
theorem gp_135_7 {h : hp_T} (g : gr h) : hp_r h 135 7 = some 143 := g.2.2 140 (135, 7, 143) rfl
theorem gp_135_8 {h : hp_T} (g : gr h) : hp_r h 135 8 = some 144 := g.2.2 141 (135, 8, 144) rfl
theorem gp_1_16 {h : hp_T} (g : gr h) : hp_r h 1 16 = some 135 := g.2.2 142 (1, 16, 135) rfl
theorem gp_0_0 {h : hp_T} (g : gr h) : hp_r h 0 0 = some 1 := g.2.2 143 (0, 0, 1) rfl
theorem gp_145_1 {h : hp_T} (g : gr h) : hp_r h 145 1 = some 146 := g.2.2 144 (145, 1, 146) rfl
theorem gp_145_2 {h : hp_T} (g : gr h) : hp_r h 145 2 = some 147 := g.2.2 145 (145, 2, 147) rfl
theorem gp_145_3 {h : hp_T} (g : gr h) : hp_r h 145 3 = some 148 := g.2.2 146 (145, 3, 148) rfl
theorem gp_145_4 {h : hp_T} (g : gr h) : hp_r h 145 4 = some 149 := g.2.2 147 (145, 4, 149) rfl
theorem gp_0_1 {h : hp_T} (g : gr h) : hp_r h 0 1 = some 145 := g.2.2 148 (0, 1, 145) rfl
theorem gp_150_5 {h : hp_T} (g : gr h) : hp_r h 150 5 = some 151 := g.2.2 149 (150, 5, 151) rfl
theorem gp_150_6 {h : hp_T} (g : gr h) : hp_r h 150 6 = some 152 := g.2.2 150 (150, 6, 152) rfl
theorem gp_150_7 {h : hp_T} (g : gr h) : hp_r h 150 7 = some 153 := g.2.2 151 (150, 7, 153) rfl
theorem gp_150_8 {h : hp_T} (g : gr h) : hp_r h 150 8 = some 154 := g.2.2 152 (150, 8, 154) rfl
theorem gp_150_9 {h : hp_T} (g : gr h) : hp_r h 150 9 = some 155 := g.2.2 153 (150, 9, 155) rfl
theorem gp_150_10 {h : hp_T} (g : gr h) : hp_r h 150 10 = some 156 := g.2.2 154 (150, 10, 156) rfl
theorem gp_150_11 {h : hp_T} (g : gr h) : hp_r h 150 11 = some 157 := g.2.2 155 (150, 11, 157) rfl
theorem gp_0_2 {h : hp_T} (g : gr h) : hp_r h 0 2 = some 150 := g.2.2 156 (0, 2, 150) rfl
theorem gp_158_2 {h : hp_T} (g : gr h) : hp_r h 158 2 = some 159 := g.2.2 157 (158, 2, 159) rfl
theorem gp_158_3 {h : hp_T} (g : gr h) : hp_r h 158 3 = some 160 := g.2.2 158 (158, 3, 160) rfl
theorem gp_158_4 {h : hp_T} (g : gr h) : hp_r h 158 4 = some 161 := g.2.2 159 (158, 4, 161) rfl
theorem gp_158_5 {h : hp_T} (g : gr h) : hp_r h 158 5 = some 162 := g.2.2 160 (158, 5, 162) rfl
theorem gp_158_6 {h : hp_T} (g : gr h) : hp_r h 158 6 = some 163 := g.2.2 161 (158, 6, 163) rfl
theorem gp_158_7 {h : hp_T} (g : gr h) : hp_r h 158 7 = some 164 := g.2.2 162 (158, 7, 164) rfl
theorem gp_0_3 {h : hp_T} (g : gr h) : hp_r h 0 3 = some 158 := g.2.2 163 (0, 3, 158) rfl
theorem gp_165_1 {h : hp_T} (g : gr h) : hp_r h 165 1 = some 166 := g.2.2 164 (165, 1, 166) rfl
theorem gp_165_2 {h : hp_T} (g : gr h) : hp_r h 165 2 = some 167 := g.2.2 165 (165, 2, 167) rfl
theorem gp_165_3 {h : hp_T} (g : gr h) : hp_r h 165 3 = some 168 := g.2.2 166 (165, 3, 168) rfl
theorem gp_165_4 {h : hp_T} (g : gr h) : hp_r h 165 4 = some 169 := g.2.2 167 (165, 4, 169) rfl
theorem gp_165_5 {h : hp_T} (g : gr h) : hp_r h 165 5 = some 170 := g.2.2 168 (165, 5, 170) rfl
theorem gp_0_4 {h : hp_T} (g : gr h) : hp_r h 0 4 = some 165 := g.2.2 169 (0, 4, 165) rfl
theorem gp_171_2 {h : hp_T} (g : gr h) : hp_r h 171 2 = some 172 := g.2.2 170 (171, 2, 172) rfl
theorem gp_171_3 {h : hp_T} (g : gr h) : hp_r h 171 3 = some 173 := g.2.2 171 (171, 3, 173) rfl
theorem gp_171_0 {h : hp_T} (g : gr h) : hp_r h 171 0 = some 1 := g.2.2 172 (171, 0, 1) rfl
theorem gp_171_1 {h : hp_T} (g : gr h) : hp_r h 171 1 = some 165 := g.2.2 173 (171, 1, 165) rfl
theorem gp_0_5 {h : hp_T} (g : gr h) : hp_r h 0 5 = some 171 := g.2.2 174 (0, 5, 171) rfl
theorem gp_174_3 {h : hp_T} (g : gr h) : hp_r h 174 3 = some 175 := g.2.2 175 (174, 3, 175) rfl
theorem gp_174_4 {h : hp_T} (g : gr h) : hp_r h 174 4 = some 176 := g.2.2 176 (174, 4, 176) rfl
theorem gp_174_7 {h : hp_T} (g : gr h) : hp_r h 174 7 = some 177 := g.2.2 177 (174, 7, 177) rfl
theorem gp_174_8 {h : hp_T} (g : gr h) : hp_r h 174 8 = some 178 := g.2.2 178 (174, 8, 178) rfl
theorem gp_174_9 {h : hp_T} (g : gr h) : hp_r h 174 9 = some 179 := g.2.2 179 (174, 9, 179) rfl
theorem gp_174_10 {h : hp_T} (g : gr h) : hp_r h 174 10 = some 180 := g.2.2 180 (174, 10, 180) rfl
theorem gp_174_11 {h : hp_T} (g : gr h) : hp_r h 174 11 = some 181 := g.2.2 181 (174, 11, 181) rfl
theorem gp_174_12 {h : hp_T} (g : gr h) : hp_r h 174 12 = some 182 := g.2.2 182 (174, 12, 182) rfl
theorem gp_174_13 {h : hp_T} (g : gr h) : hp_r h 174 13 = some 183 := g.2.2 183 (174, 13, 183) rfl
theorem gp_174_14 {h : hp_T} (g : gr h) : hp_r h 174 14 = some 184 := g.2.2 184 (174, 14, 184) rfl
theorem gp_174_15 {h : hp_T} (g : gr h) : hp_r h 174 15 = some 185 := g.2.2 185 (174, 15, 185) rfl
theorem gp_174_5 {h : hp_T} (g : gr h) : hp_r h 174 5 = some 1 := g.2.2 186 (174, 5, 1) rfl
theorem gp_174_6 {h : hp_T} (g : gr h) : hp_r h 174 6 = some 145 := g.2.2 187 (174, 6, 145) rfl
theorem gp_0_6 {h : hp_T} (g : gr h) : hp_r h 0 6 = some 174 := g.2.2 188 (0, 6, 174) rfl
theorem gp_186_0 {h : hp_T} (g : gr h) : hp_r h 186 0 = some 187 := g.2.2 189 (186, 0, 187) rfl
theorem gp_186_1 {h : hp_T} (g : gr h) : hp_r h 186 1 = some 188 := g.2.2 190 (186, 1, 188) rfl
theorem gp_186_2 {h : hp_T} (g : gr h) : hp_r h 186 2 = some 189 := g.2.2 191 (186, 2, 189) rfl
theorem gp_186_3 {h : hp_T} (g : gr h) : hp_r h 186 3 = some 190 := g.2.2 192 (186, 3, 190) rfl
theorem gp_186_7 {h : hp_T} (g : gr h) : hp_r h 186 7 = some 191 := g.2.2 193 (186, 7, 191) rfl
theorem gp_186_8 {h : hp_T} (g : gr h) : hp_r h 186 8 = some 192 := g.2.2 194 (186, 8, 192) rfl
theorem gp_186_4 {h : hp_T} (g : gr h) : hp_r h 186 4 = some 158 := g.2.2 195 (186, 4, 158) rfl
theorem gp_186_5 {h : hp_T} (g : gr h) : hp_r h 186 5 = some 165 := g.2.2 196 (186, 5, 165) rfl
theorem gp_186_6 {h : hp_T} (g : gr h) : hp_r h 186 6 = some 171 := g.2.2 197 (186, 6, 171) rfl
theorem gp_0_7 {h : hp_T} (g : gr h) : hp_r h 0 7 = some 186 := g.2.2 198 (0, 7, 186) rfl
theorem gp_193_3 {h : hp_T} (g : gr h) : hp_r h 193 3 = some 194 := g.2.2 199 (193, 3, 194) rfl
theorem gp_193_4 {h : hp_T} (g : gr h) : hp_r h 193 4 = some 195 := g.2.2 200 (193, 4, 195) rfl
theorem gp_193_7 {h : hp_T} (g : gr h) : hp_r h 193 7 = some 196 := g.2.2 201 (193, 7, 196) rfl
theorem gp_193_8 {h : hp_T} (g : gr h) : hp_r h 193 8 = some 197 := g.2.2 202 (193, 8, 197) rfl
theorem gp_193_9 {h : hp_T} (g : gr h) : hp_r h 193 9 = some 198 := g.2.2 203 (193, 9, 198) rfl
theorem gp_193_10 {h : hp_T} (g : gr h) : hp_r h 193 10 = some 199 := g.2.2 204 (193, 10, 199) rfl
theorem gp_193_11 {h : hp_T} (g : gr h) : hp_r h 193 11 = some 200 := g.2.2 205 (193, 11, 200) rfl
theorem gp_193_12 {h : hp_T} (g : gr h) : hp_r h 193 12 = some 201 := g.2.2 206 (193, 12, 201) rfl
theorem gp_193_13 {h : hp_T} (g : gr h) : hp_r h 193 13 = some 202 := g.2.2 207 (193, 13, 202) rfl
theorem gp_193_14 {h : hp_T} (g : gr h) : hp_r h 193 14 = some 203 := g.2.2 208 (193, 14, 203) rfl
theorem gp_193_15 {h : hp_T} (g : gr h) : hp_r h 193 15 = some 204 := g.2.2 209 (193, 15, 204) rfl
theorem gp_193_5 {h : hp_T} (g : gr h) : hp_r h 193 5 = some 1 := g.2.2 210 (193, 5, 1) rfl
theorem gp_193_6 {h : hp_T} (g : gr h) : hp_r h 193 6 = some 145 := g.2.2 211 (193, 6, 145) rfl
theorem gp_0_8 {h : hp_T} (g : gr h) : hp_r h 0 8 = some 193 := g.2.2 212 (0, 8, 193) rfl
theorem gp_205_0 {h : hp_T} (g : gr h) : hp_r h 205 0 = some 206 := g.2.2 213 (205, 0, 206) rfl
theorem gp_205_1 {h : hp_T} (g : gr h) : hp_r h 205 1 = some 207 := g.2.2 214 (205, 1, 207) rfl
theorem gp_205_2 {h : hp_T} (g : gr h) : hp_r h 205 2 = some 208 := g.2.2 215 (205, 2, 208) rfl
theorem gp_205_3 {h : hp_T} (g : gr h) : hp_r h 205 3 = some 209 := g.2.2 216 (205, 3, 209) rfl
theorem gp_205_7 {h : hp_T} (g : gr h) : hp_r h 205 7 = some 210 := g.2.2 217 (205, 7, 210) rfl
theorem gp_205_8 {h : hp_T} (g : gr h) : hp_r h 205 8 = some 211 := g.2.2 218 (205, 8, 211) rfl
theorem gp_205_4 {h : hp_T} (g : gr h) : hp_r h 205 4 = some 158 := g.2.2 219 (205, 4, 158) rfl
theorem gp_205_5 {h : hp_T} (g : gr h) : hp_r h 205 5 = some 165 := g.2.2 220 (205, 5, 165) rfl
theorem gp_205_6 {h : hp_T} (g : gr h) : hp_r h 205 6 = some 171 := g.2.2 221 (205, 6, 171) rfl
theorem gp_0_9 {h : hp_T} (g : gr h) : hp_r h 0 9 = some 205 := g.2.2 222 (0, 9, 205) rfl
theorem gp_213_0 {h : hp_T} (g : gr h) : hp_r h 213 0 = some 214 := g.2.2 223 (213, 0, 214) rfl
theorem gp_213_1 {h : hp_T} (g : gr h) : hp_r h 213 1 = some 215 := g.2.2 224 (213, 1, 215) rfl
theorem gp_213_2 {h : hp_T} (g : gr h) : hp_r h 213 2 = some 216 := g.2.2 225 (213, 2, 216) rfl
theorem gp_213_3 {h : hp_T} (g : gr h) : hp_r h 213 3 = some 217 := g.2.2 226 (213, 3, 217) rfl
theorem gp_213_4 {h : hp_T} (g : gr h) : hp_r h 213 4 = some 218 := g.2.2 227 (213, 4, 218) rfl
theorem gp_213_5 {h : hp_T} (g : gr h) : hp_r h 213 5 = some 219 := g.2.2 228 (213, 5, 219) rfl
theorem gp_213_6 {h : hp_T} (g : gr h) : hp_r h 213 6 = some 220 := g.2.2 229 (213, 6, 220) rfl
theorem gp_213_7 {h : hp_T} (g : gr h) : hp_r h 213 7 = some 221 := g.2.2 230 (213, 7, 221) rfl
theorem gp_213_8 {h : hp_T} (g : gr h) : hp_r h 213 8 = some 222 := g.2.2 231 (213, 8, 222) rfl
theorem gp_212_1 {h : hp_T} (g : gr h) : hp_r h 212 1 = some 213 := g.2.2 232 (212, 1, 213) rfl
theorem gp_223_0 {h : hp_T} (g : gr h) : hp_r h 223 0 = some 224 := g.2.2 233 (223, 0, 224) rfl
theorem gp_223_1 {h : hp_T} (g : gr h) : hp_r h 223 1 = some 225 := g.2.2 234 (223, 1, 225) rfl
theorem gp_223_2 {h : hp_T} (g : gr h) : hp_r h 223 2 = some 226 := g.2.2 235 (223, 2, 226) rfl
theorem gp_223_3 {h : hp_T} (g : gr h) : hp_r h 223 3 = some 227 := g.2.2 236 (223, 3, 227) rfl
theorem gp_223_4 {h : hp_T} (g : gr h) : hp_r h 223 4 = some 228 := g.2.2 237 (223, 4, 228) rfl
theorem gp_223_5 {h : hp_T} (g : gr h) : hp_r h 223 5 = some 229 := g.2.2 238 (223, 5, 229) rfl
theorem gp_223_6 {h : hp_T} (g : gr h) : hp_r h 223 6 = some 230 := g.2.2 239 (223, 6, 230) rfl
theorem gp_223_7 {h : hp_T} (g : gr h) : hp_r h 223 7 = some 231 := g.2.2 240 (223, 7, 231) rfl
theorem gp_223_8 {h : hp_T} (g : gr h) : hp_r h 223 8 = some 232 := g.2.2 241 (223, 8, 232) rfl
theorem gp_212_2 {h : hp_T} (g : gr h) : hp_r h 212 2 = some 223 := g.2.2 242 (212, 2, 223) rfl
theorem gp_233_0 {h : hp_T} (g : gr h) : hp_r h 233 0 = some 234 := g.2.2 243 (233, 0, 234) rfl
theorem gp_233_1 {h : hp_T} (g : gr h) : hp_r h 233 1 = some 235 := g.2.2 244 (233, 1, 235) rfl
theorem gp_233_2 {h : hp_T} (g : gr h) : hp_r h 233 2 = some 236 := g.2.2 245 (233, 2, 236) rfl
theorem gp_233_3 {h : hp_T} (g : gr h) : hp_r h 233 3 = some 237 := g.2.2 246 (233, 3, 237) rfl
theorem gp_233_4 {h : hp_T} (g : gr h) : hp_r h 233 4 = some 238 := g.2.2 247 (233, 4, 238) rfl
theorem gp_233_5 {h : hp_T} (g : gr h) : hp_r h 233 5 = some 239 := g.2.2 248 (233, 5, 239) rfl
theorem gp_233_6 {h : hp_T} (g : gr h) : hp_r h 233 6 = some 240 := g.2.2 249 (233, 6, 240) rfl
theorem gp_233_7 {h : hp_T} (g : gr h) : hp_r h 233 7 = some 241 := g.2.2 250 (233, 7, 241) rfl
theorem gp_233_8 {h : hp_T} (g : gr h) : hp_r h 233 8 = some 242 := g.2.2 251 (233, 8, 242) rfl
theorem gp_212_3 {h : hp_T} (g : gr h) : hp_r h 212 3 = some 233 := g.2.2 252 (212, 3, 233) rfl
theorem gp_0_10 {h : hp_T} (g : gr h) : hp_r h 0 10 = some 212 := g.2.2 253 (0, 10, 212) rfl
theorem gp_243_2 {h : hp_T} (g : gr h) : hp_r h 243 2 = some 244 := g.2.2 254 (243, 2, 244) rfl
theorem gp_243_3 {h : hp_T} (g : gr h) : hp_r h 243 3 = some 245 := g.2.2 255 (243, 3, 245) rfl
theorem gp_243_6 {h : hp_T} (g : gr h) : hp_r h 243 6 = some 246 := g.2.2 256 (243, 6, 246) rfl
theorem gp_243_4 {h : hp_T} (g : gr h) : hp_r h 243 4 = some 145 := g.2.2 257 (243, 4, 145) rfl
theorem gp_243_5 {h : hp_T} (g : gr h) : hp_r h 243 5 = some 193 := g.2.2 258 (243, 5, 193) rfl
theorem gp_0_11 {h : hp_T} (g : gr h) : hp_r h 0 11 = some 243 := g.2.2 259 (0, 11, 243) rfl
theorem gp_247_0 {h : hp_T} (g : gr h) : hp_r h 247 0 = some 248 := g.2.2 260 (247, 0, 248) rfl
theorem gp_247_9 {h : hp_T} (g : gr h) : hp_r h 247 9 = some 249 := g.2.2 261 (247, 9, 249) rfl
theorem gp_247_10 {h : hp_T} (g : gr h) : hp_r h 247 10 = some 250 := g.2.2 262 (247, 10, 250) rfl
theorem gp_247_11 {h : hp_T} (g : gr h) : hp_r h 247 11 = some 251 := g.2.2 263 (247, 11, 251) rfl
theorem gp_247_12 {h : hp_T} (g : gr h) : hp_r h 247 12 = some 252 := g.2.2 264 (247, 12, 252) rfl
theorem gp_247_13 {h : hp_T} (g : gr h) : hp_r h 247 13 = some 253 := g.2.2 265 (247, 13, 253) rfl
theorem gp_247_14 {h : hp_T} (g : gr h) : hp_r h 247 14 = some 254 := g.2.2 266 (247, 14, 254) rfl
theorem gp_247_15 {h : hp_T} (g : gr h) : hp_r h 247 15 = some 255 := g.2.2 267 (247, 15, 255) rfl
theorem gp_247_16 {h : hp_T} (g : gr h) : hp_r h 247 16 = some 256 := g.2.2 268 (247, 16, 256) rfl
theorem gp_247_17 {h : hp_T} (g : gr h) : hp_r h 247 17 = some 257 := g.2.2 269 (247, 17, 257) rfl
theorem gp_247_18 {h : hp_T} (g : gr h) : hp_r h 247 18 = some 258 := g.2.2 270 (247, 18, 258) rfl
theorem gp_247_19 {h : hp_T} (g : gr h) : hp_r h 247 19 = some 259 := g.2.2 271 (247, 19, 259) rfl
theorem gp_247_20 {h : hp_T} (g : gr h) : hp_r h 247 20 = some 260 := g.2.2 272 (247, 20, 260) rfl
theorem gp_247_21 {h : hp_T} (g : gr h) : hp_r h 247 21 = some 261 := g.2.2 273 (247, 21, 261) rfl
theorem gp_247_22 {h : hp_T} (g : gr h) : hp_r h 247 22 = some 262 := g.2.2 274 (247, 22, 262) rfl
theorem gp_247_23 {h : hp_T} (g : gr h) : hp_r h 247 23 = some 263 := g.2.2 275 (247, 23, 263) rfl
theorem gp_247_24 {h : hp_T} (g : gr h) : hp_r h 247 24 = some 264 := g.2.2 276 (247, 24, 264) rfl
theorem gp_247_25 {h : hp_T} (g : gr h) : hp_r h 247 25 = some 265 := g.2.2 277 (247, 25, 265) rfl
theorem gp_247_26 {h : hp_T} (g : gr h) : hp_r h 247 26 = some 266 := g.2.2 278 (247, 26, 266) rfl
theorem gp_247_27 {h : hp_T} (g : gr h) : hp_r h 247 27 = some 267 := g.2.2 279 (247, 27, 267) rfl
theorem gp_247_28 {h : hp_T} (g : gr h) : hp_r h 247 28 = some 268 := g.2.2 280 (247, 28, 268) rfl
theorem gp_247_29 {h : hp_T} (g : gr h) : hp_r h 247 29 = some 269 := g.2.2 281 (247, 29, 269) rfl
theorem gp_247_30 {h : hp_T} (g : gr h) : hp_r h 247 30 = some 270 := g.2.2 282 (247, 30, 270) rfl
theorem gp_247_31 {h : hp_T} (g : gr h) : hp_r h 247 31 = some 271 := g.2.2 283 (247, 31, 271) rfl
theorem gp_247_32 {h : hp_T} (g : gr h) : hp_r h 247 32 = some 272 := g.2.2 284 (247, 32, 272) rfl
theorem gp_247_33 {h : hp_T} (g : gr h) : hp_r h 247 33 = some 273 := g.2.2 285 (247, 33, 273) rfl
theorem gp_247_34 {h : hp_T} (g : gr h) : hp_r h 247 34 = some 274 := g.2.2 286 (247, 34, 274) rfl
theorem gp_247_35 {h : hp_T} (g : gr h) : hp_r h 247 35 = some 275 := g.2.2 287 (247, 35, 275) rfl
theorem gp_247_36 {h : hp_T} (g : gr h) : hp_r h 247 36 = some 276 := g.2.2 288 (247, 36, 276) rfl
theorem gp_247_38 {h : hp_T} (g : gr h) : hp_r h 247 38 = some 277 := g.2.2 289 (247, 38, 277) rfl
theorem gp_247_44 {h : hp_T} (g : gr h) : hp_r h 247 44 = some 278 := g.2.2 290 (247, 44, 278) rfl
theorem gp_247_45 {h : hp_T} (g : gr h) : hp_r h 247 45 = some 279 := g.2.2 291 (247, 45, 279) rfl
theorem gp_247_46 {h : hp_T} (g : gr h) : hp_r h 247 46 = some 280 := g.2.2 292 (247, 46, 280) rfl
theorem gp_247_47 {h : hp_T} (g : gr h) : hp_r h 247 47 = some 281 := g.2.2 293 (247, 47, 281) rfl
theorem gp_247_48 {h : hp_T} (g : gr h) : hp_r h 247 48 = some 282 := g.2.2 294 (247, 48, 282) rfl
theorem gp_247_49 {h : hp_T} (g : gr h) : hp_r h 247 49 = some 283 := g.2.2 295 (247, 49, 283) rfl
theorem gp_247_50 {h : hp_T} (g : gr h) : hp_r h 247 50 = some 284 := g.2.2 296 (247, 50, 284) rfl
theorem gp_247_51 {h : hp_T} (g : gr h) : hp_r h 247 51 = some 285 := g.2.2 297 (247, 51, 285) rfl
theorem gp_247_52 {h : hp_T} (g : gr h) : hp_r h 247 52 = some 286 := g.2.2 298 (247, 52, 286) rfl
theorem gp_247_53 {h : hp_T} (g : gr h) : hp_r h 247 53 = some 287 := g.2.2 299 (247, 53, 287) rfl
theorem gp_247_55 {h : hp_T} (g : gr h) : hp_r h 247 55 = some 288 := g.2.2 300 (247, 55, 288) rfl
theorem gp_247_56 {h : hp_T} (g : gr h) : hp_r h 247 56 = some 289 := g.2.2 301 (247, 56, 289) rfl
theorem gp_247_57 {h : hp_T} (g : gr h) : hp_r h 247 57 = some 290 := g.2.2 302 (247, 57, 290) rfl
theorem gp_247_58 {h : hp_T} (g : gr h) : hp_r h 247 58 = some 291 := g.2.2 303 (247, 58, 291) rfl
theorem gp_247_59 {h : hp_T} (g : gr h) : hp_r h 247 59 = some 292 := g.2.2 304 (247, 59, 292) rfl
theorem gp_247_61 {h : hp_T} (g : gr h) : hp_r h 247 61 = some 293 := g.2.2 305 (247, 61, 293) rfl
theorem gp_247_63 {h : hp_T} (g : gr h) : hp_r h 247 63 = some 294 := g.2.2 306 (247, 63, 294) rfl
theorem gp_247_64 {h : hp_T} (g : gr h) : hp_r h 247 64 = some 295 := g.2.2 307 (247, 64, 295) rfl
theorem gp_247_65 {h : hp_T} (g : gr h) : hp_r h 247 65 = some 296 := g.2.2 308 (247, 65, 296) rfl
theorem gp_247_66 {h : hp_T} (g : gr h) : hp_r h 247 66 = some 297 := g.2.2 309 (247, 66, 297) rfl
theorem gp_247_67 {h : hp_T} (g : gr h) : hp_r h 247 67 = some 298 := g.2.2 310 (247, 67, 298) rfl
theorem gp_247_69 {h : hp_T} (g : gr h) : hp_r h 247 69 = some 299 := g.2.2 311 (247, 69, 299) rfl
theorem gp_247_75 {h : hp_T} (g : gr h) : hp_r h 247 75 = some 300 := g.2.2 312 (247, 75, 300) rfl
theorem gp_247_76 {h : hp_T} (g : gr h) : hp_r h 247 76 = some 301 := g.2.2 313 (247, 76, 301) rfl
theorem gp_247_77 {h : hp_T} (g : gr h) : hp_r h 247 77 = some 302 := g.2.2 314 (247, 77, 302) rfl
theorem gp_247_78 {h : hp_T} (g : gr h) : hp_r h 247 78 = some 303 := g.2.2 315 (247, 78, 303) rfl
theorem gp_247_79 {h : hp_T} (g : gr h) : hp_r h 247 79 = some 304 := g.2.2 316 (247, 79, 304) rfl
theorem gp_247_80 {h : hp_T} (g : gr h) : hp_r h 247 80 = some 305 := g.2.2 317 (247, 80, 305) rfl
theorem gp_247_81 {h : hp_T} (g : gr h) : hp_r h 247 81 = some 306 := g.2.2 318 (247, 81, 306) rfl
theorem gp_247_82 {h : hp_T} (g : gr h) : hp_r h 247 82 = some 307 := g.2.2 319 (247, 82, 307) rfl
theorem gp_247_83 {h : hp_T} (g : gr h) : hp_r h 247 83 = some 308 := g.2.2 320 (247, 83, 308) rfl
theorem gp_247_84 {h : hp_T} (g : gr h) : hp_r h 247 84 = some 309 := g.2.2 321 (247, 84, 309) rfl
theorem gp_247_85 {h : hp_T} (g : gr h) : hp_r h 247 85 = some 310 := g.2.2 322 (247, 85, 310) rfl
theorem gp_247_86 {h : hp_T} (g : gr h) : hp_r h 247 86 = some 311 := g.2.2 323 (247, 86, 311) rfl
theorem gp_247_87 {h : hp_T} (g : gr h) : hp_r h 247 87 = some 312 := g.2.2 324 (247, 87, 312) rfl
theorem gp_247_88 {h : hp_T} (g : gr h) : hp_r h 247 88 = some 313 := g.2.2 325 (247, 88, 313) rfl
theorem gp_247_89 {h : hp_T} (g : gr h) : hp_r h 247 89 = some 314 := g.2.2 326 (247, 89, 314) rfl
theorem gp_247_93 {h : hp_T} (g : gr h) : hp_r h 247 93 = some 315 := g.2.2 327 (247, 93, 315) rfl
theorem gp_247_94 {h : hp_T} (g : gr h) : hp_r h 247 94 = some 316 := g.2.2 328 (247, 94, 316) rfl
theorem gp_247_95 {h : hp_T} (g : gr h) : hp_r h 247 95 = some 317 := g.2.2 329 (247, 95, 317) rfl
theorem gp_247_96 {h : hp_T} (g : gr h) : hp_r h 247 96 = some 318 := g.2.2 330 (247, 96, 318) rfl
theorem gp_247_97 {h : hp_T} (g : gr h) : hp_r h 247 97 = some 319 := g.2.2 331 (247, 97, 319) rfl
theorem gp_247_98 {h : hp_T} (g : gr h) : hp_r h 247 98 = some 320 := g.2.2 332 (247, 98, 320) rfl
theorem gp_247_99 {h : hp_T} (g : gr h) : hp_r h 247 99 = some 321 := g.2.2 333 (247, 99, 321) rfl
theorem gp_247_100 {h : hp_T} (g : gr h) : hp_r h 247 100 = some 322 := g.2.2 334 (247, 100, 322) rfl
theorem gp_247_101 {h : hp_T} (g : gr h) : hp_r h 247 101 = some 323 := g.2.2 335 (247, 101, 323) rfl
theorem gp_247_102 {h : hp_T} (g : gr h) : hp_r h 247 102 = some 324 := g.2.2 336 (247, 102, 324) rfl
theorem gp_247_104 {h : hp_T} (g : gr h) : hp_r h 247 104 = some 325 := g.2.2 337 (247, 104, 325) rfl
theorem gp_247_105 {h : hp_T} (g : gr h) : hp_r h 247 105 = some 326 := g.2.2 338 (247, 105, 326) rfl
theorem gp_247_106 {h : hp_T} (g : gr h) : hp_r h 247 106 = some 327 := g.2.2 339 (247, 106, 327) rfl
theorem gp_247_107 {h : hp_T} (g : gr h) : hp_r h 247 107 = some 328 := g.2.2 340 (247, 107, 328) rfl
theorem gp_247_108 {h : hp_T} (g : gr h) : hp_r h 247 108 = some 329 := g.2.2 341 (247, 108, 329) rfl
theorem gp_247_109 {h : hp_T} (g : gr h) : hp_r h 247 109 = some 330 := g.2.2 342 (247, 109, 330) rfl
theorem gp_247_110 {h : hp_T} (g : gr h) : hp_r h 247 110 = some 331 := g.2.2 343 (247, 110, 331) rfl
theorem gp_247_113 {h : hp_T} (g : gr h) : hp_r h 247 113 = some 332 := g.2.2 344 (247, 113, 332) rfl
