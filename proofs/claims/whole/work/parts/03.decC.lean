theorem dX12_init_0 : decode cX12_init 0 = .ok (.aload_n 0, 1) := by decide +kernel
theorem dX12_init_1 : decode cX12_init 1 = .ok (.invokespecial 1, 3) := by decide +kernel
theorem dX12_init_4 : decode cX12_init 4 = .ok (.aload_n 0, 1) := by decide +kernel
theorem dX12_init_5 : decode cX12_init 5 = .ok (.sipush 600, 3) := by decide +kernel
theorem dX12_init_8 : decode cX12_init 8 = .ok (.newarray .int, 2) := by decide +kernel
theorem dX12_init_10 : decode cX12_init 10 = .ok (.putfield 7, 3) := by decide +kernel
theorem dX12_init_13 : decode cX12_init 13 = .ok (.aload_n 0, 1) := by decide +kernel
theorem dX12_init_14 : decode cX12_init 14 = .ok (.iconst (-1), 1) := by decide +kernel
theorem dX12_init_15 : decode cX12_init 15 = .ok (.putfield 13, 3) := by decide +kernel
theorem dX12_init_18 : decode cX12_init 18 = .ok (.aload_n 0, 1) := by decide +kernel
theorem dX12_init_19 : decode cX12_init 19 = .ok (.iconst 5, 1) := by decide +kernel
theorem dX12_init_20 : decode cX12_init 20 = .ok (.newarray .char, 2) := by decide +kernel
theorem dX12_init_22 : decode cX12_init 22 = .ok (.dup, 1) := by decide +kernel
theorem dX12_init_23 : decode cX12_init 23 = .ok (.iconst 0, 1) := by decide +kernel
theorem dX12_init_24 : decode cX12_init 24 = .ok (.bipush 99, 2) := by decide +kernel
theorem dX12_init_26 : decode cX12_init 26 = .ok (.castore, 1) := by decide +kernel
theorem dX12_init_27 : decode cX12_init 27 = .ok (.dup, 1) := by decide +kernel
theorem dX12_init_28 : decode cX12_init 28 = .ok (.iconst 1, 1) := by decide +kernel
theorem dX12_init_29 : decode cX12_init 29 = .ok (.bipush 111, 2) := by decide +kernel
theorem dX12_init_31 : decode cX12_init 31 = .ok (.castore, 1) := by decide +kernel
theorem dX12_init_32 : decode cX12_init 32 = .ok (.dup, 1) := by decide +kernel
theorem dX12_init_33 : decode cX12_init 33 = .ok (.iconst 2, 1) := by decide +kernel
theorem dX12_init_34 : decode cX12_init 34 = .ok (.bipush 118, 2) := by decide +kernel
theorem dX12_init_36 : decode cX12_init 36 = .ok (.castore, 1) := by decide +kernel
theorem dX12_init_37 : decode cX12_init 37 = .ok (.dup, 1) := by decide +kernel
theorem dX12_init_38 : decode cX12_init 38 = .ok (.iconst 3, 1) := by decide +kernel
theorem dX12_init_39 : decode cX12_init 39 = .ok (.bipush 101, 2) := by decide +kernel
theorem dX12_init_41 : decode cX12_init 41 = .ok (.castore, 1) := by decide +kernel
theorem dX12_init_42 : decode cX12_init 42 = .ok (.dup, 1) := by decide +kernel
theorem dX12_init_43 : decode cX12_init 43 = .ok (.iconst 4, 1) := by decide +kernel
theorem dX12_init_44 : decode cX12_init 44 = .ok (.bipush 114, 2) := by decide +kernel
theorem dX12_init_46 : decode cX12_init 46 = .ok (.castore, 1) := by decide +kernel
theorem dX12_init_47 : decode cX12_init 47 = .ok (.putfield 17, 3) := by decide +kernel
theorem dX12_init_50 : decode cX12_init 50 = .ok (.aload_n 0, 1) := by decide +kernel
theorem dX12_init_51 : decode cX12_init 51 = .ok (.iconst 4, 1) := by decide +kernel
theorem dX12_init_52 : decode cX12_init 52 = .ok (.newarray .char, 2) := by decide +kernel
theorem dX12_init_54 : decode cX12_init 54 = .ok (.dup, 1) := by decide +kernel
theorem dX12_init_55 : decode cX12_init 55 = .ok (.iconst 0, 1) := by decide +kernel
theorem dX12_init_56 : decode cX12_init 56 = .ok (.bipush 118, 2) := by decide +kernel
theorem dX12_init_58 : decode cX12_init 58 = .ok (.castore, 1) := by decide +kernel
theorem dX12_init_59 : decode cX12_init 59 = .ok (.dup, 1) := by decide +kernel
theorem dX12_init_60 : decode cX12_init 60 = .ok (.iconst 1, 1) := by decide +kernel
theorem dX12_init_61 : decode cX12_init 61 = .ok (.bipush 111, 2) := by decide +kernel
theorem dX12_init_63 : decode cX12_init 63 = .ok (.castore, 1) := by decide +kernel
theorem dX12_init_64 : decode cX12_init 64 = .ok (.dup, 1) := by decide +kernel
theorem dX12_init_65 : decode cX12_init 65 = .ok (.iconst 2, 1) := by decide +kernel
theorem dX12_init_66 : decode cX12_init 66 = .ok (.bipush 105, 2) := by decide +kernel
theorem dX12_init_68 : decode cX12_init 68 = .ok (.castore, 1) := by decide +kernel
theorem dX12_init_69 : decode cX12_init 69 = .ok (.dup, 1) := by decide +kernel
theorem dX12_init_70 : decode cX12_init 70 = .ok (.iconst 3, 1) := by decide +kernel
theorem dX12_init_71 : decode cX12_init 71 = .ok (.bipush 100, 2) := by decide +kernel
theorem dX12_init_73 : decode cX12_init 73 = .ok (.castore, 1) := by decide +kernel
theorem dX12_init_74 : decode cX12_init 74 = .ok (.putfield 21, 3) := by decide +kernel
theorem dX12_init_77 : decode cX12_init 77 = .ok (.aload_n 0, 1) := by decide +kernel
theorem dX12_init_78 : decode cX12_init 78 = .ok (.iconst 4, 1) := by decide +kernel
theorem dX12_init_79 : decode cX12_init 79 = .ok (.newarray .char, 2) := by decide +kernel
theorem dX12_init_81 : decode cX12_init 81 = .ok (.dup, 1) := by decide +kernel
theorem dX12_init_82 : decode cX12_init 82 = .ok (.iconst 0, 1) := by decide +kernel
theorem dX12_init_83 : decode cX12_init 83 = .ok (.bipush 104, 2) := by decide +kernel
theorem dX12_init_85 : decode cX12_init 85 = .ok (.castore, 1) := by decide +kernel
theorem dX12_init_86 : decode cX12_init 86 = .ok (.dup, 1) := by decide +kernel
theorem dX12_init_87 : decode cX12_init 87 = .ok (.iconst 1, 1) := by decide +kernel
theorem dX12_init_88 : decode cX12_init 88 = .ok (.bipush 101, 2) := by decide +kernel
theorem dX12_init_90 : decode cX12_init 90 = .ok (.castore, 1) := by decide +kernel
theorem dX12_init_91 : decode cX12_init 91 = .ok (.dup, 1) := by decide +kernel
theorem dX12_init_92 : decode cX12_init 92 = .ok (.iconst 2, 1) := by decide +kernel
theorem dX12_init_93 : decode cX12_init 93 = .ok (.bipush 108, 2) := by decide +kernel
theorem dX12_init_95 : decode cX12_init 95 = .ok (.castore, 1) := by decide +kernel
theorem dX12_init_96 : decode cX12_init 96 = .ok (.dup, 1) := by decide +kernel
theorem dX12_init_97 : decode cX12_init 97 = .ok (.iconst 3, 1) := by decide +kernel
theorem dX12_init_98 : decode cX12_init 98 = .ok (.bipush 112, 2) := by decide +kernel
theorem dX12_init_100 : decode cX12_init 100 = .ok (.castore, 1) := by decide +kernel
theorem dX12_init_101 : decode cX12_init 101 = .ok (.putfield 24, 3) := by decide +kernel
theorem dX12_init_104 : decode cX12_init 104 = .ok (.aload_n 0, 1) := by decide +kernel
theorem dX12_init_105 : decode cX12_init 105 = .ok (.iconst 3, 1) := by decide +kernel
theorem dX12_init_106 : decode cX12_init 106 = .ok (.newarray .char, 2) := by decide +kernel
theorem dX12_init_108 : decode cX12_init 108 = .ok (.dup, 1) := by decide +kernel
theorem dX12_init_109 : decode cX12_init 109 = .ok (.iconst 0, 1) := by decide +kernel
theorem dX12_init_110 : decode cX12_init 110 = .ok (.bipush 112, 2) := by decide +kernel
theorem dX12_init_112 : decode cX12_init 112 = .ok (.castore, 1) := by decide +kernel
theorem dX12_init_113 : decode cX12_init 113 = .ok (.dup, 1) := by decide +kernel
theorem dX12_init_114 : decode cX12_init 114 = .ok (.iconst 1, 1) := by decide +kernel
theorem dX12_init_115 : decode cX12_init 115 = .ok (.bipush 97, 2) := by decide +kernel
theorem dX12_init_117 : decode cX12_init 117 = .ok (.castore, 1) := by decide +kernel
theorem dX12_init_118 : decode cX12_init 118 = .ok (.dup, 1) := by decide +kernel
theorem dX12_init_119 : decode cX12_init 119 = .ok (.iconst 2, 1) := by decide +kernel
theorem dX12_init_120 : decode cX12_init 120 = .ok (.bipush 121, 2) := by decide +kernel
theorem dX12_init_122 : decode cX12_init 122 = .ok (.castore, 1) := by decide +kernel
theorem dX12_init_123 : decode cX12_init 123 = .ok (.putfield 27, 3) := by decide +kernel
theorem dX12_init_126 : decode cX12_init 126 = .ok (.aload_n 0, 1) := by decide +kernel
theorem dX12_init_127 : decode cX12_init 127 = .ok (.bipush 7, 2) := by decide +kernel
theorem dX12_init_129 : decode cX12_init 129 = .ok (.newarray .char, 2) := by decide +kernel
theorem dX12_init_131 : decode cX12_init 131 = .ok (.dup, 1) := by decide +kernel
theorem dX12_init_132 : decode cX12_init 132 = .ok (.iconst 0, 1) := by decide +kernel
theorem dX12_init_133 : decode cX12_init 133 = .ok (.bipush 112, 2) := by decide +kernel
theorem dX12_init_135 : decode cX12_init 135 = .ok (.castore, 1) := by decide +kernel
theorem dX12_init_136 : decode cX12_init 136 = .ok (.dup, 1) := by decide +kernel
theorem dX12_init_137 : decode cX12_init 137 = .ok (.iconst 1, 1) := by decide +kernel
theorem dX12_init_138 : decode cX12_init 138 = .ok (.bipush 114, 2) := by decide +kernel
theorem dX12_init_140 : decode cX12_init 140 = .ok (.castore, 1) := by decide +kernel
theorem dX12_init_141 : decode cX12_init 141 = .ok (.dup, 1) := by decide +kernel
theorem dX12_init_142 : decode cX12_init 142 = .ok (.iconst 2, 1) := by decide +kernel
theorem dX12_init_143 : decode cX12_init 143 = .ok (.bipush 101, 2) := by decide +kernel
theorem dX12_init_145 : decode cX12_init 145 = .ok (.castore, 1) := by decide +kernel
theorem dX12_init_146 : decode cX12_init 146 = .ok (.dup, 1) := by decide +kernel
theorem dX12_init_147 : decode cX12_init 147 = .ok (.iconst 3, 1) := by decide +kernel
theorem dX12_init_148 : decode cX12_init 148 = .ok (.bipush 109, 2) := by decide +kernel
theorem dX12_init_150 : decode cX12_init 150 = .ok (.castore, 1) := by decide +kernel
theorem dX12_init_151 : decode cX12_init 151 = .ok (.dup, 1) := by decide +kernel
theorem dX12_init_152 : decode cX12_init 152 = .ok (.iconst 4, 1) := by decide +kernel
theorem dX12_init_153 : decode cX12_init 153 = .ok (.bipush 105, 2) := by decide +kernel
theorem dX12_init_155 : decode cX12_init 155 = .ok (.castore, 1) := by decide +kernel
theorem dX12_init_156 : decode cX12_init 156 = .ok (.dup, 1) := by decide +kernel
theorem dX12_init_157 : decode cX12_init 157 = .ok (.iconst 5, 1) := by decide +kernel
theorem dX12_init_158 : decode cX12_init 158 = .ok (.bipush 117, 2) := by decide +kernel
theorem dX12_init_160 : decode cX12_init 160 = .ok (.castore, 1) := by decide +kernel
theorem dX12_init_161 : decode cX12_init 161 = .ok (.dup, 1) := by decide +kernel
theorem dX12_init_162 : decode cX12_init 162 = .ok (.bipush 6, 2) := by decide +kernel
theorem dX12_init_164 : decode cX12_init 164 = .ok (.bipush 109, 2) := by decide +kernel
theorem dX12_init_166 : decode cX12_init 166 = .ok (.castore, 1) := by decide +kernel
theorem dX12_init_167 : decode cX12_init 167 = .ok (.putfield 30, 3) := by decide +kernel
theorem dX12_init_170 : decode cX12_init 170 = .ok (.aload_n 0, 1) := by decide +kernel
theorem dX12_init_171 : decode cX12_init 171 = .ok (.bipush 6, 2) := by decide +kernel
theorem dX12_init_173 : decode cX12_init 173 = .ok (.newarray .char, 2) := by decide +kernel
theorem dX12_init_175 : decode cX12_init 175 = .ok (.dup, 1) := by decide +kernel
theorem dX12_init_176 : decode cX12_init 176 = .ok (.iconst 0, 1) := by decide +kernel
theorem dX12_init_177 : decode cX12_init 177 = .ok (.bipush 98, 2) := by decide +kernel
theorem dX12_init_179 : decode cX12_init 179 = .ok (.castore, 1) := by decide +kernel
theorem dX12_init_180 : decode cX12_init 180 = .ok (.dup, 1) := by decide +kernel
theorem dX12_init_181 : decode cX12_init 181 = .ok (.iconst 1, 1) := by decide +kernel
theorem dX12_init_182 : decode cX12_init 182 = .ok (.bipush 101, 2) := by decide +kernel
theorem dX12_init_184 : decode cX12_init 184 = .ok (.castore, 1) := by decide +kernel
theorem dX12_init_185 : decode cX12_init 185 = .ok (.dup, 1) := by decide +kernel
theorem dX12_init_186 : decode cX12_init 186 = .ok (.iconst 2, 1) := by decide +kernel
theorem dX12_init_187 : decode cX12_init 187 = .ok (.bipush 115, 2) := by decide +kernel
theorem dX12_init_189 : decode cX12_init 189 = .ok (.castore, 1) := by decide +kernel
theorem dX12_init_190 : decode cX12_init 190 = .ok (.dup, 1) := by decide +kernel
theorem dX12_init_191 : decode cX12_init 191 = .ok (.iconst 3, 1) := by decide +kernel
theorem dX12_init_192 : decode cX12_init 192 = .ok (.bipush 105, 2) := by decide +kernel
theorem dX12_init_194 : decode cX12_init 194 = .ok (.castore, 1) := by decide +kernel
theorem dX12_init_195 : decode cX12_init 195 = .ok (.dup, 1) := by decide +kernel
theorem dX12_init_196 : decode cX12_init 196 = .ok (.iconst 4, 1) := by decide +kernel
theorem dX12_init_197 : decode cX12_init 197 = .ok (.bipush 100, 2) := by decide +kernel
theorem dX12_init_199 : decode cX12_init 199 = .ok (.castore, 1) := by decide +kernel
theorem dX12_init_200 : decode cX12_init 200 = .ok (.dup, 1) := by decide +kernel
theorem dX12_init_201 : decode cX12_init 201 = .ok (.iconst 5, 1) := by decide +kernel
theorem dX12_init_202 : decode cX12_init 202 = .ok (.bipush 101, 2) := by decide +kernel
theorem dX12_init_204 : decode cX12_init 204 = .ok (.castore, 1) := by decide +kernel
theorem dX12_init_205 : decode cX12_init 205 = .ok (.putfield 33, 3) := by decide +kernel
theorem dX12_init_208 : decode cX12_init 208 = .ok (.aload_n 0, 1) := by decide +kernel
theorem dX12_init_209 : decode cX12_init 209 = .ok (.iconst 5, 1) := by decide +kernel
theorem dX12_init_210 : decode cX12_init 210 = .ok (.newarray .char, 2) := by decide +kernel
theorem dX12_init_212 : decode cX12_init 212 = .ok (.dup, 1) := by decide +kernel
theorem dX12_init_213 : decode cX12_init 213 = .ok (.iconst 0, 1) := by decide +kernel
theorem dX12_init_214 : decode cX12_init 214 = .ok (.bipush 102, 2) := by decide +kernel
theorem dX12_init_216 : decode cX12_init 216 = .ok (.castore, 1) := by decide +kernel
theorem dX12_init_217 : decode cX12_init 217 = .ok (.dup, 1) := by decide +kernel
theorem dX12_init_218 : decode cX12_init 218 = .ok (.iconst 1, 1) := by decide +kernel
theorem dX12_init_219 : decode cX12_init 219 = .ok (.bipush 105, 2) := by decide +kernel
theorem dX12_init_221 : decode cX12_init 221 = .ok (.castore, 1) := by decide +kernel
theorem dX12_init_222 : decode cX12_init 222 = .ok (.dup, 1) := by decide +kernel
theorem dX12_init_223 : decode cX12_init 223 = .ok (.iconst 2, 1) := by decide +kernel
theorem dX12_init_224 : decode cX12_init 224 = .ok (.bipush 114, 2) := by decide +kernel
theorem dX12_init_226 : decode cX12_init 226 = .ok (.castore, 1) := by decide +kernel
theorem dX12_init_227 : decode cX12_init 227 = .ok (.dup, 1) := by decide +kernel
theorem dX12_init_228 : decode cX12_init 228 = .ok (.iconst 3, 1) := by decide +kernel
theorem dX12_init_229 : decode cX12_init 229 = .ok (.bipush 115, 2) := by decide +kernel
theorem dX12_init_231 : decode cX12_init 231 = .ok (.castore, 1) := by decide +kernel
theorem dX12_init_232 : decode cX12_init 232 = .ok (.dup, 1) := by decide +kernel
theorem dX12_init_233 : decode cX12_init 233 = .ok (.iconst 4, 1) := by decide +kernel
theorem dX12_init_234 : decode cX12_init 234 = .ok (.bipush 116, 2) := by decide +kernel
theorem dX12_init_236 : decode cX12_init 236 = .ok (.castore, 1) := by decide +kernel
theorem dX12_init_237 : decode cX12_init 237 = .ok (.putfield 36, 3) := by decide +kernel
theorem dX12_init_240 : decode cX12_init 240 = .ok (.aload_n 0, 1) := by decide +kernel
theorem dX12_init_241 : decode cX12_init 241 = .ok (.iconst 5, 1) := by decide +kernel
theorem dX12_init_242 : decode cX12_init 242 = .ok (.newarray .char, 2) := by decide +kernel
theorem dX12_init_244 : decode cX12_init 244 = .ok (.dup, 1) := by decide +kernel
theorem dX12_init_245 : decode cX12_init 245 = .ok (.iconst 0, 1) := by decide +kernel
theorem dX12_init_246 : decode cX12_init 246 = .ok (.bipush 112, 2) := by decide +kernel
theorem dX12_init_248 : decode cX12_init 248 = .ok (.castore, 1) := by decide +kernel
theorem dX12_init_249 : decode cX12_init 249 = .ok (.dup, 1) := by decide +kernel
theorem dX12_init_250 : decode cX12_init 250 = .ok (.iconst 1, 1) := by decide +kernel
theorem dX12_init_251 : decode cX12_init 251 = .ok (.bipush 97, 2) := by decide +kernel
theorem dX12_init_253 : decode cX12_init 253 = .ok (.castore, 1) := by decide +kernel
theorem dX12_init_254 : decode cX12_init 254 = .ok (.dup, 1) := by decide +kernel
theorem dX12_init_255 : decode cX12_init 255 = .ok (.iconst 2, 1) := by decide +kernel
theorem dX12_init_256 : decode cX12_init 256 = .ok (.bipush 114, 2) := by decide +kernel
theorem dX12_init_258 : decode cX12_init 258 = .ok (.castore, 1) := by decide +kernel
theorem dX12_init_259 : decode cX12_init 259 = .ok (.dup, 1) := by decide +kernel
theorem dX12_init_260 : decode cX12_init 260 = .ok (.iconst 3, 1) := by decide +kernel
theorem dX12_init_261 : decode cX12_init 261 = .ok (.bipush 116, 2) := by decide +kernel
theorem dX12_init_263 : decode cX12_init 263 = .ok (.castore, 1) := by decide +kernel
theorem dX12_init_264 : decode cX12_init 264 = .ok (.dup, 1) := by decide +kernel
theorem dX12_init_265 : decode cX12_init 265 = .ok (.iconst 4, 1) := by decide +kernel
theorem dX12_init_266 : decode cX12_init 266 = .ok (.bipush 115, 2) := by decide +kernel
theorem dX12_init_268 : decode cX12_init 268 = .ok (.castore, 1) := by decide +kernel
theorem dX12_init_269 : decode cX12_init 269 = .ok (.putfield 39, 3) := by decide +kernel
theorem dX12_init_272 : decode cX12_init 272 = .ok (.aload_n 0, 1) := by decide +kernel
theorem dX12_init_273 : decode cX12_init 273 = .ok (.iconst 5, 1) := by decide +kernel
theorem dX12_init_274 : decode cX12_init 274 = .ok (.newarray .char, 2) := by decide +kernel
theorem dX12_init_276 : decode cX12_init 276 = .ok (.dup, 1) := by decide +kernel
theorem dX12_init_277 : decode cX12_init 277 = .ok (.iconst 0, 1) := by decide +kernel
theorem dX12_init_278 : decode cX12_init 278 = .ok (.bipush 97, 2) := by decide +kernel
theorem dX12_init_280 : decode cX12_init 280 = .ok (.castore, 1) := by decide +kernel
theorem dX12_init_281 : decode cX12_init 281 = .ok (.dup, 1) := by decide +kernel
theorem dX12_init_282 : decode cX12_init 282 = .ok (.iconst 1, 1) := by decide +kernel
theorem dX12_init_283 : decode cX12_init 283 = .ok (.bipush 102, 2) := by decide +kernel
theorem dX12_init_285 : decode cX12_init 285 = .ok (.castore, 1) := by decide +kernel
theorem dX12_init_286 : decode cX12_init 286 = .ok (.dup, 1) := by decide +kernel
theorem dX12_init_287 : decode cX12_init 287 = .ok (.iconst 2, 1) := by decide +kernel
theorem dX12_init_288 : decode cX12_init 288 = .ok (.bipush 116, 2) := by decide +kernel
theorem dX12_init_290 : decode cX12_init 290 = .ok (.castore, 1) := by decide +kernel
theorem dX12_init_291 : decode cX12_init 291 = .ok (.dup, 1) := by decide +kernel
theorem dX12_init_292 : decode cX12_init 292 = .ok (.iconst 3, 1) := by decide +kernel
theorem dX12_init_293 : decode cX12_init 293 = .ok (.bipush 101, 2) := by decide +kernel
theorem dX12_init_295 : decode cX12_init 295 = .ok (.castore, 1) := by decide +kernel
theorem dX12_init_296 : decode cX12_init 296 = .ok (.dup, 1) := by decide +kernel
theorem dX12_init_297 : decode cX12_init 297 = .ok (.iconst 4, 1) := by decide +kernel
theorem dX12_init_298 : decode cX12_init 298 = .ok (.bipush 114, 2) := by decide +kernel
theorem dX12_init_300 : decode cX12_init 300 = .ok (.castore, 1) := by decide +kernel
theorem dX12_init_301 : decode cX12_init 301 = .ok (.putfield 42, 3) := by decide +kernel
theorem dX12_init_304 : decode cX12_init 304 = .ok (.aload_n 0, 1) := by decide +kernel
theorem dX12_init_305 : decode cX12_init 305 = .ok (.iconst 2, 1) := by decide +kernel
theorem dX12_init_306 : decode cX12_init 306 = .ok (.newarray .char, 2) := by decide +kernel
theorem dX12_init_308 : decode cX12_init 308 = .ok (.dup, 1) := by decide +kernel
theorem dX12_init_309 : decode cX12_init 309 = .ok (.iconst 0, 1) := by decide +kernel
theorem dX12_init_310 : decode cX12_init 310 = .ok (.bipush 111, 2) := by decide +kernel
theorem dX12_init_312 : decode cX12_init 312 = .ok (.castore, 1) := by decide +kernel
theorem dX12_init_313 : decode cX12_init 313 = .ok (.dup, 1) := by decide +kernel
theorem dX12_init_314 : decode cX12_init 314 = .ok (.iconst 1, 1) := by decide +kernel
theorem dX12_init_315 : decode cX12_init 315 = .ok (.bipush 114, 2) := by decide +kernel
theorem dX12_init_317 : decode cX12_init 317 = .ok (.castore, 1) := by decide +kernel
theorem dX12_init_318 : decode cX12_init 318 = .ok (.putfield 45, 3) := by decide +kernel
theorem dX12_init_321 : decode cX12_init 321 = .ok (.aload_n 0, 1) := by decide +kernel
theorem dX12_init_322 : decode cX12_init 322 = .ok (.iconst 3, 1) := by decide +kernel
theorem dX12_init_323 : decode cX12_init 323 = .ok (.newarray .char, 2) := by decide +kernel
theorem dX12_init_325 : decode cX12_init 325 = .ok (.dup, 1) := by decide +kernel
theorem dX12_init_326 : decode cX12_init 326 = .ok (.iconst 0, 1) := by decide +kernel
theorem dX12_init_327 : decode cX12_init 327 = .ok (.bipush 97, 2) := by decide +kernel
theorem dX12_init_329 : decode cX12_init 329 = .ok (.castore, 1) := by decide +kernel
theorem dX12_init_330 : decode cX12_init 330 = .ok (.dup, 1) := by decide +kernel
theorem dX12_init_331 : decode cX12_init 331 = .ok (.iconst 1, 1) := by decide +kernel
theorem dX12_init_332 : decode cX12_init 332 = .ok (.bipush 110, 2) := by decide +kernel
theorem dX12_init_334 : decode cX12_init 334 = .ok (.castore, 1) := by decide +kernel
theorem dX12_init_335 : decode cX12_init 335 = .ok (.dup, 1) := by decide +kernel
theorem dX12_init_336 : decode cX12_init 336 = .ok (.iconst 2, 1) := by decide +kernel
theorem dX12_init_337 : decode cX12_init 337 = .ok (.bipush 100, 2) := by decide +kernel
theorem dX12_init_339 : decode cX12_init 339 = .ok (.castore, 1) := by decide +kernel
theorem dX12_init_340 : decode cX12_init 340 = .ok (.putfield 48, 3) := by decide +kernel
theorem dX12_init_343 : decode cX12_init 343 = .ok (.aload_n 0, 1) := by decide +kernel
theorem dX12_init_344 : decode cX12_init 344 = .ok (.iconst 3, 1) := by decide +kernel
theorem dX12_init_345 : decode cX12_init 345 = .ok (.newarray .char, 2) := by decide +kernel
theorem dX12_init_347 : decode cX12_init 347 = .ok (.dup, 1) := by decide +kernel
theorem dX12_init_348 : decode cX12_init 348 = .ok (.iconst 0, 1) := by decide +kernel
theorem dX12_init_349 : decode cX12_init 349 = .ok (.bipush 110, 2) := by decide +kernel
theorem dX12_init_351 : decode cX12_init 351 = .ok (.castore, 1) := by decide +kernel
theorem dX12_init_352 : decode cX12_init 352 = .ok (.dup, 1) := by decide +kernel
theorem dX12_init_353 : decode cX12_init 353 = .ok (.iconst 1, 1) := by decide +kernel
theorem dX12_init_354 : decode cX12_init 354 = .ok (.bipush 111, 2) := by decide +kernel
theorem dX12_init_356 : decode cX12_init 356 = .ok (.castore, 1) := by decide +kernel
theorem dX12_init_357 : decode cX12_init 357 = .ok (.dup, 1) := by decide +kernel
theorem dX12_init_358 : decode cX12_init 358 = .ok (.iconst 2, 1) := by decide +kernel
theorem dX12_init_359 : decode cX12_init 359 = .ok (.bipush 116, 2) := by decide +kernel
theorem dX12_init_361 : decode cX12_init 361 = .ok (.castore, 1) := by decide +kernel
theorem dX12_init_362 : decode cX12_init 362 = .ok (.putfield 51, 3) := by decide +kernel
theorem dX12_init_365 : decode cX12_init 365 = .ok (.aload_n 0, 1) := by decide +kernel
theorem dX12_init_366 : decode cX12_init 366 = .ok (.iconst 3, 1) := by decide +kernel
theorem dX12_init_367 : decode cX12_init 367 = .ok (.newarray .char, 2) := by decide +kernel
theorem dX12_init_369 : decode cX12_init 369 = .ok (.dup, 1) := by decide +kernel
theorem dX12_init_370 : decode cX12_init 370 = .ok (.iconst 0, 1) := by decide +kernel
theorem dX12_init_371 : decode cX12_init 371 = .ok (.bipush 97, 2) := by decide +kernel
theorem dX12_init_373 : decode cX12_init 373 = .ok (.castore, 1) := by decide +kernel
theorem dX12_init_374 : decode cX12_init 374 = .ok (.dup, 1) := by decide +kernel
theorem dX12_init_375 : decode cX12_init 375 = .ok (.iconst 1, 1) := by decide +kernel
theorem dX12_init_376 : decode cX12_init 376 = .ok (.bipush 108, 2) := by decide +kernel
theorem dX12_init_378 : decode cX12_init 378 = .ok (.castore, 1) := by decide +kernel
theorem dX12_init_379 : decode cX12_init 379 = .ok (.dup, 1) := by decide +kernel
theorem dX12_init_380 : decode cX12_init 380 = .ok (.iconst 2, 1) := by decide +kernel
theorem dX12_init_381 : decode cX12_init 381 = .ok (.bipush 108, 2) := by decide +kernel
theorem dX12_init_383 : decode cX12_init 383 = .ok (.castore, 1) := by decide +kernel
theorem dX12_init_384 : decode cX12_init 384 = .ok (.putfield 54, 3) := by decide +kernel
theorem dX12_init_387 : decode cX12_init 387 = .ok (.aload_n 0, 1) := by decide +kernel
theorem dX12_init_388 : decode cX12_init 388 = .ok (.bipush 6, 2) := by decide +kernel
theorem dX12_init_390 : decode cX12_init 390 = .ok (.newarray .char, 2) := by decide +kernel
theorem dX12_init_392 : decode cX12_init 392 = .ok (.dup, 1) := by decide +kernel
theorem dX12_init_393 : decode cX12_init 393 = .ok (.iconst 0, 1) := by decide +kernel
theorem dX12_init_394 : decode cX12_init 394 = .ok (.bipush 111, 2) := by decide +kernel
theorem dX12_init_396 : decode cX12_init 396 = .ok (.castore, 1) := by decide +kernel
theorem dX12_init_397 : decode cX12_init 397 = .ok (.dup, 1) := by decide +kernel
theorem dX12_init_398 : decode cX12_init 398 = .ok (.iconst 1, 1) := by decide +kernel
theorem dX12_init_399 : decode cX12_init 399 = .ok (.bipush 102, 2) := by decide +kernel
theorem dX12_init_401 : decode cX12_init 401 = .ok (.castore, 1) := by decide +kernel
theorem dX12_init_402 : decode cX12_init 402 = .ok (.dup, 1) := by decide +kernel
theorem dX12_init_403 : decode cX12_init 403 = .ok (.iconst 2, 1) := by decide +kernel
theorem dX12_init_404 : decode cX12_init 404 = .ok (.bipush 102, 2) := by decide +kernel
theorem dX12_init_406 : decode cX12_init 406 = .ok (.castore, 1) := by decide +kernel
theorem dX12_init_407 : decode cX12_init 407 = .ok (.dup, 1) := by decide +kernel
theorem dX12_init_408 : decode cX12_init 408 = .ok (.iconst 3, 1) := by decide +kernel
theorem dX12_init_409 : decode cX12_init 409 = .ok (.bipush 105, 2) := by decide +kernel
theorem dX12_init_411 : decode cX12_init 411 = .ok (.castore, 1) := by decide +kernel
theorem dX12_init_412 : decode cX12_init 412 = .ok (.dup, 1) := by decide +kernel
theorem dX12_init_413 : decode cX12_init 413 = .ok (.iconst 4, 1) := by decide +kernel
theorem dX12_init_414 : decode cX12_init 414 = .ok (.bipush 99, 2) := by decide +kernel
theorem dX12_init_416 : decode cX12_init 416 = .ok (.castore, 1) := by decide +kernel
theorem dX12_init_417 : decode cX12_init 417 = .ok (.dup, 1) := by decide +kernel
theorem dX12_init_418 : decode cX12_init 418 = .ok (.iconst 5, 1) := by decide +kernel
theorem dX12_init_419 : decode cX12_init 419 = .ok (.bipush 101, 2) := by decide +kernel
theorem dX12_init_421 : decode cX12_init 421 = .ok (.castore, 1) := by decide +kernel
theorem dX12_init_422 : decode cX12_init 422 = .ok (.putfield 57, 3) := by decide +kernel
theorem dX12_init_425 : decode cX12_init 425 = .ok (.aload_n 0, 1) := by decide +kernel
theorem dX12_init_426 : decode cX12_init 426 = .ok (.iconst 4, 1) := by decide +kernel
theorem dX12_init_427 : decode cX12_init 427 = .ok (.newarray .char, 2) := by decide +kernel
theorem dX12_init_429 : decode cX12_init 429 = .ok (.dup, 1) := by decide +kernel
theorem dX12_init_430 : decode cX12_init 430 = .ok (.iconst 0, 1) := by decide +kernel
theorem dX12_init_431 : decode cX12_init 431 = .ok (.bipush 119, 2) := by decide +kernel
theorem dX12_init_433 : decode cX12_init 433 = .ok (.castore, 1) := by decide +kernel
theorem dX12_init_434 : decode cX12_init 434 = .ok (.dup, 1) := by decide +kernel
theorem dX12_init_435 : decode cX12_init 435 = .ok (.iconst 1, 1) := by decide +kernel
theorem dX12_init_436 : decode cX12_init 436 = .ok (.bipush 97, 2) := by decide +kernel
theorem dX12_init_438 : decode cX12_init 438 = .ok (.castore, 1) := by decide +kernel
theorem dX12_init_439 : decode cX12_init 439 = .ok (.dup, 1) := by decide +kernel
theorem dX12_init_440 : decode cX12_init 440 = .ok (.iconst 2, 1) := by decide +kernel
theorem dX12_init_441 : decode cX12_init 441 = .ok (.bipush 108, 2) := by decide +kernel
theorem dX12_init_443 : decode cX12_init 443 = .ok (.castore, 1) := by decide +kernel
theorem dX12_init_444 : decode cX12_init 444 = .ok (.dup, 1) := by decide +kernel
theorem dX12_init_445 : decode cX12_init 445 = .ok (.iconst 3, 1) := by decide +kernel
theorem dX12_init_446 : decode cX12_init 446 = .ok (.bipush 108, 2) := by decide +kernel
theorem dX12_init_448 : decode cX12_init 448 = .ok (.castore, 1) := by decide +kernel
theorem dX12_init_449 : decode cX12_init 449 = .ok (.putfield 60, 3) := by decide +kernel
theorem dX12_init_452 : decode cX12_init 452 = .ok (.aload_n 0, 1) := by decide +kernel
theorem dX12_init_453 : decode cX12_init 453 = .ok (.iconst 5, 1) := by decide +kernel
theorem dX12_init_454 : decode cX12_init 454 = .ok (.newarray .char, 2) := by decide +kernel
theorem dX12_init_456 : decode cX12_init 456 = .ok (.dup, 1) := by decide +kernel
theorem dX12_init_457 : decode cX12_init 457 = .ok (.iconst 0, 1) := by decide +kernel
theorem dX12_init_458 : decode cX12_init 458 = .ok (.bipush 116, 2) := by decide +kernel
theorem dX12_init_460 : decode cX12_init 460 = .ok (.castore, 1) := by decide +kernel
theorem dX12_init_461 : decode cX12_init 461 = .ok (.dup, 1) := by decide +kernel
theorem dX12_init_462 : decode cX12_init 462 = .ok (.iconst 1, 1) := by decide +kernel
theorem dX12_init_463 : decode cX12_init 463 = .ok (.bipush 114, 2) := by decide +kernel
theorem dX12_init_465 : decode cX12_init 465 = .ok (.castore, 1) := by decide +kernel
theorem dX12_init_466 : decode cX12_init 466 = .ok (.dup, 1) := by decide +kernel
theorem dX12_init_467 : decode cX12_init 467 = .ok (.iconst 2, 1) := by decide +kernel
theorem dX12_init_468 : decode cX12_init 468 = .ok (.bipush 97, 2) := by decide +kernel
theorem dX12_init_470 : decode cX12_init 470 = .ok (.castore, 1) := by decide +kernel
theorem dX12_init_471 : decode cX12_init 471 = .ok (.dup, 1) := by decide +kernel
theorem dX12_init_472 : decode cX12_init 472 = .ok (.iconst 3, 1) := by decide +kernel
theorem dX12_init_473 : decode cX12_init 473 = .ok (.bipush 100, 2) := by decide +kernel
theorem dX12_init_475 : decode cX12_init 475 = .ok (.castore, 1) := by decide +kernel
theorem dX12_init_476 : decode cX12_init 476 = .ok (.dup, 1) := by decide +kernel
theorem dX12_init_477 : decode cX12_init 477 = .ok (.iconst 4, 1) := by decide +kernel
theorem dX12_init_478 : decode cX12_init 478 = .ok (.bipush 101, 2) := by decide +kernel
theorem dX12_init_480 : decode cX12_init 480 = .ok (.castore, 1) := by decide +kernel
theorem dX12_init_481 : decode cX12_init 481 = .ok (.putfield 63, 3) := by decide +kernel
theorem dX12_init_484 : decode cX12_init 484 = .ok (.aload_n 0, 1) := by decide +kernel
theorem dX12_init_485 : decode cX12_init 485 = .ok (.iconst 5, 1) := by decide +kernel
theorem dX12_init_486 : decode cX12_init 486 = .ok (.newarray .char, 2) := by decide +kernel
theorem dX12_init_488 : decode cX12_init 488 = .ok (.dup, 1) := by decide +kernel
theorem dX12_init_489 : decode cX12_init 489 = .ok (.iconst 0, 1) := by decide +kernel
theorem dX12_init_490 : decode cX12_init 490 = .ok (.bipush 119, 2) := by decide +kernel
theorem dX12_init_492 : decode cX12_init 492 = .ok (.castore, 1) := by decide +kernel
theorem dX12_init_493 : decode cX12_init 493 = .ok (.dup, 1) := by decide +kernel
theorem dX12_init_494 : decode cX12_init 494 = .ok (.iconst 1, 1) := by decide +kernel
theorem dX12_init_495 : decode cX12_init 495 = .ok (.bipush 111, 2) := by decide +kernel
theorem dX12_init_497 : decode cX12_init 497 = .ok (.castore, 1) := by decide +kernel
theorem dX12_init_498 : decode cX12_init 498 = .ok (.dup, 1) := by decide +kernel
theorem dX12_init_499 : decode cX12_init 499 = .ok (.iconst 2, 1) := by decide +kernel
theorem dX12_init_500 : decode cX12_init 500 = .ok (.bipush 114, 2) := by decide +kernel
theorem dX12_init_502 : decode cX12_init 502 = .ok (.castore, 1) := by decide +kernel
theorem dX12_init_503 : decode cX12_init 503 = .ok (.dup, 1) := by decide +kernel
theorem dX12_init_504 : decode cX12_init 504 = .ok (.iconst 3, 1) := by decide +kernel
theorem dX12_init_505 : decode cX12_init 505 = .ok (.bipush 116, 2) := by decide +kernel
theorem dX12_init_507 : decode cX12_init 507 = .ok (.castore, 1) := by decide +kernel
theorem dX12_init_508 : decode cX12_init 508 = .ok (.dup, 1) := by decide +kernel
theorem dX12_init_509 : decode cX12_init 509 = .ok (.iconst 4, 1) := by decide +kernel
theorem dX12_init_510 : decode cX12_init 510 = .ok (.bipush 104, 2) := by decide +kernel
theorem dX12_init_512 : decode cX12_init 512 = .ok (.castore, 1) := by decide +kernel
theorem dX12_init_513 : decode cX12_init 513 = .ok (.putfield 66, 3) := by decide +kernel
theorem dX12_init_516 : decode cX12_init 516 = .ok (.aload_n 0, 1) := by decide +kernel
theorem dX12_init_517 : decode cX12_init 517 = .ok (.iconst 3, 1) := by decide +kernel
theorem dX12_init_518 : decode cX12_init 518 = .ok (.newarray .char, 2) := by decide +kernel
theorem dX12_init_520 : decode cX12_init 520 = .ok (.dup, 1) := by decide +kernel
theorem dX12_init_521 : decode cX12_init 521 = .ok (.iconst 0, 1) := by decide +kernel
theorem dX12_init_522 : decode cX12_init 522 = .ok (.bipush 115, 2) := by decide +kernel
theorem dX12_init_524 : decode cX12_init 524 = .ok (.castore, 1) := by decide +kernel
theorem dX12_init_525 : decode cX12_init 525 = .ok (.dup, 1) := by decide +kernel
theorem dX12_init_526 : decode cX12_init 526 = .ok (.iconst 1, 1) := by decide +kernel
theorem dX12_init_527 : decode cX12_init 527 = .ok (.bipush 117, 2) := by decide +kernel
theorem dX12_init_529 : decode cX12_init 529 = .ok (.castore, 1) := by decide +kernel
theorem dX12_init_530 : decode cX12_init 530 = .ok (.dup, 1) := by decide +kernel
theorem dX12_init_531 : decode cX12_init 531 = .ok (.iconst 2, 1) := by decide +kernel
theorem dX12_init_532 : decode cX12_init 532 = .ok (.bipush 109, 2) := by decide +kernel
theorem dX12_init_534 : decode cX12_init 534 = .ok (.castore, 1) := by decide +kernel
theorem dX12_init_535 : decode cX12_init 535 = .ok (.putfield 69, 3) := by decide +kernel
theorem dX12_init_538 : decode cX12_init 538 = .ok (.aload_n 0, 1) := by decide +kernel
theorem dX12_init_539 : decode cX12_init 539 = .ok (.iconst 4, 1) := by decide +kernel
theorem dX12_init_540 : decode cX12_init 540 = .ok (.newarray .char, 2) := by decide +kernel
theorem dX12_init_542 : decode cX12_init 542 = .ok (.dup, 1) := by decide +kernel
theorem dX12_init_543 : decode cX12_init 543 = .ok (.iconst 0, 1) := by decide +kernel
theorem dX12_init_544 : decode cX12_init 544 = .ok (.bipush 108, 2) := by decide +kernel
theorem dX12_init_546 : decode cX12_init 546 = .ok (.castore, 1) := by decide +kernel
theorem dX12_init_547 : decode cX12_init 547 = .ok (.dup, 1) := by decide +kernel
theorem dX12_init_548 : decode cX12_init 548 = .ok (.iconst 1, 1) := by decide +kernel
theorem dX12_init_549 : decode cX12_init 549 = .ok (.bipush 111, 2) := by decide +kernel
theorem dX12_init_551 : decode cX12_init 551 = .ok (.castore, 1) := by decide +kernel
theorem dX12_init_552 : decode cX12_init 552 = .ok (.dup, 1) := by decide +kernel
theorem dX12_init_553 : decode cX12_init 553 = .ok (.iconst 2, 1) := by decide +kernel
theorem dX12_init_554 : decode cX12_init 554 = .ok (.bipush 115, 2) := by decide +kernel
theorem dX12_init_556 : decode cX12_init 556 = .ok (.castore, 1) := by decide +kernel
theorem dX12_init_557 : decode cX12_init 557 = .ok (.dup, 1) := by decide +kernel
theorem dX12_init_558 : decode cX12_init 558 = .ok (.iconst 3, 1) := by decide +kernel
theorem dX12_init_559 : decode cX12_init 559 = .ok (.bipush 115, 2) := by decide +kernel
theorem dX12_init_561 : decode cX12_init 561 = .ok (.castore, 1) := by decide +kernel
theorem dX12_init_562 : decode cX12_init 562 = .ok (.putfield 72, 3) := by decide +kernel
theorem dX12_init_565 : decode cX12_init 565 = .ok (.aload_n 0, 1) := by decide +kernel
theorem dX12_init_566 : decode cX12_init 566 = .ok (.bipush 6, 2) := by decide +kernel
theorem dX12_init_568 : decode cX12_init 568 = .ok (.newarray .char, 2) := by decide +kernel
theorem dX12_init_570 : decode cX12_init 570 = .ok (.dup, 1) := by decide +kernel
theorem dX12_init_571 : decode cX12_init 571 = .ok (.iconst 0, 1) := by decide +kernel
theorem dX12_init_572 : decode cX12_init 572 = .ok (.bipush 111, 2) := by decide +kernel
theorem dX12_init_574 : decode cX12_init 574 = .ok (.castore, 1) := by decide +kernel
theorem dX12_init_575 : decode cX12_init 575 = .ok (.dup, 1) := by decide +kernel
theorem dX12_init_576 : decode cX12_init 576 = .ok (.iconst 1, 1) := by decide +kernel
theorem dX12_init_577 : decode cX12_init 577 = .ok (.bipush 116, 2) := by decide +kernel
theorem dX12_init_579 : decode cX12_init 579 = .ok (.castore, 1) := by decide +kernel
theorem dX12_init_580 : decode cX12_init 580 = .ok (.dup, 1) := by decide +kernel
theorem dX12_init_581 : decode cX12_init 581 = .ok (.iconst 2, 1) := by decide +kernel
theorem dX12_init_582 : decode cX12_init 582 = .ok (.bipush 104, 2) := by decide +kernel
theorem dX12_init_584 : decode cX12_init 584 = .ok (.castore, 1) := by decide +kernel
theorem dX12_init_585 : decode cX12_init 585 = .ok (.dup, 1) := by decide +kernel
theorem dX12_init_586 : decode cX12_init 586 = .ok (.iconst 3, 1) := by decide +kernel
theorem dX12_init_587 : decode cX12_init 587 = .ok (.bipush 101, 2) := by decide +kernel
theorem dX12_init_589 : decode cX12_init 589 = .ok (.castore, 1) := by decide +kernel
theorem dX12_init_590 : decode cX12_init 590 = .ok (.dup, 1) := by decide +kernel
theorem dX12_init_591 : decode cX12_init 591 = .ok (.iconst 4, 1) := by decide +kernel
theorem dX12_init_592 : decode cX12_init 592 = .ok (.bipush 114, 2) := by decide +kernel
theorem dX12_init_594 : decode cX12_init 594 = .ok (.castore, 1) := by decide +kernel
theorem dX12_init_595 : decode cX12_init 595 = .ok (.dup, 1) := by decide +kernel
theorem dX12_init_596 : decode cX12_init 596 = .ok (.iconst 5, 1) := by decide +kernel
theorem dX12_init_597 : decode cX12_init 597 = .ok (.bipush 115, 2) := by decide +kernel
theorem dX12_init_599 : decode cX12_init 599 = .ok (.castore, 1) := by decide +kernel
theorem dX12_init_600 : decode cX12_init 600 = .ok (.putfield 75, 3) := by decide +kernel
theorem dX12_init_603 : decode cX12_init 603 = .ok (.aload_n 0, 1) := by decide +kernel
theorem dX12_init_604 : decode cX12_init 604 = .ok (.iconst 4, 1) := by decide +kernel
theorem dX12_init_605 : decode cX12_init 605 = .ok (.newarray .char, 2) := by decide +kernel
theorem dX12_init_607 : decode cX12_init 607 = .ok (.dup, 1) := by decide +kernel
theorem dX12_init_608 : decode cX12_init 608 = .ok (.iconst 0, 1) := by decide +kernel
theorem dX12_init_609 : decode cX12_init 609 = .ok (.bipush 110, 2) := by decide +kernel
theorem dX12_init_611 : decode cX12_init 611 = .ok (.castore, 1) := by decide +kernel
theorem dX12_init_612 : decode cX12_init 612 = .ok (.dup, 1) := by decide +kernel
theorem dX12_init_613 : decode cX12_init 613 = .ok (.iconst 1, 1) := by decide +kernel
theorem dX12_init_614 : decode cX12_init 614 = .ok (.bipush 101, 2) := by decide +kernel
theorem dX12_init_616 : decode cX12_init 616 = .ok (.castore, 1) := by decide +kernel
theorem dX12_init_617 : decode cX12_init 617 = .ok (.dup, 1) := by decide +kernel
theorem dX12_init_618 : decode cX12_init 618 = .ok (.iconst 2, 1) := by decide +kernel
theorem dX12_init_619 : decode cX12_init 619 = .ok (.bipush 97, 2) := by decide +kernel
theorem dX12_init_621 : decode cX12_init 621 = .ok (.castore, 1) := by decide +kernel
theorem dX12_init_622 : decode cX12_init 622 = .ok (.dup, 1) := by decide +kernel
theorem dX12_init_623 : decode cX12_init 623 = .ok (.iconst 3, 1) := by decide +kernel
theorem dX12_init_624 : decode cX12_init 624 = .ok (.bipush 114, 2) := by decide +kernel
theorem dX12_init_626 : decode cX12_init 626 = .ok (.castore, 1) := by decide +kernel
theorem dX12_init_627 : decode cX12_init 627 = .ok (.putfield 78, 3) := by decide +kernel
theorem dX12_init_630 : decode cX12_init 630 = .ok (.aload_n 0, 1) := by decide +kernel
theorem dX12_init_631 : decode cX12_init 631 = .ok (.iconst 3, 1) := by decide +kernel
theorem dX12_init_632 : decode cX12_init 632 = .ok (.newarray .char, 2) := by decide +kernel
theorem dX12_init_634 : decode cX12_init 634 = .ok (.dup, 1) := by decide +kernel
theorem dX12_init_635 : decode cX12_init 635 = .ok (.iconst 0, 1) := by decide +kernel
theorem dX12_init_636 : decode cX12_init 636 = .ok (.bipush 109, 2) := by decide +kernel
theorem dX12_init_638 : decode cX12_init 638 = .ok (.castore, 1) := by decide +kernel
theorem dX12_init_639 : decode cX12_init 639 = .ok (.dup, 1) := by decide +kernel
theorem dX12_init_640 : decode cX12_init 640 = .ok (.iconst 1, 1) := by decide +kernel
theorem dX12_init_641 : decode cX12_init 641 = .ok (.bipush 105, 2) := by decide +kernel
theorem dX12_init_643 : decode cX12_init 643 = .ok (.castore, 1) := by decide +kernel
theorem dX12_init_644 : decode cX12_init 644 = .ok (.dup, 1) := by decide +kernel
theorem dX12_init_645 : decode cX12_init 645 = .ok (.iconst 2, 1) := by decide +kernel
theorem dX12_init_646 : decode cX12_init 646 = .ok (.bipush 110, 2) := by decide +kernel
theorem dX12_init_648 : decode cX12_init 648 = .ok (.castore, 1) := by decide +kernel
theorem dX12_init_649 : decode cX12_init 649 = .ok (.putfield 81, 3) := by decide +kernel
theorem dX12_init_652 : decode cX12_init 652 = .ok (.aload_n 0, 1) := by decide +kernel
theorem dX12_init_653 : decode cX12_init 653 = .ok (.iconst 3, 1) := by decide +kernel
theorem dX12_init_654 : decode cX12_init 654 = .ok (.newarray .char, 2) := by decide +kernel
theorem dX12_init_656 : decode cX12_init 656 = .ok (.dup, 1) := by decide +kernel
theorem dX12_init_657 : decode cX12_init 657 = .ok (.iconst 0, 1) := by decide +kernel
theorem dX12_init_658 : decode cX12_init 658 = .ok (.bipush 109, 2) := by decide +kernel
theorem dX12_init_660 : decode cX12_init 660 = .ok (.castore, 1) := by decide +kernel
theorem dX12_init_661 : decode cX12_init 661 = .ok (.dup, 1) := by decide +kernel
theorem dX12_init_662 : decode cX12_init 662 = .ok (.iconst 1, 1) := by decide +kernel
theorem dX12_init_663 : decode cX12_init 663 = .ok (.bipush 97, 2) := by decide +kernel
theorem dX12_init_665 : decode cX12_init 665 = .ok (.castore, 1) := by decide +kernel
theorem dX12_init_666 : decode cX12_init 666 = .ok (.dup, 1) := by decide +kernel
theorem dX12_init_667 : decode cX12_init 667 = .ok (.iconst 2, 1) := by decide +kernel
theorem dX12_init_668 : decode cX12_init 668 = .ok (.bipush 120, 2) := by decide +kernel
theorem dX12_init_670 : decode cX12_init 670 = .ok (.castore, 1) := by decide +kernel
theorem dX12_init_671 : decode cX12_init 671 = .ok (.putfield 84, 3) := by decide +kernel
theorem dX12_init_674 : decode cX12_init 674 = .ok (.aload_n 0, 1) := by decide +kernel
theorem dX12_init_675 : decode cX12_init 675 = .ok (.sipush 201, 3) := by decide +kernel
theorem dX12_init_678 : decode cX12_init 678 = .ok (.newarray .int, 2) := by decide +kernel
theorem dX12_init_680 : decode cX12_init 680 = .ok (.putfield 87, 3) := by decide +kernel
theorem dX12_init_683 : decode cX12_init 683 = .ok (.aload_n 0, 1) := by decide +kernel
theorem dX12_init_684 : decode cX12_init 684 = .ok (.sipush 4824, 3) := by decide +kernel
theorem dX12_init_687 : decode cX12_init 687 = .ok (.newarray .int, 2) := by decide +kernel
theorem dX12_init_689 : decode cX12_init 689 = .ok (.putfield 90, 3) := by decide +kernel
theorem dX12_init_692 : decode cX12_init 692 = .ok (.aload_n 0, 1) := by decide +kernel
theorem dX12_init_693 : decode cX12_init 693 = .ok (.sipush 4824, 3) := by decide +kernel
theorem dX12_init_696 : decode cX12_init 696 = .ok (.newarray .int, 2) := by decide +kernel
theorem dX12_init_698 : decode cX12_init 698 = .ok (.putfield 93, 3) := by decide +kernel
theorem dX12_init_701 : decode cX12_init 701 = .ok (.aload_n 0, 1) := by decide +kernel
theorem dX12_init_702 : decode cX12_init 702 = .ok (.sipush 4824, 3) := by decide +kernel
theorem dX12_init_705 : decode cX12_init 705 = .ok (.newarray .int, 2) := by decide +kernel
theorem dX12_init_707 : decode cX12_init 707 = .ok (.putfield 96, 3) := by decide +kernel
theorem dX12_init_710 : decode cX12_init 710 = .ok (.aload_n 0, 1) := by decide +kernel
theorem dX12_init_711 : decode cX12_init 711 = .ok (.ldc 99, 2) := by decide +kernel
theorem dX12_init_713 : decode cX12_init 713 = .ok (.newarray .int, 2) := by decide +kernel
theorem dX12_init_715 : decode cX12_init 715 = .ok (.putfield 100, 3) := by decide +kernel
theorem dX12_init_718 : decode cX12_init 718 = .ok (.aload_n 0, 1) := by decide +kernel
theorem dX12_init_719 : decode cX12_init 719 = .ok (.sipush 700, 3) := by decide +kernel
theorem dX12_init_722 : decode cX12_init 722 = .ok (.newarray .int, 2) := by decide +kernel
theorem dX12_init_724 : decode cX12_init 724 = .ok (.putfield 103, 3) := by decide +kernel
theorem dX12_init_727 : decode cX12_init 727 = .ok (.aload_n 0, 1) := by decide +kernel
theorem dX12_init_728 : decode cX12_init 728 = .ok (.iconst 1, 1) := by decide +kernel
theorem dX12_init_729 : decode cX12_init 729 = .ok (.putfield 106, 3) := by decide +kernel
theorem dX12_init_732 : decode cX12_init 732 = .ok (.aload_n 0, 1) := by decide +kernel
theorem dX12_init_733 : decode cX12_init 733 = .ok (.iconst 1, 1) := by decide +kernel
theorem dX12_init_734 : decode cX12_init 734 = .ok (.putfield 109, 3) := by decide +kernel
theorem dX12_init_737 : decode cX12_init 737 = .ok (.aload_n 0, 1) := by decide +kernel
theorem dX12_init_738 : decode cX12_init 738 = .ok (.bipush 120, 2) := by decide +kernel
theorem dX12_init_740 : decode cX12_init 740 = .ok (.newarray .int, 2) := by decide +kernel
theorem dX12_init_742 : decode cX12_init 742 = .ok (.putfield 112, 3) := by decide +kernel
theorem dX12_init_745 : decode cX12_init 745 = .ok (.aload_n 0, 1) := by decide +kernel
theorem dX12_init_746 : decode cX12_init 746 = .ok (.bipush 120, 2) := by decide +kernel
theorem dX12_init_748 : decode cX12_init 748 = .ok (.newarray .int, 2) := by decide +kernel
theorem dX12_init_750 : decode cX12_init 750 = .ok (.putfield 115, 3) := by decide +kernel
theorem dX12_init_753 : decode cX12_init 753 = .ok (.aload_n 0, 1) := by decide +kernel
theorem dX12_init_754 : decode cX12_init 754 = .ok (.bipush 120, 2) := by decide +kernel
theorem dX12_init_756 : decode cX12_init 756 = .ok (.newarray .int, 2) := by decide +kernel
theorem dX12_init_758 : decode cX12_init 758 = .ok (.putfield 118, 3) := by decide +kernel
theorem dX12_init_761 : decode cX12_init 761 = .ok (.aload_n 0, 1) := by decide +kernel
theorem dX12_init_762 : decode cX12_init 762 = .ok (.bipush 120, 2) := by decide +kernel
theorem dX12_init_764 : decode cX12_init 764 = .ok (.newarray .boolean, 2) := by decide +kernel
theorem dX12_init_766 : decode cX12_init 766 = .ok (.putfield 121, 3) := by decide +kernel
theorem dX12_init_769 : decode cX12_init 769 = .ok (.aload_n 0, 1) := by decide +kernel
theorem dX12_init_770 : decode cX12_init 770 = .ok (.bipush 120, 2) := by decide +kernel
theorem dX12_init_772 : decode cX12_init 772 = .ok (.newarray .boolean, 2) := by decide +kernel
theorem dX12_init_774 : decode cX12_init 774 = .ok (.putfield 125, 3) := by decide +kernel
theorem dX12_init_777 : decode cX12_init 777 = .ok (.aload_n 0, 1) := by decide +kernel
theorem dX12_init_778 : decode cX12_init 778 = .ok (.bipush 6, 2) := by decide +kernel
theorem dX12_init_780 : decode cX12_init 780 = .ok (.newarray .int, 2) := by decide +kernel
theorem dX12_init_782 : decode cX12_init 782 = .ok (.putfield 128, 3) := by decide +kernel
theorem dX12_init_785 : decode cX12_init 785 = .ok (.aload_n 0, 1) := by decide +kernel
theorem dX12_init_786 : decode cX12_init 786 = .ok (.bipush 121, 2) := by decide +kernel
theorem dX12_init_788 : decode cX12_init 788 = .ok (.newarray .int, 2) := by decide +kernel
theorem dX12_init_790 : decode cX12_init 790 = .ok (.putfield 131, 3) := by decide +kernel
theorem dX12_init_793 : decode cX12_init 793 = .ok (.aload_n 0, 1) := by decide +kernel
theorem dX12_init_794 : decode cX12_init 794 = .ok (.bipush 121, 2) := by decide +kernel
theorem dX12_init_796 : decode cX12_init 796 = .ok (.newarray .int, 2) := by decide +kernel
theorem dX12_init_798 : decode cX12_init 798 = .ok (.putfield 134, 3) := by decide +kernel
theorem dX12_init_801 : decode cX12_init 801 = .ok (.aload_n 0, 1) := by decide +kernel
theorem dX12_init_802 : decode cX12_init 802 = .ok (.bipush 121, 2) := by decide +kernel
theorem dX12_init_804 : decode cX12_init 804 = .ok (.newarray .boolean, 2) := by decide +kernel
theorem dX12_init_806 : decode cX12_init 806 = .ok (.putfield 137, 3) := by decide +kernel
theorem dX12_init_809 : decode cX12_init 809 = .ok (.aload_n 0, 1) := by decide +kernel
theorem dX12_init_810 : decode cX12_init 810 = .ok (.bipush 9, 2) := by decide +kernel
theorem dX12_init_812 : decode cX12_init 812 = .ok (.newarray .int, 2) := by decide +kernel
theorem dX12_init_814 : decode cX12_init 814 = .ok (.putfield 140, 3) := by decide +kernel
theorem dX12_init_817 : decode cX12_init 817 = .ok (.aload_n 0, 1) := by decide +kernel
theorem dX12_init_818 : decode cX12_init 818 = .ok (.bipush 12, 2) := by decide +kernel
theorem dX12_init_820 : decode cX12_init 820 = .ok (.newarray .int, 2) := by decide +kernel
theorem dX12_init_822 : decode cX12_init 822 = .ok (.putfield 143, 3) := by decide +kernel
theorem dX12_init_825 : decode cX12_init 825 = .ok (.aload_n 0, 1) := by decide +kernel
theorem dX12_init_826 : decode cX12_init 826 = .ok (.bipush 12, 2) := by decide +kernel
theorem dX12_init_828 : decode cX12_init 828 = .ok (.newarray .int, 2) := by decide +kernel
theorem dX12_init_830 : decode cX12_init 830 = .ok (.putfield 146, 3) := by decide +kernel
theorem dX12_init_833 : decode cX12_init 833 = .ok (.aload_n 0, 1) := by decide +kernel
theorem dX12_init_834 : decode cX12_init 834 = .ok (.bipush 12, 2) := by decide +kernel
theorem dX12_init_836 : decode cX12_init 836 = .ok (.newarray .int, 2) := by decide +kernel
theorem dX12_init_838 : decode cX12_init 838 = .ok (.putfield 149, 3) := by decide +kernel
theorem dX12_init_841 : decode cX12_init 841 = .ok (.aload_n 0, 1) := by decide +kernel
theorem dX12_init_842 : decode cX12_init 842 = .ok (.bipush 12, 2) := by decide +kernel
theorem dX12_init_844 : decode cX12_init 844 = .ok (.newarray .int, 2) := by decide +kernel
theorem dX12_init_846 : decode cX12_init 846 = .ok (.putfield 152, 3) := by decide +kernel
theorem dX12_init_849 : decode cX12_init 849 = .ok (.aload_n 0, 1) := by decide +kernel
theorem dX12_init_850 : decode cX12_init 850 = .ok (.bipush 81, 2) := by decide +kernel
theorem dX12_init_852 : decode cX12_init 852 = .ok (.newarray .int, 2) := by decide +kernel
theorem dX12_init_854 : decode cX12_init 854 = .ok (.putfield 155, 3) := by decide +kernel
theorem dX12_init_857 : decode cX12_init 857 = .ok (.aload_n 0, 1) := by decide +kernel
theorem dX12_init_858 : decode cX12_init 858 = .ok (.bipush 8, 2) := by decide +kernel
theorem dX12_init_860 : decode cX12_init 860 = .ok (.newarray .int, 2) := by decide +kernel
theorem dX12_init_862 : decode cX12_init 862 = .ok (.putfield 158, 3) := by decide +kernel
theorem dX12_init_865 : decode cX12_init 865 = .ok (.aload_n 0, 1) := by decide +kernel
theorem dX12_init_866 : decode cX12_init 866 = .ok (.sipush 201, 3) := by decide +kernel
theorem dX12_init_869 : decode cX12_init 869 = .ok (.newarray .int, 2) := by decide +kernel
theorem dX12_init_871 : decode cX12_init 871 = .ok (.putfield 161, 3) := by decide +kernel
theorem dX12_init_874 : decode cX12_init 874 = .ok (.aload_n 0, 1) := by decide +kernel
theorem dX12_init_875 : decode cX12_init 875 = .ok (.sipush 201, 3) := by decide +kernel
theorem dX12_init_878 : decode cX12_init 878 = .ok (.newarray .int, 2) := by decide +kernel
theorem dX12_init_880 : decode cX12_init 880 = .ok (.putfield 164, 3) := by decide +kernel
theorem dX12_init_883 : decode cX12_init 883 = .ok (.aload_n 0, 1) := by decide +kernel
theorem dX12_init_884 : decode cX12_init 884 = .ok (.sipush 201, 3) := by decide +kernel
theorem dX12_init_887 : decode cX12_init 887 = .ok (.newarray .int, 2) := by decide +kernel
theorem dX12_init_889 : decode cX12_init 889 = .ok (.putfield 167, 3) := by decide +kernel
theorem dX12_init_892 : decode cX12_init 892 = .ok (.aload_n 0, 1) := by decide +kernel
theorem dX12_init_893 : decode cX12_init 893 = .ok (.sipush 201, 3) := by decide +kernel
theorem dX12_init_896 : decode cX12_init 896 = .ok (.newarray .int, 2) := by decide +kernel
theorem dX12_init_898 : decode cX12_init 898 = .ok (.putfield 170, 3) := by decide +kernel
theorem dX12_init_901 : decode cX12_init 901 = .ok (.aload_n 0, 1) := by decide +kernel
theorem dX12_init_902 : decode cX12_init 902 = .ok (.sipush 201, 3) := by decide +kernel
theorem dX12_init_905 : decode cX12_init 905 = .ok (.newarray .int, 2) := by decide +kernel
theorem dX12_init_907 : decode cX12_init 907 = .ok (.putfield 173, 3) := by decide +kernel
theorem dX12_init_910 : decode cX12_init 910 = .ok (.aload_n 0, 1) := by decide +kernel
theorem dX12_init_911 : decode cX12_init 911 = .ok (.iconst (-1), 1) := by decide +kernel
theorem dX12_init_912 : decode cX12_init 912 = .ok (.putfield 176, 3) := by decide +kernel
theorem dX12_init_915 : decode cX12_init 915 = .ok (.aload_n 0, 1) := by decide +kernel
theorem dX12_init_916 : decode cX12_init 916 = .ok (.sipush 700, 3) := by decide +kernel
theorem dX12_init_919 : decode cX12_init 919 = .ok (.newarray .long, 2) := by decide +kernel
theorem dX12_init_921 : decode cX12_init 921 = .ok (.putfield 179, 3) := by decide +kernel
theorem dX12_init_924 : decode cX12_init 924 = .ok (.aload_n 0, 1) := by decide +kernel
theorem dX12_init_925 : decode cX12_init 925 = .ok (.bipush 120, 2) := by decide +kernel
theorem dX12_init_927 : decode cX12_init 927 = .ok (.newarray .int, 2) := by decide +kernel
theorem dX12_init_929 : decode cX12_init 929 = .ok (.putfield 183, 3) := by decide +kernel
theorem dX12_init_932 : decode cX12_init 932 = .ok (.aload_n 0, 1) := by decide +kernel
theorem dX12_init_933 : decode cX12_init 933 = .ok (.bipush 120, 2) := by decide +kernel
theorem dX12_init_935 : decode cX12_init 935 = .ok (.newarray .int, 2) := by decide +kernel
theorem dX12_init_937 : decode cX12_init 937 = .ok (.putfield 186, 3) := by decide +kernel
theorem dX12_init_940 : decode cX12_init 940 = .ok (.aload_n 0, 1) := by decide +kernel
theorem dX12_init_941 : decode cX12_init 941 = .ok (.bipush 120, 2) := by decide +kernel
theorem dX12_init_943 : decode cX12_init 943 = .ok (.newarray .int, 2) := by decide +kernel
theorem dX12_init_945 : decode cX12_init 945 = .ok (.putfield 189, 3) := by decide +kernel
theorem dX12_init_948 : decode cX12_init 948 = .ok (.aload_n 0, 1) := by decide +kernel
theorem dX12_init_949 : decode cX12_init 949 = .ok (.bipush 120, 2) := by decide +kernel
theorem dX12_init_951 : decode cX12_init 951 = .ok (.newarray .int, 2) := by decide +kernel
theorem dX12_init_953 : decode cX12_init 953 = .ok (.putfield 192, 3) := by decide +kernel
theorem dX12_init_956 : decode cX12_init 956 = .ok (.aload_n 0, 1) := by decide +kernel
theorem dX12_init_957 : decode cX12_init 957 = .ok (.bipush 120, 2) := by decide +kernel
theorem dX12_init_959 : decode cX12_init 959 = .ok (.newarray .int, 2) := by decide +kernel
theorem dX12_init_961 : decode cX12_init 961 = .ok (.putfield 195, 3) := by decide +kernel
theorem dX12_init_964 : decode cX12_init 964 = .ok (.aload_n 0, 1) := by decide +kernel
theorem dX12_init_965 : decode cX12_init 965 = .ok (.bipush 120, 2) := by decide +kernel
theorem dX12_init_967 : decode cX12_init 967 = .ok (.newarray .boolean, 2) := by decide +kernel
theorem dX12_init_969 : decode cX12_init 969 = .ok (.putfield 198, 3) := by decide +kernel
theorem dX12_init_972 : decode cX12_init 972 = .ok (.aload_n 0, 1) := by decide +kernel
theorem dX12_init_973 : decode cX12_init 973 = .ok (.bipush 120, 2) := by decide +kernel
theorem dX12_init_975 : decode cX12_init 975 = .ok (.newarray .int, 2) := by decide +kernel
theorem dX12_init_977 : decode cX12_init 977 = .ok (.putfield 201, 3) := by decide +kernel
theorem dX12_init_980 : decode cX12_init 980 = .ok (.aload_n 0, 1) := by decide +kernel
theorem dX12_init_981 : decode cX12_init 981 = .ok (.bipush 12, 2) := by decide +kernel
theorem dX12_init_983 : decode cX12_init 983 = .ok (.newarray .int, 2) := by decide +kernel
theorem dX12_init_985 : decode cX12_init 985 = .ok (.putfield 204, 3) := by decide +kernel
theorem dX12_init_988 : decode cX12_init 988 = .ok (.aload_n 0, 1) := by decide +kernel
theorem dX12_init_989 : decode cX12_init 989 = .ok (.bipush 12, 2) := by decide +kernel
theorem dX12_init_991 : decode cX12_init 991 = .ok (.newarray .int, 2) := by decide +kernel
theorem dX12_init_993 : decode cX12_init 993 = .ok (.putfield 207, 3) := by decide +kernel
theorem dX12_init_996 : decode cX12_init 996 = .ok (.aload_n 0, 1) := by decide +kernel
theorem dX12_init_997 : decode cX12_init 997 = .ok (.bipush 12, 2) := by decide +kernel
theorem dX12_init_999 : decode cX12_init 999 = .ok (.newarray .int, 2) := by decide +kernel
theorem dX12_init_1001 : decode cX12_init 1001 = .ok (.putfield 210, 3) := by decide +kernel
theorem dX12_init_1004 : decode cX12_init 1004 = .ok (.aload_n 0, 1) := by decide +kernel
theorem dX12_init_1005 : decode cX12_init 1005 = .ok (.sipush 201, 3) := by decide +kernel
theorem dX12_init_1008 : decode cX12_init 1008 = .ok (.newarray .int, 2) := by decide +kernel
theorem dX12_init_1010 : decode cX12_init 1010 = .ok (.putfield 213, 3) := by decide +kernel
theorem dX12_init_1013 : decode cX12_init 1013 = .ok (.aload_n 0, 1) := by decide +kernel
theorem dX12_init_1014 : decode cX12_init 1014 = .ok (.sipush 201, 3) := by decide +kernel
theorem dX12_init_1017 : decode cX12_init 1017 = .ok (.newarray .int, 2) := by decide +kernel
theorem dX12_init_1019 : decode cX12_init 1019 = .ok (.putfield 216, 3) := by decide +kernel
theorem dX12_init_1022 : decode cX12_init 1022 = .ok (.aload_n 0, 1) := by decide +kernel
theorem dX12_init_1023 : decode cX12_init 1023 = .ok (.sipush 201, 3) := by decide +kernel
theorem dX12_init_1026 : decode cX12_init 1026 = .ok (.newarray .int, 2) := by decide +kernel
theorem dX12_init_1028 : decode cX12_init 1028 = .ok (.putfield 219, 3) := by decide +kernel
theorem dX12_init_1031 : decode cX12_init 1031 = .ok (.aload_n 0, 1) := by decide +kernel
theorem dX12_init_1032 : decode cX12_init 1032 = .ok (.sipush 201, 3) := by decide +kernel
theorem dX12_init_1035 : decode cX12_init 1035 = .ok (.newarray .boolean, 2) := by decide +kernel
theorem dX12_init_1037 : decode cX12_init 1037 = .ok (.putfield 222, 3) := by decide +kernel
theorem dX12_init_1040 : decode cX12_init 1040 = .ok (.aload_n 0, 1) := by decide +kernel
theorem dX12_init_1041 : decode cX12_init 1041 = .ok (.sipush 201, 3) := by decide +kernel
theorem dX12_init_1044 : decode cX12_init 1044 = .ok (.newarray .long, 2) := by decide +kernel
theorem dX12_init_1046 : decode cX12_init 1046 = .ok (.putfield 225, 3) := by decide +kernel
theorem dX12_init_1049 : decode cX12_init 1049 = .ok (.aload_n 0, 1) := by decide +kernel
theorem dX12_init_1050 : decode cX12_init 1050 = .ok (.bipush 120, 2) := by decide +kernel
theorem dX12_init_1052 : decode cX12_init 1052 = .ok (.newarray .boolean, 2) := by decide +kernel
theorem dX12_init_1054 : decode cX12_init 1054 = .ok (.putfield 228, 3) := by decide +kernel
theorem dX12_init_1057 : decode cX12_init 1057 = .ok (.aload_n 0, 1) := by decide +kernel
theorem dX12_init_1058 : decode cX12_init 1058 = .ok (.bipush 120, 2) := by decide +kernel
theorem dX12_init_1060 : decode cX12_init 1060 = .ok (.newarray .int, 2) := by decide +kernel
theorem dX12_init_1062 : decode cX12_init 1062 = .ok (.putfield 231, 3) := by decide +kernel
theorem dX12_init_1065 : decode cX12_init 1065 = .ok (.aload_n 0, 1) := by decide +kernel
theorem dX12_init_1066 : decode cX12_init 1066 = .ok (.bipush 120, 2) := by decide +kernel
theorem dX12_init_1068 : decode cX12_init 1068 = .ok (.newarray .int, 2) := by decide +kernel
theorem dX12_init_1070 : decode cX12_init 1070 = .ok (.putfield 234, 3) := by decide +kernel
theorem dX12_init_1073 : decode cX12_init 1073 = .ok (.aload_n 0, 1) := by decide +kernel
theorem dX12_init_1074 : decode cX12_init 1074 = .ok (.bipush 120, 2) := by decide +kernel
theorem dX12_init_1076 : decode cX12_init 1076 = .ok (.newarray .int, 2) := by decide +kernel
theorem dX12_init_1078 : decode cX12_init 1078 = .ok (.putfield 237, 3) := by decide +kernel
theorem dX12_init_1081 : decode cX12_init 1081 = .ok (.aload_n 0, 1) := by decide +kernel
theorem dX12_init_1082 : decode cX12_init 1082 = .ok (.bipush 120, 2) := by decide +kernel
theorem dX12_init_1084 : decode cX12_init 1084 = .ok (.newarray .int, 2) := by decide +kernel
theorem dX12_init_1086 : decode cX12_init 1086 = .ok (.putfield 240, 3) := by decide +kernel
theorem dX12_init_1089 : decode cX12_init 1089 = .ok (.aload_n 0, 1) := by decide +kernel
theorem dX12_init_1090 : decode cX12_init 1090 = .ok (.bipush 120, 2) := by decide +kernel
theorem dX12_init_1092 : decode cX12_init 1092 = .ok (.newarray .int, 2) := by decide +kernel
theorem dX12_init_1094 : decode cX12_init 1094 = .ok (.putfield 243, 3) := by decide +kernel
theorem dX12_init_1097 : decode cX12_init 1097 = .ok (.aload_n 0, 1) := by decide +kernel
theorem dX12_init_1098 : decode cX12_init 1098 = .ok (.bipush 120, 2) := by decide +kernel
theorem dX12_init_1100 : decode cX12_init 1100 = .ok (.newarray .int, 2) := by decide +kernel
theorem dX12_init_1102 : decode cX12_init 1102 = .ok (.putfield 246, 3) := by decide +kernel
theorem dX12_init_1105 : decode cX12_init 1105 = .ok (.aload_n 0, 1) := by decide +kernel
theorem dX12_init_1106 : decode cX12_init 1106 = .ok (.bipush 12, 2) := by decide +kernel
theorem dX12_init_1108 : decode cX12_init 1108 = .ok (.newarray .int, 2) := by decide +kernel
theorem dX12_init_1110 : decode cX12_init 1110 = .ok (.putfield 249, 3) := by decide +kernel
theorem dX12_init_1113 : decode cX12_init 1113 = .ok (.aload_n 0, 1) := by decide +kernel
theorem dX12_init_1114 : decode cX12_init 1114 = .ok (.bipush 12, 2) := by decide +kernel
theorem dX12_init_1116 : decode cX12_init 1116 = .ok (.newarray .int, 2) := by decide +kernel
theorem dX12_init_1118 : decode cX12_init 1118 = .ok (.putfield 252, 3) := by decide +kernel
theorem dX12_init_1121 : decode cX12_init 1121 = .ok (.aload_n 0, 1) := by decide +kernel
theorem dX12_init_1122 : decode cX12_init 1122 = .ok (.bipush 12, 2) := by decide +kernel
theorem dX12_init_1124 : decode cX12_init 1124 = .ok (.newarray .int, 2) := by decide +kernel
theorem dX12_init_1126 : decode cX12_init 1126 = .ok (.putfield 255, 3) := by decide +kernel
theorem dX12_init_1129 : decode cX12_init 1129 = .ok (.aload_n 0, 1) := by decide +kernel
theorem dX12_init_1130 : decode cX12_init 1130 = .ok (.sipush 201, 3) := by decide +kernel
theorem dX12_init_1133 : decode cX12_init 1133 = .ok (.newarray .boolean, 2) := by decide +kernel
theorem dX12_init_1135 : decode cX12_init 1135 = .ok (.putfield 258, 3) := by decide +kernel
theorem dX12_init_1138 : decode cX12_init 1138 = .ok (.aload_n 0, 1) := by decide +kernel
theorem dX12_init_1139 : decode cX12_init 1139 = .ok (.sipush 201, 3) := by decide +kernel
theorem dX12_init_1142 : decode cX12_init 1142 = .ok (.newarray .int, 2) := by decide +kernel
theorem dX12_init_1144 : decode cX12_init 1144 = .ok (.putfield 261, 3) := by decide +kernel
theorem dX12_init_1147 : decode cX12_init 1147 = .ok (.aload_n 0, 1) := by decide +kernel
theorem dX12_init_1148 : decode cX12_init 1148 = .ok (.sipush 201, 3) := by decide +kernel
theorem dX12_init_1151 : decode cX12_init 1151 = .ok (.newarray .int, 2) := by decide +kernel
theorem dX12_init_1153 : decode cX12_init 1153 = .ok (.putfield 264, 3) := by decide +kernel
theorem dX12_init_1156 : decode cX12_init 1156 = .ok (.aload_n 0, 1) := by decide +kernel
theorem dX12_init_1157 : decode cX12_init 1157 = .ok (.bipush 9, 2) := by decide +kernel
theorem dX12_init_1159 : decode cX12_init 1159 = .ok (.newarray .int, 2) := by decide +kernel
theorem dX12_init_1161 : decode cX12_init 1161 = .ok (.putfield 267, 3) := by decide +kernel
theorem dX12_init_1164 : decode cX12_init 1164 = .ok (.aload_n 0, 1) := by decide +kernel
theorem dX12_init_1165 : decode cX12_init 1165 = .ok (.bipush 90, 2) := by decide +kernel
theorem dX12_init_1167 : decode cX12_init 1167 = .ok (.newarray .long, 2) := by decide +kernel
theorem dX12_init_1169 : decode cX12_init 1169 = .ok (.putfield 270, 3) := by decide +kernel
theorem dX12_init_1172 : decode cX12_init 1172 = .ok (.aload_n 0, 1) := by decide +kernel
theorem dX12_init_1173 : decode cX12_init 1173 = .ok (.bipush 90, 2) := by decide +kernel
theorem dX12_init_1175 : decode cX12_init 1175 = .ok (.newarray .long, 2) := by decide +kernel
theorem dX12_init_1177 : decode cX12_init 1177 = .ok (.putfield 273, 3) := by decide +kernel
theorem dX12_init_1180 : decode cX12_init 1180 = .ok (.aload_n 0, 1) := by decide +kernel
theorem dX12_init_1181 : decode cX12_init 1181 = .ok (.bipush 90, 2) := by decide +kernel
theorem dX12_init_1183 : decode cX12_init 1183 = .ok (.newarray .long, 2) := by decide +kernel
theorem dX12_init_1185 : decode cX12_init 1185 = .ok (.putfield 276, 3) := by decide +kernel
theorem dX12_init_1188 : decode cX12_init 1188 = .ok (.aload_n 0, 1) := by decide +kernel
theorem dX12_init_1189 : decode cX12_init 1189 = .ok (.iconst 3, 1) := by decide +kernel
theorem dX12_init_1190 : decode cX12_init 1190 = .ok (.newarray .int, 2) := by decide +kernel
theorem dX12_init_1192 : decode cX12_init 1192 = .ok (.putfield 279, 3) := by decide +kernel
theorem dX12_init_1195 : decode cX12_init 1195 = .ok (.return_, 1) := by decide +kernel
theorem dX12_isIn_0 : decode cX12_isIn 0 = .ok (.lload_n 0, 1) := by decide +kernel
theorem dX12_isIn_1 : decode cX12_isIn 1 = .ok (.lload_n 2, 1) := by decide +kernel
theorem dX12_isIn_2 : decode cX12_isIn 2 = .ok (.lcmp, 1) := by decide +kernel
theorem dX12_isIn_3 : decode cX12_isIn 3 = .ok (.ifCond .lt 14, 3) := by decide +kernel
theorem dX12_isIn_6 : decode cX12_isIn 6 = .ok (.lload_n 0, 1) := by decide +kernel
theorem dX12_isIn_7 : decode cX12_isIn 7 = .ok (.lload 4, 2) := by decide +kernel
theorem dX12_isIn_9 : decode cX12_isIn 9 = .ok (.lcmp, 1) := by decide +kernel
theorem dX12_isIn_10 : decode cX12_isIn 10 = .ok (.ifCond .gt 7, 3) := by decide +kernel
theorem dX12_isIn_13 : decode cX12_isIn 13 = .ok (.iconst 1, 1) := by decide +kernel
theorem dX12_isIn_14 : decode cX12_isIn 14 = .ok (.goto 4, 3) := by decide +kernel
theorem dX12_isIn_17 : decode cX12_isIn 17 = .ok (.iconst 0, 1) := by decide +kernel
theorem dX12_isIn_18 : decode cX12_isIn 18 = .ok (.ireturn, 1) := by decide +kernel
theorem dX12_feed_0 : decode cX12_feed 0 = .ok (.aload_n 0, 1) := by decide +kernel
theorem dX12_feed_1 : decode cX12_feed 1 = .ok (.getfield 282, 3) := by decide +kernel
theorem dX12_feed_4 : decode cX12_feed 4 = .ok (.bipush 20, 2) := by decide +kernel
theorem dX12_feed_6 : decode cX12_feed 6 = .ok (.iadd, 1) := by decide +kernel
theorem dX12_feed_7 : decode cX12_feed 7 = .ok (.sipush 600, 3) := by decide +kernel
theorem dX12_feed_10 : decode cX12_feed 10 = .ok (.if_icmp .le 5, 3) := by decide +kernel
theorem dX12_feed_13 : decode cX12_feed 13 = .ok (.iconst (-1), 1) := by decide +kernel
theorem dX12_feed_14 : decode cX12_feed 14 = .ok (.ireturn, 1) := by decide +kernel
theorem dX12_feed_15 : decode cX12_feed 15 = .ok (.iconst 0, 1) := by decide +kernel
theorem dX12_feed_16 : decode cX12_feed 16 = .ok (.istore 6, 2) := by decide +kernel
theorem dX12_feed_18 : decode cX12_feed 18 = .ok (.iload 6, 2) := by decide +kernel
theorem dX12_feed_20 : decode cX12_feed 20 = .ok (.bipush 20, 2) := by decide +kernel
theorem dX12_feed_22 : decode cX12_feed 22 = .ok (.if_icmp .ge 92, 3) := by decide +kernel
theorem dX12_feed_25 : decode cX12_feed 25 = .ok (.iload 6, 2) := by decide +kernel
theorem dX12_feed_27 : decode cX12_feed 27 = .ok (.iconst 4, 1) := by decide +kernel
theorem dX12_feed_28 : decode cX12_feed 28 = .ok (.if_icmp .ge 7, 3) := by decide +kernel
theorem dX12_feed_31 : decode cX12_feed 31 = .ok (.iload_n 1, 1) := by decide +kernel
theorem dX12_feed_32 : decode cX12_feed 32 = .ok (.goto 39, 3) := by decide +kernel
theorem dX12_feed_35 : decode cX12_feed 35 = .ok (.iload 6, 2) := by decide +kernel
theorem dX12_feed_37 : decode cX12_feed 37 = .ok (.bipush 8, 2) := by decide +kernel
theorem dX12_feed_39 : decode cX12_feed 39 = .ok (.if_icmp .ge 7, 3) := by decide +kernel
theorem dX12_feed_42 : decode cX12_feed 42 = .ok (.iload_n 2, 1) := by decide +kernel
theorem dX12_feed_43 : decode cX12_feed 43 = .ok (.goto 28, 3) := by decide +kernel
theorem dX12_feed_46 : decode cX12_feed 46 = .ok (.iload 6, 2) := by decide +kernel
theorem dX12_feed_48 : decode cX12_feed 48 = .ok (.bipush 12, 2) := by decide +kernel
theorem dX12_feed_50 : decode cX12_feed 50 = .ok (.if_icmp .ge 7, 3) := by decide +kernel
theorem dX12_feed_53 : decode cX12_feed 53 = .ok (.iload_n 3, 1) := by decide +kernel
theorem dX12_feed_54 : decode cX12_feed 54 = .ok (.goto 17, 3) := by decide +kernel
theorem dX12_feed_57 : decode cX12_feed 57 = .ok (.iload 6, 2) := by decide +kernel
theorem dX12_feed_59 : decode cX12_feed 59 = .ok (.bipush 16, 2) := by decide +kernel
theorem dX12_feed_61 : decode cX12_feed 61 = .ok (.if_icmp .ge 8, 3) := by decide +kernel
theorem dX12_feed_64 : decode cX12_feed 64 = .ok (.iload 4, 2) := by decide +kernel
theorem dX12_feed_66 : decode cX12_feed 66 = .ok (.goto 5, 3) := by decide +kernel
theorem dX12_feed_69 : decode cX12_feed 69 = .ok (.iload 5, 2) := by decide +kernel
theorem dX12_feed_71 : decode cX12_feed 71 = .ok (.istore 7, 2) := by decide +kernel
theorem dX12_feed_73 : decode cX12_feed 73 = .ok (.aload_n 0, 1) := by decide +kernel
theorem dX12_feed_74 : decode cX12_feed 74 = .ok (.getfield 7, 3) := by decide +kernel
theorem dX12_feed_77 : decode cX12_feed 77 = .ok (.aload_n 0, 1) := by decide +kernel
theorem dX12_feed_78 : decode cX12_feed 78 = .ok (.getfield 282, 3) := by decide +kernel
theorem dX12_feed_81 : decode cX12_feed 81 = .ok (.iload 7, 2) := by decide +kernel
theorem dX12_feed_83 : decode cX12_feed 83 = .ok (.bipush 8, 2) := by decide +kernel
theorem dX12_feed_85 : decode cX12_feed 85 = .ok (.iconst 3, 1) := by decide +kernel
theorem dX12_feed_86 : decode cX12_feed 86 = .ok (.iload 6, 2) := by decide +kernel
theorem dX12_feed_88 : decode cX12_feed 88 = .ok (.iconst 4, 1) := by decide +kernel
theorem dX12_feed_89 : decode cX12_feed 89 = .ok (.irem, 1) := by decide +kernel
theorem dX12_feed_90 : decode cX12_feed 90 = .ok (.isub, 1) := by decide +kernel
theorem dX12_feed_91 : decode cX12_feed 91 = .ok (.imul, 1) := by decide +kernel
theorem dX12_feed_92 : decode cX12_feed 92 = .ok (.ishr, 1) := by decide +kernel
theorem dX12_feed_93 : decode cX12_feed 93 = .ok (.sipush 255, 3) := by decide +kernel
theorem dX12_feed_96 : decode cX12_feed 96 = .ok (.iand, 1) := by decide +kernel
theorem dX12_feed_97 : decode cX12_feed 97 = .ok (.iastore, 1) := by decide +kernel
theorem dX12_feed_98 : decode cX12_feed 98 = .ok (.aload_n 0, 1) := by decide +kernel
theorem dX12_feed_99 : decode cX12_feed 99 = .ok (.dup, 1) := by decide +kernel
theorem dX12_feed_100 : decode cX12_feed 100 = .ok (.getfield 282, 3) := by decide +kernel
theorem dX12_feed_103 : decode cX12_feed 103 = .ok (.iconst 1, 1) := by decide +kernel
theorem dX12_feed_104 : decode cX12_feed 104 = .ok (.iadd, 1) := by decide +kernel
theorem dX12_feed_105 : decode cX12_feed 105 = .ok (.putfield 282, 3) := by decide +kernel
theorem dX12_feed_108 : decode cX12_feed 108 = .ok (.iinc 6 1, 3) := by decide +kernel
theorem dX12_feed_111 : decode cX12_feed 111 = .ok (.goto (-93), 3) := by decide +kernel
theorem dX12_feed_114 : decode cX12_feed 114 = .ok (.aload_n 0, 1) := by decide +kernel
theorem dX12_feed_115 : decode cX12_feed 115 = .ok (.getfield 282, 3) := by decide +kernel
theorem dX12_feed_118 : decode cX12_feed 118 = .ok (.ireturn, 1) := by decide +kernel
theorem dX12_end_0 : decode cX12_end 0 = .ok (.iload_n 1, 1) := by decide +kernel
theorem dX12_end_1 : decode cX12_end 1 = .ok (.ifCond .lt 11, 3) := by decide +kernel
theorem dX12_end_4 : decode cX12_end 4 = .ok (.iload_n 1, 1) := by decide +kernel
theorem dX12_end_5 : decode cX12_end 5 = .ok (.aload_n 0, 1) := by decide +kernel
theorem dX12_end_6 : decode cX12_end 6 = .ok (.getfield 282, 3) := by decide +kernel
theorem dX12_end_9 : decode cX12_end 9 = .ok (.if_icmp .le 5, 3) := by decide +kernel
theorem dX12_end_12 : decode cX12_end 12 = .ok (.iconst 0, 1) := by decide +kernel
theorem dX12_end_13 : decode cX12_end 13 = .ok (.ireturn, 1) := by decide +kernel
theorem dX12_end_14 : decode cX12_end 14 = .ok (.aload_n 0, 1) := by decide +kernel
theorem dX12_end_15 : decode cX12_end 15 = .ok (.iload_n 1, 1) := by decide +kernel
theorem dX12_end_16 : decode cX12_end 16 = .ok (.putfield 282, 3) := by decide +kernel
theorem dX12_end_19 : decode cX12_end 19 = .ok (.iconst 1, 1) := by decide +kernel
theorem dX12_end_20 : decode cX12_end 20 = .ok (.ireturn, 1) := by decide +kernel
theorem dX12_fail_0 : decode cX12_fail 0 = .ok (.aload_n 0, 1) := by decide +kernel
theorem dX12_fail_1 : decode cX12_fail 1 = .ok (.getfield 285, 3) := by decide +kernel
theorem dX12_fail_4 : decode cX12_fail 4 = .ok (.ifCond .eq 4, 3) := by decide +kernel
theorem dX12_fail_7 : decode cX12_fail 7 = .ok (.return_, 1) := by decide +kernel
theorem dX12_fail_8 : decode cX12_fail 8 = .ok (.aload_n 0, 1) := by decide +kernel
theorem dX12_fail_9 : decode cX12_fail 9 = .ok (.iload_n 1, 1) := by decide +kernel
theorem dX12_fail_10 : decode cX12_fail 10 = .ok (.putfield 285, 3) := by decide +kernel
theorem dX12_fail_13 : decode cX12_fail 13 = .ok (.aload_n 0, 1) := by decide +kernel
theorem dX12_fail_14 : decode cX12_fail 14 = .ok (.iload_n 2, 1) := by decide +kernel
theorem dX12_fail_15 : decode cX12_fail 15 = .ok (.putfield 288, 3) := by decide +kernel
theorem dX12_fail_18 : decode cX12_fail 18 = .ok (.return_, 1) := by decide +kernel
theorem dX12_isLetter_0 : decode cX12_isLetter 0 = .ok (.iload_n 0, 1) := by decide +kernel
theorem dX12_isLetter_1 : decode cX12_isLetter 1 = .ok (.bipush 97, 2) := by decide +kernel
theorem dX12_isLetter_3 : decode cX12_isLetter 3 = .ok (.if_icmp .lt 13, 3) := by decide +kernel
theorem dX12_isLetter_6 : decode cX12_isLetter 6 = .ok (.iload_n 0, 1) := by decide +kernel
theorem dX12_isLetter_7 : decode cX12_isLetter 7 = .ok (.bipush 122, 2) := by decide +kernel
theorem dX12_isLetter_9 : decode cX12_isLetter 9 = .ok (.if_icmp .gt 7, 3) := by decide +kernel
theorem dX12_isLetter_12 : decode cX12_isLetter 12 = .ok (.iconst 1, 1) := by decide +kernel
theorem dX12_isLetter_13 : decode cX12_isLetter 13 = .ok (.goto 4, 3) := by decide +kernel
theorem dX12_isLetter_16 : decode cX12_isLetter 16 = .ok (.iconst 0, 1) := by decide +kernel
theorem dX12_isLetter_17 : decode cX12_isLetter 17 = .ok (.ireturn, 1) := by decide +kernel
theorem dX12_isDigit_0 : decode cX12_isDigit 0 = .ok (.iload_n 0, 1) := by decide +kernel
theorem dX12_isDigit_1 : decode cX12_isDigit 1 = .ok (.bipush 48, 2) := by decide +kernel
theorem dX12_isDigit_3 : decode cX12_isDigit 3 = .ok (.if_icmp .lt 13, 3) := by decide +kernel
theorem dX12_isDigit_6 : decode cX12_isDigit 6 = .ok (.iload_n 0, 1) := by decide +kernel
theorem dX12_isDigit_7 : decode cX12_isDigit 7 = .ok (.bipush 57, 2) := by decide +kernel
theorem dX12_isDigit_9 : decode cX12_isDigit 9 = .ok (.if_icmp .gt 7, 3) := by decide +kernel
theorem dX12_isDigit_12 : decode cX12_isDigit 12 = .ok (.iconst 1, 1) := by decide +kernel
theorem dX12_isDigit_13 : decode cX12_isDigit 13 = .ok (.goto 4, 3) := by decide +kernel
theorem dX12_isDigit_16 : decode cX12_isDigit 16 = .ok (.iconst 0, 1) := by decide +kernel
theorem dX12_isDigit_17 : decode cX12_isDigit 17 = .ok (.ireturn, 1) := by decide +kernel
theorem dX12_look_0 : decode cX12_look 0 = .ok (.aload_n 0, 1) := by decide +kernel
theorem dX12_look_1 : decode cX12_look 1 = .ok (.getfield 291, 3) := by decide +kernel
theorem dX12_look_4 : decode cX12_look 4 = .ok (.aload_n 0, 1) := by decide +kernel
theorem dX12_look_5 : decode cX12_look 5 = .ok (.getfield 294, 3) := by decide +kernel
theorem dX12_look_8 : decode cX12_look 8 = .ok (.if_icmp .ge 44, 3) := by decide +kernel
theorem dX12_look_11 : decode cX12_look 11 = .ok (.aload_n 0, 1) := by decide +kernel
theorem dX12_look_12 : decode cX12_look 12 = .ok (.getfield 7, 3) := by decide +kernel
theorem dX12_look_15 : decode cX12_look 15 = .ok (.aload_n 0, 1) := by decide +kernel
theorem dX12_look_16 : decode cX12_look 16 = .ok (.getfield 291, 3) := by decide +kernel
theorem dX12_look_19 : decode cX12_look 19 = .ok (.iaload, 1) := by decide +kernel
theorem dX12_look_20 : decode cX12_look 20 = .ok (.bipush 10, 2) := by decide +kernel
theorem dX12_look_22 : decode cX12_look 22 = .ok (.if_icmp .eq 17, 3) := by decide +kernel
theorem dX12_look_25 : decode cX12_look 25 = .ok (.aload_n 0, 1) := by decide +kernel
theorem dX12_look_26 : decode cX12_look 26 = .ok (.getfield 7, 3) := by decide +kernel
theorem dX12_look_29 : decode cX12_look 29 = .ok (.aload_n 0, 1) := by decide +kernel
theorem dX12_look_30 : decode cX12_look 30 = .ok (.getfield 291, 3) := by decide +kernel
theorem dX12_look_33 : decode cX12_look 33 = .ok (.iaload, 1) := by decide +kernel
theorem dX12_look_34 : decode cX12_look 34 = .ok (.bipush 32, 2) := by decide +kernel
theorem dX12_look_36 : decode cX12_look 36 = .ok (.if_icmp .ne 16, 3) := by decide +kernel
theorem dX12_look_39 : decode cX12_look 39 = .ok (.aload_n 0, 1) := by decide +kernel
theorem dX12_look_40 : decode cX12_look 40 = .ok (.dup, 1) := by decide +kernel
theorem dX12_look_41 : decode cX12_look 41 = .ok (.getfield 291, 3) := by decide +kernel
theorem dX12_look_44 : decode cX12_look 44 = .ok (.iconst 1, 1) := by decide +kernel
theorem dX12_look_45 : decode cX12_look 45 = .ok (.iadd, 1) := by decide +kernel
theorem dX12_look_46 : decode cX12_look 46 = .ok (.putfield 291, 3) := by decide +kernel
theorem dX12_look_49 : decode cX12_look 49 = .ok (.goto (-49), 3) := by decide +kernel
theorem dX12_look_52 : decode cX12_look 52 = .ok (.aload_n 0, 1) := by decide +kernel
theorem dX12_look_53 : decode cX12_look 53 = .ok (.getfield 291, 3) := by decide +kernel
theorem dX12_look_56 : decode cX12_look 56 = .ok (.aload_n 0, 1) := by decide +kernel
theorem dX12_look_57 : decode cX12_look 57 = .ok (.getfield 294, 3) := by decide +kernel
theorem dX12_look_60 : decode cX12_look 60 = .ok (.if_icmp .ge 15, 3) := by decide +kernel
theorem dX12_look_63 : decode cX12_look 63 = .ok (.aload_n 0, 1) := by decide +kernel
theorem dX12_look_64 : decode cX12_look 64 = .ok (.getfield 7, 3) := by decide +kernel
theorem dX12_look_67 : decode cX12_look 67 = .ok (.aload_n 0, 1) := by decide +kernel
theorem dX12_look_68 : decode cX12_look 68 = .ok (.getfield 291, 3) := by decide +kernel
theorem dX12_look_71 : decode cX12_look 71 = .ok (.iaload, 1) := by decide +kernel
theorem dX12_look_72 : decode cX12_look 72 = .ok (.goto 4, 3) := by decide +kernel
theorem dX12_look_75 : decode cX12_look 75 = .ok (.iconst (-1), 1) := by decide +kernel
theorem dX12_look_76 : decode cX12_look 76 = .ok (.ireturn, 1) := by decide +kernel
theorem dX12_isHere_0 : decode cX12_isHere 0 = .ok (.aload_n 0, 1) := by decide +kernel
theorem dX12_isHere_1 : decode cX12_isHere 1 = .ok (.getfield 285, 3) := by decide +kernel
theorem dX12_isHere_4 : decode cX12_isHere 4 = .ok (.ifCond .ne 24, 3) := by decide +kernel
theorem dX12_isHere_7 : decode cX12_isHere 7 = .ok (.aload_n 0, 1) := by decide +kernel
theorem dX12_isHere_8 : decode cX12_isHere 8 = .ok (.invokevirtual 297, 3) := by decide +kernel
theorem dX12_isHere_11 : decode cX12_isHere 11 = .ok (.invokestatic 301, 3) := by decide +kernel
theorem dX12_isHere_14 : decode cX12_isHere 14 = .ok (.ifCond .eq 14, 3) := by decide +kernel
theorem dX12_isHere_17 : decode cX12_isHere 17 = .ok (.aload_n 0, 1) := by decide +kernel
theorem dX12_isHere_18 : decode cX12_isHere 18 = .ok (.getfield 291, 3) := by decide +kernel
theorem dX12_isHere_21 : decode cX12_isHere 21 = .ok (.aload_n 0, 1) := by decide +kernel
theorem dX12_isHere_22 : decode cX12_isHere 22 = .ok (.getfield 305, 3) := by decide +kernel
theorem dX12_isHere_25 : decode cX12_isHere 25 = .ok (.if_icmp .ne 5, 3) := by decide +kernel
theorem dX12_isHere_28 : decode cX12_isHere 28 = .ok (.iconst 0, 1) := by decide +kernel
theorem dX12_isHere_29 : decode cX12_isHere 29 = .ok (.ireturn, 1) := by decide +kernel
theorem dX12_isHere_30 : decode cX12_isHere 30 = .ok (.aload_n 0, 1) := by decide +kernel
theorem dX12_isHere_31 : decode cX12_isHere 31 = .ok (.getfield 291, 3) := by decide +kernel
theorem dX12_isHere_34 : decode cX12_isHere 34 = .ok (.istore_n 2, 1) := by decide +kernel
theorem dX12_isHere_35 : decode cX12_isHere 35 = .ok (.iload_n 2, 1) := by decide +kernel
theorem dX12_isHere_36 : decode cX12_isHere 36 = .ok (.aload_n 0, 1) := by decide +kernel
theorem dX12_isHere_37 : decode cX12_isHere 37 = .ok (.getfield 294, 3) := by decide +kernel
theorem dX12_isHere_40 : decode cX12_isHere 40 = .ok (.if_icmp .ge 21, 3) := by decide +kernel
theorem dX12_isHere_43 : decode cX12_isHere 43 = .ok (.aload_n 0, 1) := by decide +kernel
theorem dX12_isHere_44 : decode cX12_isHere 44 = .ok (.getfield 7, 3) := by decide +kernel
theorem dX12_isHere_47 : decode cX12_isHere 47 = .ok (.iload_n 2, 1) := by decide +kernel
theorem dX12_isHere_48 : decode cX12_isHere 48 = .ok (.iaload, 1) := by decide +kernel
theorem dX12_isHere_49 : decode cX12_isHere 49 = .ok (.invokestatic 301, 3) := by decide +kernel
theorem dX12_isHere_52 : decode cX12_isHere 52 = .ok (.ifCond .eq 9, 3) := by decide +kernel
theorem dX12_isHere_55 : decode cX12_isHere 55 = .ok (.iinc 2 1, 3) := by decide +kernel
theorem dX12_isHere_58 : decode cX12_isHere 58 = .ok (.goto (-23), 3) := by decide +kernel
theorem dX12_isHere_61 : decode cX12_isHere 61 = .ok (.iload_n 2, 1) := by decide +kernel
theorem dX12_isHere_62 : decode cX12_isHere 62 = .ok (.aload_n 0, 1) := by decide +kernel
theorem dX12_isHere_63 : decode cX12_isHere 63 = .ok (.getfield 291, 3) := by decide +kernel
theorem dX12_isHere_66 : decode cX12_isHere 66 = .ok (.isub, 1) := by decide +kernel
theorem dX12_isHere_67 : decode cX12_isHere 67 = .ok (.aload_n 1, 1) := by decide +kernel
theorem dX12_isHere_68 : decode cX12_isHere 68 = .ok (.arraylength, 1) := by decide +kernel
theorem dX12_isHere_69 : decode cX12_isHere 69 = .ok (.if_icmp .eq 5, 3) := by decide +kernel
theorem dX12_isHere_72 : decode cX12_isHere 72 = .ok (.iconst 0, 1) := by decide +kernel
theorem dX12_isHere_73 : decode cX12_isHere 73 = .ok (.ireturn, 1) := by decide +kernel
theorem dX12_isHere_74 : decode cX12_isHere 74 = .ok (.iconst 0, 1) := by decide +kernel
theorem dX12_isHere_75 : decode cX12_isHere 75 = .ok (.istore_n 3, 1) := by decide +kernel
theorem dX12_isHere_76 : decode cX12_isHere 76 = .ok (.iload_n 3, 1) := by decide +kernel
theorem dX12_isHere_77 : decode cX12_isHere 77 = .ok (.aload_n 1, 1) := by decide +kernel
theorem dX12_isHere_78 : decode cX12_isHere 78 = .ok (.arraylength, 1) := by decide +kernel
theorem dX12_isHere_79 : decode cX12_isHere 79 = .ok (.if_icmp .ge 28, 3) := by decide +kernel
theorem dX12_isHere_82 : decode cX12_isHere 82 = .ok (.aload_n 0, 1) := by decide +kernel
theorem dX12_isHere_83 : decode cX12_isHere 83 = .ok (.getfield 7, 3) := by decide +kernel
theorem dX12_isHere_86 : decode cX12_isHere 86 = .ok (.aload_n 0, 1) := by decide +kernel
theorem dX12_isHere_87 : decode cX12_isHere 87 = .ok (.getfield 291, 3) := by decide +kernel
theorem dX12_isHere_90 : decode cX12_isHere 90 = .ok (.iload_n 3, 1) := by decide +kernel
theorem dX12_isHere_91 : decode cX12_isHere 91 = .ok (.iadd, 1) := by decide +kernel
theorem dX12_isHere_92 : decode cX12_isHere 92 = .ok (.iaload, 1) := by decide +kernel
theorem dX12_isHere_93 : decode cX12_isHere 93 = .ok (.aload_n 1, 1) := by decide +kernel
theorem dX12_isHere_94 : decode cX12_isHere 94 = .ok (.iload_n 3, 1) := by decide +kernel
theorem dX12_isHere_95 : decode cX12_isHere 95 = .ok (.caload, 1) := by decide +kernel
theorem dX12_isHere_96 : decode cX12_isHere 96 = .ok (.if_icmp .eq 5, 3) := by decide +kernel
theorem dX12_isHere_99 : decode cX12_isHere 99 = .ok (.iconst 0, 1) := by decide +kernel
theorem dX12_isHere_100 : decode cX12_isHere 100 = .ok (.ireturn, 1) := by decide +kernel
theorem dX12_isHere_101 : decode cX12_isHere 101 = .ok (.iinc 3 1, 3) := by decide +kernel
theorem dX12_isHere_104 : decode cX12_isHere 104 = .ok (.goto (-28), 3) := by decide +kernel
theorem dX12_isHere_107 : decode cX12_isHere 107 = .ok (.iconst 1, 1) := by decide +kernel
theorem dX12_isHere_108 : decode cX12_isHere 108 = .ok (.ireturn, 1) := by decide +kernel
theorem dX12_takes_0 : decode cX12_takes 0 = .ok (.aload_n 0, 1) := by decide +kernel
theorem dX12_takes_1 : decode cX12_takes 1 = .ok (.aload_n 1, 1) := by decide +kernel
theorem dX12_takes_2 : decode cX12_takes 2 = .ok (.invokevirtual 308, 3) := by decide +kernel
theorem dX12_takes_5 : decode cX12_takes 5 = .ok (.ifCond .ne 5, 3) := by decide +kernel
theorem dX12_takes_8 : decode cX12_takes 8 = .ok (.iconst 0, 1) := by decide +kernel
theorem dX12_takes_9 : decode cX12_takes 9 = .ok (.ireturn, 1) := by decide +kernel
theorem dX12_takes_10 : decode cX12_takes 10 = .ok (.aload_n 0, 1) := by decide +kernel
theorem dX12_takes_11 : decode cX12_takes 11 = .ok (.dup, 1) := by decide +kernel
theorem dX12_takes_12 : decode cX12_takes 12 = .ok (.getfield 291, 3) := by decide +kernel
theorem dX12_takes_15 : decode cX12_takes 15 = .ok (.aload_n 1, 1) := by decide +kernel
theorem dX12_takes_16 : decode cX12_takes 16 = .ok (.arraylength, 1) := by decide +kernel
theorem dX12_takes_17 : decode cX12_takes 17 = .ok (.iadd, 1) := by decide +kernel
theorem dX12_takes_18 : decode cX12_takes 18 = .ok (.putfield 291, 3) := by decide +kernel
theorem dX12_takes_21 : decode cX12_takes 21 = .ok (.aload_n 0, 1) := by decide +kernel
theorem dX12_takes_22 : decode cX12_takes 22 = .ok (.aload_n 0, 1) := by decide +kernel
theorem dX12_takes_23 : decode cX12_takes 23 = .ok (.getfield 291, 3) := by decide +kernel
theorem dX12_takes_26 : decode cX12_takes 26 = .ok (.putfield 305, 3) := by decide +kernel
theorem dX12_takes_29 : decode cX12_takes 29 = .ok (.iconst 1, 1) := by decide +kernel
theorem dX12_takes_30 : decode cX12_takes 30 = .ok (.ireturn, 1) := by decide +kernel
theorem dX12_asks_0 : decode cX12_asks 0 = .ok (.aload_n 0, 1) := by decide +kernel
theorem dX12_asks_1 : decode cX12_asks 1 = .ok (.getfield 285, 3) := by decide +kernel
theorem dX12_asks_4 : decode cX12_asks 4 = .ok (.ifCond .ne 20, 3) := by decide +kernel
theorem dX12_asks_7 : decode cX12_asks 7 = .ok (.aload_n 0, 1) := by decide +kernel
theorem dX12_asks_8 : decode cX12_asks 8 = .ok (.aload_n 1, 1) := by decide +kernel
theorem dX12_asks_9 : decode cX12_asks 9 = .ok (.invokevirtual 312, 3) := by decide +kernel
theorem dX12_asks_12 : decode cX12_asks 12 = .ok (.ifCond .ne 12, 3) := by decide +kernel
theorem dX12_asks_15 : decode cX12_asks 15 = .ok (.aload_n 0, 1) := by decide +kernel
theorem dX12_asks_16 : decode cX12_asks 16 = .ok (.iconst 1, 1) := by decide +kernel
theorem dX12_asks_17 : decode cX12_asks 17 = .ok (.aload_n 0, 1) := by decide +kernel
theorem dX12_asks_18 : decode cX12_asks 18 = .ok (.getfield 291, 3) := by decide +kernel
theorem dX12_asks_21 : decode cX12_asks 21 = .ok (.invokevirtual 315, 3) := by decide +kernel
theorem dX12_asks_24 : decode cX12_asks 24 = .ok (.return_, 1) := by decide +kernel
theorem dX12_takesSign_0 : decode cX12_takesSign 0 = .ok (.aload_n 0, 1) := by decide +kernel
theorem dX12_takesSign_1 : decode cX12_takesSign 1 = .ok (.getfield 285, 3) := by decide +kernel
theorem dX12_takesSign_4 : decode cX12_takesSign 4 = .ok (.ifCond .ne 11, 3) := by decide +kernel
theorem dX12_takesSign_7 : decode cX12_takesSign 7 = .ok (.aload_n 0, 1) := by decide +kernel
theorem dX12_takesSign_8 : decode cX12_takesSign 8 = .ok (.invokevirtual 297, 3) := by decide +kernel
theorem dX12_takesSign_11 : decode cX12_takesSign 11 = .ok (.iload_n 1, 1) := by decide +kernel
theorem dX12_takesSign_12 : decode cX12_takesSign 12 = .ok (.if_icmp .eq 5, 3) := by decide +kernel
theorem dX12_takesSign_15 : decode cX12_takesSign 15 = .ok (.iconst 0, 1) := by decide +kernel
theorem dX12_takesSign_16 : decode cX12_takesSign 16 = .ok (.ireturn, 1) := by decide +kernel
theorem dX12_takesSign_17 : decode cX12_takesSign 17 = .ok (.aload_n 0, 1) := by decide +kernel
theorem dX12_takesSign_18 : decode cX12_takesSign 18 = .ok (.dup, 1) := by decide +kernel
theorem dX12_takesSign_19 : decode cX12_takesSign 19 = .ok (.getfield 291, 3) := by decide +kernel
theorem dX12_takesSign_22 : decode cX12_takesSign 22 = .ok (.iconst 1, 1) := by decide +kernel
theorem dX12_takesSign_23 : decode cX12_takesSign 23 = .ok (.iadd, 1) := by decide +kernel
theorem dX12_takesSign_24 : decode cX12_takesSign 24 = .ok (.putfield 291, 3) := by decide +kernel
theorem dX12_takesSign_27 : decode cX12_takesSign 27 = .ok (.iconst 1, 1) := by decide +kernel
theorem dX12_takesSign_28 : decode cX12_takesSign 28 = .ok (.ireturn, 1) := by decide +kernel
theorem dX12_asksSign_0 : decode cX12_asksSign 0 = .ok (.aload_n 0, 1) := by decide +kernel
theorem dX12_asksSign_1 : decode cX12_asksSign 1 = .ok (.getfield 285, 3) := by decide +kernel
theorem dX12_asksSign_4 : decode cX12_asksSign 4 = .ok (.ifCond .ne 20, 3) := by decide +kernel
theorem dX12_asksSign_7 : decode cX12_asksSign 7 = .ok (.aload_n 0, 1) := by decide +kernel
theorem dX12_asksSign_8 : decode cX12_asksSign 8 = .ok (.iload_n 1, 1) := by decide +kernel
theorem dX12_asksSign_9 : decode cX12_asksSign 9 = .ok (.invokevirtual 319, 3) := by decide +kernel
theorem dX12_asksSign_12 : decode cX12_asksSign 12 = .ok (.ifCond .ne 12, 3) := by decide +kernel
theorem dX12_asksSign_15 : decode cX12_asksSign 15 = .ok (.aload_n 0, 1) := by decide +kernel
theorem dX12_asksSign_16 : decode cX12_asksSign 16 = .ok (.iconst 1, 1) := by decide +kernel
theorem dX12_asksSign_17 : decode cX12_asksSign 17 = .ok (.aload_n 0, 1) := by decide +kernel
theorem dX12_asksSign_18 : decode cX12_asksSign 18 = .ok (.getfield 291, 3) := by decide +kernel
theorem dX12_asksSign_21 : decode cX12_asksSign 21 = .ok (.invokevirtual 315, 3) := by decide +kernel
theorem dX12_asksSign_24 : decode cX12_asksSign 24 = .ok (.return_, 1) := by decide +kernel
theorem dX12_number_0 : decode cX12_number 0 = .ok (.aload_n 0, 1) := by decide +kernel
theorem dX12_number_1 : decode cX12_number 1 = .ok (.getfield 285, 3) := by decide +kernel
theorem dX12_number_4 : decode cX12_number 4 = .ok (.ifCond .eq 5, 3) := by decide +kernel
theorem dX12_number_7 : decode cX12_number 7 = .ok (.iconst 0, 1) := by decide +kernel
theorem dX12_number_8 : decode cX12_number 8 = .ok (.ireturn, 1) := by decide +kernel
theorem dX12_number_9 : decode cX12_number 9 = .ok (.aload_n 0, 1) := by decide +kernel
theorem dX12_number_10 : decode cX12_number 10 = .ok (.invokevirtual 297, 3) := by decide +kernel
theorem dX12_number_13 : decode cX12_number 13 = .ok (.invokestatic 322, 3) := by decide +kernel
theorem dX12_number_16 : decode cX12_number 16 = .ok (.ifCond .eq 14, 3) := by decide +kernel
theorem dX12_number_19 : decode cX12_number 19 = .ok (.aload_n 0, 1) := by decide +kernel
theorem dX12_number_20 : decode cX12_number 20 = .ok (.getfield 291, 3) := by decide +kernel
theorem dX12_number_23 : decode cX12_number 23 = .ok (.aload_n 0, 1) := by decide +kernel
theorem dX12_number_24 : decode cX12_number 24 = .ok (.getfield 305, 3) := by decide +kernel
theorem dX12_number_27 : decode cX12_number 27 = .ok (.if_icmp .ne 14, 3) := by decide +kernel
theorem dX12_number_30 : decode cX12_number 30 = .ok (.aload_n 0, 1) := by decide +kernel
theorem dX12_number_31 : decode cX12_number 31 = .ok (.iconst 1, 1) := by decide +kernel
theorem dX12_number_32 : decode cX12_number 32 = .ok (.aload_n 0, 1) := by decide +kernel
theorem dX12_number_33 : decode cX12_number 33 = .ok (.getfield 291, 3) := by decide +kernel
theorem dX12_number_36 : decode cX12_number 36 = .ok (.invokevirtual 315, 3) := by decide +kernel
theorem dX12_number_39 : decode cX12_number 39 = .ok (.iconst 0, 1) := by decide +kernel
theorem dX12_number_40 : decode cX12_number 40 = .ok (.ireturn, 1) := by decide +kernel
theorem dX12_number_41 : decode cX12_number 41 = .ok (.aload_n 0, 1) := by decide +kernel
theorem dX12_number_42 : decode cX12_number 42 = .ok (.getfield 291, 3) := by decide +kernel
theorem dX12_number_45 : decode cX12_number 45 = .ok (.istore_n 3, 1) := by decide +kernel
theorem dX12_number_46 : decode cX12_number 46 = .ok (.iconst 0, 1) := by decide +kernel
theorem dX12_number_47 : decode cX12_number 47 = .ok (.istore 4, 2) := by decide +kernel
theorem dX12_number_49 : decode cX12_number 49 = .ok (.aload_n 0, 1) := by decide +kernel
theorem dX12_number_50 : decode cX12_number 50 = .ok (.getfield 291, 3) := by decide +kernel
theorem dX12_number_53 : decode cX12_number 53 = .ok (.aload_n 0, 1) := by decide +kernel
theorem dX12_number_54 : decode cX12_number 54 = .ok (.getfield 294, 3) := by decide +kernel
theorem dX12_number_57 : decode cX12_number 57 = .ok (.if_icmp .ge 72, 3) := by decide +kernel
theorem dX12_number_60 : decode cX12_number 60 = .ok (.aload_n 0, 1) := by decide +kernel
theorem dX12_number_61 : decode cX12_number 61 = .ok (.getfield 7, 3) := by decide +kernel
theorem dX12_number_64 : decode cX12_number 64 = .ok (.aload_n 0, 1) := by decide +kernel
theorem dX12_number_65 : decode cX12_number 65 = .ok (.getfield 291, 3) := by decide +kernel
theorem dX12_number_68 : decode cX12_number 68 = .ok (.iaload, 1) := by decide +kernel
theorem dX12_number_69 : decode cX12_number 69 = .ok (.invokestatic 322, 3) := by decide +kernel
theorem dX12_number_72 : decode cX12_number 72 = .ok (.ifCond .eq 57, 3) := by decide +kernel
theorem dX12_number_75 : decode cX12_number 75 = .ok (.aload_n 0, 1) := by decide +kernel
theorem dX12_number_76 : decode cX12_number 76 = .ok (.getfield 291, 3) := by decide +kernel
theorem dX12_number_79 : decode cX12_number 79 = .ok (.iload_n 3, 1) := by decide +kernel
theorem dX12_number_80 : decode cX12_number 80 = .ok (.isub, 1) := by decide +kernel
theorem dX12_number_81 : decode cX12_number 81 = .ok (.iconst 5, 1) := by decide +kernel
theorem dX12_number_82 : decode cX12_number 82 = .ok (.if_icmp .ne 14, 3) := by decide +kernel
theorem dX12_number_85 : decode cX12_number 85 = .ok (.aload_n 0, 1) := by decide +kernel
theorem dX12_number_86 : decode cX12_number 86 = .ok (.iconst 1, 1) := by decide +kernel
theorem dX12_number_87 : decode cX12_number 87 = .ok (.aload_n 0, 1) := by decide +kernel
theorem dX12_number_88 : decode cX12_number 88 = .ok (.getfield 291, 3) := by decide +kernel
theorem dX12_number_91 : decode cX12_number 91 = .ok (.invokevirtual 315, 3) := by decide +kernel
theorem dX12_number_94 : decode cX12_number 94 = .ok (.iconst 0, 1) := by decide +kernel
theorem dX12_number_95 : decode cX12_number 95 = .ok (.ireturn, 1) := by decide +kernel
theorem dX12_number_96 : decode cX12_number 96 = .ok (.bipush 10, 2) := by decide +kernel
theorem dX12_number_98 : decode cX12_number 98 = .ok (.iload 4, 2) := by decide +kernel
theorem dX12_number_100 : decode cX12_number 100 = .ok (.imul, 1) := by decide +kernel
theorem dX12_number_101 : decode cX12_number 101 = .ok (.aload_n 0, 1) := by decide +kernel
theorem dX12_number_102 : decode cX12_number 102 = .ok (.getfield 7, 3) := by decide +kernel
theorem dX12_number_105 : decode cX12_number 105 = .ok (.aload_n 0, 1) := by decide +kernel
theorem dX12_number_106 : decode cX12_number 106 = .ok (.getfield 291, 3) := by decide +kernel
theorem dX12_number_109 : decode cX12_number 109 = .ok (.iaload, 1) := by decide +kernel
theorem dX12_number_110 : decode cX12_number 110 = .ok (.iadd, 1) := by decide +kernel
theorem dX12_number_111 : decode cX12_number 111 = .ok (.bipush 48, 2) := by decide +kernel
theorem dX12_number_113 : decode cX12_number 113 = .ok (.isub, 1) := by decide +kernel
theorem dX12_number_114 : decode cX12_number 114 = .ok (.istore 4, 2) := by decide +kernel
theorem dX12_number_116 : decode cX12_number 116 = .ok (.aload_n 0, 1) := by decide +kernel
theorem dX12_number_117 : decode cX12_number 117 = .ok (.dup, 1) := by decide +kernel
theorem dX12_number_118 : decode cX12_number 118 = .ok (.getfield 291, 3) := by decide +kernel
theorem dX12_number_121 : decode cX12_number 121 = .ok (.iconst 1, 1) := by decide +kernel
theorem dX12_number_122 : decode cX12_number 122 = .ok (.iadd, 1) := by decide +kernel
theorem dX12_number_123 : decode cX12_number 123 = .ok (.putfield 291, 3) := by decide +kernel
theorem dX12_number_126 : decode cX12_number 126 = .ok (.goto (-77), 3) := by decide +kernel
theorem dX12_number_129 : decode cX12_number 129 = .ok (.aload_n 0, 1) := by decide +kernel
theorem dX12_number_130 : decode cX12_number 130 = .ok (.aload_n 0, 1) := by decide +kernel
theorem dX12_number_131 : decode cX12_number 131 = .ok (.getfield 291, 3) := by decide +kernel
theorem dX12_number_134 : decode cX12_number 134 = .ok (.putfield 305, 3) := by decide +kernel
theorem dX12_number_137 : decode cX12_number 137 = .ok (.iload 4, 2) := by decide +kernel
theorem dX12_number_139 : decode cX12_number 139 = .ok (.i2l, 1) := by decide +kernel
theorem dX12_number_140 : decode cX12_number 140 = .ok (.iload_n 1, 1) := by decide +kernel
theorem dX12_number_141 : decode cX12_number 141 = .ok (.i2l, 1) := by decide +kernel
theorem dX12_number_142 : decode cX12_number 142 = .ok (.iload_n 2, 1) := by decide +kernel
theorem dX12_number_143 : decode cX12_number 143 = .ok (.i2l, 1) := by decide +kernel
theorem dX12_number_144 : decode cX12_number 144 = .ok (.invokestatic 325, 3) := by decide +kernel
theorem dX12_number_147 : decode cX12_number 147 = .ok (.ifCond .ne 9, 3) := by decide +kernel
theorem dX12_number_150 : decode cX12_number 150 = .ok (.aload_n 0, 1) := by decide +kernel
theorem dX12_number_151 : decode cX12_number 151 = .ok (.iconst 2, 1) := by decide +kernel
theorem dX12_number_152 : decode cX12_number 152 = .ok (.iload_n 3, 1) := by decide +kernel
theorem dX12_number_153 : decode cX12_number 153 = .ok (.invokevirtual 315, 3) := by decide +kernel
theorem dX12_number_156 : decode cX12_number 156 = .ok (.iload 4, 2) := by decide +kernel
theorem dX12_number_158 : decode cX12_number 158 = .ok (.ireturn, 1) := by decide +kernel
theorem dX12_code_0 : decode cX12_code 0 = .ok (.aload_n 0, 1) := by decide +kernel
theorem dX12_code_1 : decode cX12_code 1 = .ok (.getfield 100, 3) := by decide +kernel
theorem dX12_code_4 : decode cX12_code 4 = .ok (.iconst 0, 1) := by decide +kernel
theorem dX12_code_5 : decode cX12_code 5 = .ok (.aload_n 0, 1) := by decide +kernel
theorem dX12_code_6 : decode cX12_code 6 = .ok (.getfield 329, 3) := by decide +kernel
theorem dX12_code_9 : decode cX12_code 9 = .ok (.iadd, 1) := by decide +kernel
theorem dX12_code_10 : decode cX12_code 10 = .ok (.iload_n 1, 1) := by decide +kernel
theorem dX12_code_11 : decode cX12_code 11 = .ok (.iastore, 1) := by decide +kernel
theorem dX12_code_12 : decode cX12_code 12 = .ok (.aload_n 0, 1) := by decide +kernel
theorem dX12_code_13 : decode cX12_code 13 = .ok (.dup, 1) := by decide +kernel
theorem dX12_code_14 : decode cX12_code 14 = .ok (.getfield 329, 3) := by decide +kernel
theorem dX12_code_17 : decode cX12_code 17 = .ok (.iconst 1, 1) := by decide +kernel
theorem dX12_code_18 : decode cX12_code 18 = .ok (.iadd, 1) := by decide +kernel
theorem dX12_code_19 : decode cX12_code 19 = .ok (.putfield 329, 3) := by decide +kernel
theorem dX12_code_22 : decode cX12_code 22 = .ok (.return_, 1) := by decide +kernel
theorem dX12_opens_0 : decode cX12_opens 0 = .ok (.aload_n 0, 1) := by decide +kernel
theorem dX12_opens_1 : decode cX12_opens 1 = .ok (.getfield 332, 3) := by decide +kernel
theorem dX12_opens_4 : decode cX12_opens 4 = .ok (.bipush 6, 2) := by decide +kernel
theorem dX12_opens_6 : decode cX12_opens 6 = .ok (.if_icmp .ne 10, 3) := by decide +kernel
theorem dX12_opens_9 : decode cX12_opens 9 = .ok (.aload_n 0, 1) := by decide +kernel
theorem dX12_opens_10 : decode cX12_opens 10 = .ok (.iconst 3, 1) := by decide +kernel
theorem dX12_opens_11 : decode cX12_opens 11 = .ok (.iload_n 2, 1) := by decide +kernel
theorem dX12_opens_12 : decode cX12_opens 12 = .ok (.invokevirtual 315, 3) := by decide +kernel
theorem dX12_opens_15 : decode cX12_opens 15 = .ok (.return_, 1) := by decide +kernel
theorem dX12_opens_16 : decode cX12_opens 16 = .ok (.aload_n 0, 1) := by decide +kernel
theorem dX12_opens_17 : decode cX12_opens 17 = .ok (.dup, 1) := by decide +kernel
theorem dX12_opens_18 : decode cX12_opens 18 = .ok (.getfield 332, 3) := by decide +kernel
theorem dX12_opens_21 : decode cX12_opens 21 = .ok (.iconst 1, 1) := by decide +kernel
theorem dX12_opens_22 : decode cX12_opens 22 = .ok (.iadd, 1) := by decide +kernel
theorem dX12_opens_23 : decode cX12_opens 23 = .ok (.putfield 332, 3) := by decide +kernel
theorem dX12_opens_26 : decode cX12_opens 26 = .ok (.aload_n 0, 1) := by decide +kernel
theorem dX12_opens_27 : decode cX12_opens 27 = .ok (.getfield 103, 3) := by decide +kernel
theorem dX12_opens_30 : decode cX12_opens 30 = .ok (.aload_n 0, 1) := by decide +kernel
theorem dX12_opens_31 : decode cX12_opens 31 = .ok (.getfield 335, 3) := by decide +kernel
theorem dX12_opens_34 : decode cX12_opens 34 = .ok (.iload_n 1, 1) := by decide +kernel
theorem dX12_opens_35 : decode cX12_opens 35 = .ok (.iastore, 1) := by decide +kernel
theorem dX12_opens_36 : decode cX12_opens 36 = .ok (.aload_n 0, 1) := by decide +kernel
theorem dX12_opens_37 : decode cX12_opens 37 = .ok (.dup, 1) := by decide +kernel
theorem dX12_opens_38 : decode cX12_opens 38 = .ok (.getfield 335, 3) := by decide +kernel
theorem dX12_opens_41 : decode cX12_opens 41 = .ok (.iconst 1, 1) := by decide +kernel
theorem dX12_opens_42 : decode cX12_opens 42 = .ok (.iadd, 1) := by decide +kernel
theorem dX12_opens_43 : decode cX12_opens 43 = .ok (.putfield 335, 3) := by decide +kernel
theorem dX12_opens_46 : decode cX12_opens 46 = .ok (.return_, 1) := by decide +kernel
theorem dX12_isOn_0 : decode cX12_isOn 0 = .ok (.aload_n 0, 1) := by decide +kernel
theorem dX12_isOn_1 : decode cX12_isOn 1 = .ok (.getfield 335, 3) := by decide +kernel
theorem dX12_isOn_4 : decode cX12_isOn 4 = .ok (.ifCond .le 22, 3) := by decide +kernel
theorem dX12_isOn_7 : decode cX12_isOn 7 = .ok (.aload_n 0, 1) := by decide +kernel
theorem dX12_isOn_8 : decode cX12_isOn 8 = .ok (.getfield 103, 3) := by decide +kernel
theorem dX12_isOn_11 : decode cX12_isOn 11 = .ok (.aload_n 0, 1) := by decide +kernel
theorem dX12_isOn_12 : decode cX12_isOn 12 = .ok (.getfield 335, 3) := by decide +kernel
theorem dX12_isOn_15 : decode cX12_isOn 15 = .ok (.iconst 1, 1) := by decide +kernel
theorem dX12_isOn_16 : decode cX12_isOn 16 = .ok (.isub, 1) := by decide +kernel
theorem dX12_isOn_17 : decode cX12_isOn 17 = .ok (.iaload, 1) := by decide +kernel
theorem dX12_isOn_18 : decode cX12_isOn 18 = .ok (.iload_n 1, 1) := by decide +kernel
theorem dX12_isOn_19 : decode cX12_isOn 19 = .ok (.if_icmp .ne 7, 3) := by decide +kernel
theorem dX12_isOn_22 : decode cX12_isOn 22 = .ok (.iconst 1, 1) := by decide +kernel
theorem dX12_isOn_23 : decode cX12_isOn 23 = .ok (.goto 4, 3) := by decide +kernel
theorem dX12_isOn_26 : decode cX12_isOn 26 = .ok (.iconst 0, 1) := by decide +kernel
theorem dX12_isOn_27 : decode cX12_isOn 27 = .ok (.ireturn, 1) := by decide +kernel
theorem dX12_drops_0 : decode cX12_drops 0 = .ok (.aload_n 0, 1) := by decide +kernel
theorem dX12_drops_1 : decode cX12_drops 1 = .ok (.dup, 1) := by decide +kernel
theorem dX12_drops_2 : decode cX12_drops 2 = .ok (.getfield 335, 3) := by decide +kernel
theorem dX12_drops_5 : decode cX12_drops 5 = .ok (.iconst 1, 1) := by decide +kernel
theorem dX12_drops_6 : decode cX12_drops 6 = .ok (.isub, 1) := by decide +kernel
theorem dX12_drops_7 : decode cX12_drops 7 = .ok (.putfield 335, 3) := by decide +kernel
theorem dX12_drops_10 : decode cX12_drops 10 = .ok (.aload_n 0, 1) := by decide +kernel
theorem dX12_drops_11 : decode cX12_drops 11 = .ok (.aload_n 0, 1) := by decide +kernel
theorem dX12_drops_12 : decode cX12_drops 12 = .ok (.getfield 103, 3) := by decide +kernel
theorem dX12_drops_15 : decode cX12_drops 15 = .ok (.aload_n 0, 1) := by decide +kernel
theorem dX12_drops_16 : decode cX12_drops 16 = .ok (.getfield 335, 3) := by decide +kernel
theorem dX12_drops_19 : decode cX12_drops 19 = .ok (.iaload, 1) := by decide +kernel
theorem dX12_drops_20 : decode cX12_drops 20 = .ok (.invokevirtual 338, 3) := by decide +kernel
theorem dX12_drops_23 : decode cX12_drops 23 = .ok (.return_, 1) := by decide +kernel
theorem dX12_isMark_0 : decode cX12_isMark 0 = .ok (.iload_n 1, 1) := by decide +kernel
theorem dX12_isMark_1 : decode cX12_isMark 1 = .ok (.bipush 20, 2) := by decide +kernel
theorem dX12_isMark_3 : decode cX12_isMark 3 = .ok (.if_icmp .lt 13, 3) := by decide +kernel
theorem dX12_isMark_6 : decode cX12_isMark 6 = .ok (.iload_n 1, 1) := by decide +kernel
theorem dX12_isMark_7 : decode cX12_isMark 7 = .ok (.bipush 24, 2) := by decide +kernel
theorem dX12_isMark_9 : decode cX12_isMark 9 = .ok (.if_icmp .gt 7, 3) := by decide +kernel
theorem dX12_isMark_12 : decode cX12_isMark 12 = .ok (.iconst 1, 1) := by decide +kernel
theorem dX12_isMark_13 : decode cX12_isMark 13 = .ok (.goto 4, 3) := by decide +kernel
theorem dX12_isMark_16 : decode cX12_isMark 16 = .ok (.iconst 0, 1) := by decide +kernel
theorem dX12_isMark_17 : decode cX12_isMark 17 = .ok (.ireturn, 1) := by decide +kernel
theorem dX12_mark_0 : decode cX12_mark 0 = .ok (.aload_n 0, 1) := by decide +kernel
theorem dX12_mark_1 : decode cX12_mark 1 = .ok (.getfield 335, 3) := by decide +kernel
theorem dX12_mark_4 : decode cX12_mark 4 = .ok (.iconst 1, 1) := by decide +kernel
theorem dX12_mark_5 : decode cX12_mark 5 = .ok (.isub, 1) := by decide +kernel
theorem dX12_mark_6 : decode cX12_mark 6 = .ok (.istore_n 1, 1) := by decide +kernel
theorem dX12_mark_7 : decode cX12_mark 7 = .ok (.iload_n 1, 1) := by decide +kernel
theorem dX12_mark_8 : decode cX12_mark 8 = .ok (.aload_n 0, 1) := by decide +kernel
theorem dX12_mark_9 : decode cX12_mark 9 = .ok (.getfield 342, 3) := by decide +kernel
theorem dX12_mark_12 : decode cX12_mark 12 = .ok (.if_icmp .lt 22, 3) := by decide +kernel
theorem dX12_mark_15 : decode cX12_mark 15 = .ok (.aload_n 0, 1) := by decide +kernel
theorem dX12_mark_16 : decode cX12_mark 16 = .ok (.aload_n 0, 1) := by decide +kernel
theorem dX12_mark_17 : decode cX12_mark 17 = .ok (.getfield 103, 3) := by decide +kernel
theorem dX12_mark_20 : decode cX12_mark 20 = .ok (.iload_n 1, 1) := by decide +kernel
theorem dX12_mark_21 : decode cX12_mark 21 = .ok (.iaload, 1) := by decide +kernel
theorem dX12_mark_22 : decode cX12_mark 22 = .ok (.invokevirtual 345, 3) := by decide +kernel
theorem dX12_mark_25 : decode cX12_mark 25 = .ok (.ifCond .ne 9, 3) := by decide +kernel
theorem dX12_mark_28 : decode cX12_mark 28 = .ok (.iinc 1 (-1), 3) := by decide +kernel
theorem dX12_mark_31 : decode cX12_mark 31 = .ok (.goto (-24), 3) := by decide +kernel
theorem dX12_mark_34 : decode cX12_mark 34 = .ok (.iload_n 1, 1) := by decide +kernel
theorem dX12_mark_35 : decode cX12_mark 35 = .ok (.aload_n 0, 1) := by decide +kernel
theorem dX12_mark_36 : decode cX12_mark 36 = .ok (.getfield 342, 3) := by decide +kernel
theorem dX12_mark_39 : decode cX12_mark 39 = .ok (.if_icmp .lt 12, 3) := by decide +kernel
theorem dX12_mark_42 : decode cX12_mark 42 = .ok (.aload_n 0, 1) := by decide +kernel
theorem dX12_mark_43 : decode cX12_mark 43 = .ok (.getfield 103, 3) := by decide +kernel
theorem dX12_mark_46 : decode cX12_mark 46 = .ok (.iload_n 1, 1) := by decide +kernel
theorem dX12_mark_47 : decode cX12_mark 47 = .ok (.iaload, 1) := by decide +kernel
theorem dX12_mark_48 : decode cX12_mark 48 = .ok (.goto 4, 3) := by decide +kernel
theorem dX12_mark_51 : decode cX12_mark 51 = .ok (.iconst (-1), 1) := by decide +kernel
theorem dX12_mark_52 : decode cX12_mark 52 = .ok (.ireturn, 1) := by decide +kernel
theorem dX12_dropsToMark_0 : decode cX12_dropsToMark 0 = .ok (.aload_n 0, 1) := by decide +kernel
theorem dX12_dropsToMark_1 : decode cX12_dropsToMark 1 = .ok (.getfield 335, 3) := by decide +kernel
theorem dX12_dropsToMark_4 : decode cX12_dropsToMark 4 = .ok (.aload_n 0, 1) := by decide +kernel
theorem dX12_dropsToMark_5 : decode cX12_dropsToMark 5 = .ok (.getfield 342, 3) := by decide +kernel
theorem dX12_dropsToMark_8 : decode cX12_dropsToMark 8 = .ok (.if_icmp .le 28, 3) := by decide +kernel
theorem dX12_dropsToMark_11 : decode cX12_dropsToMark 11 = .ok (.aload_n 0, 1) := by decide +kernel
theorem dX12_dropsToMark_12 : decode cX12_dropsToMark 12 = .ok (.aload_n 0, 1) := by decide +kernel
theorem dX12_dropsToMark_13 : decode cX12_dropsToMark 13 = .ok (.getfield 103, 3) := by decide +kernel
theorem dX12_dropsToMark_16 : decode cX12_dropsToMark 16 = .ok (.aload_n 0, 1) := by decide +kernel
theorem dX12_dropsToMark_17 : decode cX12_dropsToMark 17 = .ok (.getfield 335, 3) := by decide +kernel
theorem dX12_dropsToMark_20 : decode cX12_dropsToMark 20 = .ok (.iconst 1, 1) := by decide +kernel
theorem dX12_dropsToMark_21 : decode cX12_dropsToMark 21 = .ok (.isub, 1) := by decide +kernel
theorem dX12_dropsToMark_22 : decode cX12_dropsToMark 22 = .ok (.iaload, 1) := by decide +kernel
theorem dX12_dropsToMark_23 : decode cX12_dropsToMark 23 = .ok (.invokevirtual 345, 3) := by decide +kernel
theorem dX12_dropsToMark_26 : decode cX12_dropsToMark 26 = .ok (.ifCond .ne 10, 3) := by decide +kernel
theorem dX12_dropsToMark_29 : decode cX12_dropsToMark 29 = .ok (.aload_n 0, 1) := by decide +kernel
theorem dX12_dropsToMark_30 : decode cX12_dropsToMark 30 = .ok (.invokevirtual 348, 3) := by decide +kernel
theorem dX12_dropsToMark_33 : decode cX12_dropsToMark 33 = .ok (.goto (-33), 3) := by decide +kernel
theorem dX12_dropsToMark_36 : decode cX12_dropsToMark 36 = .ok (.return_, 1) := by decide +kernel
theorem dX12_onePart_0 : decode cX12_onePart 0 = .ok (.iconst 1, 1) := by decide +kernel
theorem dX12_onePart_1 : decode cX12_onePart 1 = .ok (.istore_n 1, 1) := by decide +kernel
theorem dX12_onePart_2 : decode cX12_onePart 2 = .ok (.iload_n 1, 1) := by decide +kernel
theorem dX12_onePart_3 : decode cX12_onePart 3 = .ok (.ifCond .eq 143, 3) := by decide +kernel
theorem dX12_onePart_6 : decode cX12_onePart 6 = .ok (.aload_n 0, 1) := by decide +kernel
theorem dX12_onePart_7 : decode cX12_onePart 7 = .ok (.getfield 285, 3) := by decide +kernel
theorem dX12_onePart_10 : decode cX12_onePart 10 = .ok (.ifCond .ne 136, 3) := by decide +kernel
theorem dX12_onePart_13 : decode cX12_onePart 13 = .ok (.aload_n 0, 1) := by decide +kernel
theorem dX12_onePart_14 : decode cX12_onePart 14 = .ok (.invokevirtual 297, 3) := by decide +kernel
theorem dX12_onePart_17 : decode cX12_onePart 17 = .ok (.istore_n 2, 1) := by decide +kernel
theorem dX12_onePart_18 : decode cX12_onePart 18 = .ok (.iload_n 2, 1) := by decide +kernel
theorem dX12_onePart_19 : decode cX12_onePart 19 = .ok (.bipush 40, 2) := by decide +kernel
theorem dX12_onePart_21 : decode cX12_onePart 21 = .ok (.if_icmp .ne 26, 3) := by decide +kernel
theorem dX12_onePart_24 : decode cX12_onePart 24 = .ok (.aload_n 0, 1) := by decide +kernel
theorem dX12_onePart_25 : decode cX12_onePart 25 = .ok (.bipush 20, 2) := by decide +kernel
theorem dX12_onePart_27 : decode cX12_onePart 27 = .ok (.aload_n 0, 1) := by decide +kernel
theorem dX12_onePart_28 : decode cX12_onePart 28 = .ok (.getfield 291, 3) := by decide +kernel
theorem dX12_onePart_31 : decode cX12_onePart 31 = .ok (.invokevirtual 351, 3) := by decide +kernel
theorem dX12_onePart_34 : decode cX12_onePart 34 = .ok (.aload_n 0, 1) := by decide +kernel
theorem dX12_onePart_35 : decode cX12_onePart 35 = .ok (.dup, 1) := by decide +kernel
theorem dX12_onePart_36 : decode cX12_onePart 36 = .ok (.getfield 291, 3) := by decide +kernel
theorem dX12_onePart_39 : decode cX12_onePart 39 = .ok (.iconst 1, 1) := by decide +kernel
theorem dX12_onePart_40 : decode cX12_onePart 40 = .ok (.iadd, 1) := by decide +kernel
theorem dX12_onePart_41 : decode cX12_onePart 41 = .ok (.putfield 291, 3) := by decide +kernel
theorem dX12_onePart_44 : decode cX12_onePart 44 = .ok (.goto 99, 3) := by decide +kernel
theorem dX12_onePart_47 : decode cX12_onePart 47 = .ok (.aload_n 0, 1) := by decide +kernel
theorem dX12_onePart_48 : decode cX12_onePart 48 = .ok (.aload_n 0, 1) := by decide +kernel
theorem dX12_onePart_49 : decode cX12_onePart 49 = .ok (.getfield 81, 3) := by decide +kernel
theorem dX12_onePart_52 : decode cX12_onePart 52 = .ok (.invokevirtual 308, 3) := by decide +kernel
theorem dX12_onePart_55 : decode cX12_onePart 55 = .ok (.ifCond .ne 14, 3) := by decide +kernel
theorem dX12_onePart_58 : decode cX12_onePart 58 = .ok (.aload_n 0, 1) := by decide +kernel
theorem dX12_onePart_59 : decode cX12_onePart 59 = .ok (.aload_n 0, 1) := by decide +kernel
theorem dX12_onePart_60 : decode cX12_onePart 60 = .ok (.getfield 84, 3) := by decide +kernel
theorem dX12_onePart_63 : decode cX12_onePart 63 = .ok (.invokevirtual 308, 3) := by decide +kernel
theorem dX12_onePart_66 : decode cX12_onePart 66 = .ok (.ifCond .eq 75, 3) := by decide +kernel
theorem dX12_onePart_69 : decode cX12_onePart 69 = .ok (.aload_n 0, 1) := by decide +kernel
theorem dX12_onePart_70 : decode cX12_onePart 70 = .ok (.aload_n 0, 1) := by decide +kernel
theorem dX12_onePart_71 : decode cX12_onePart 71 = .ok (.getfield 81, 3) := by decide +kernel
theorem dX12_onePart_74 : decode cX12_onePart 74 = .ok (.invokevirtual 312, 3) := by decide +kernel
theorem dX12_onePart_77 : decode cX12_onePart 77 = .ok (.istore_n 3, 1) := by decide +kernel
theorem dX12_onePart_78 : decode cX12_onePart 78 = .ok (.iload_n 3, 1) := by decide +kernel
theorem dX12_onePart_79 : decode cX12_onePart 79 = .ok (.ifCond .ne 11, 3) := by decide +kernel
theorem dX12_onePart_82 : decode cX12_onePart 82 = .ok (.aload_n 0, 1) := by decide +kernel
theorem dX12_onePart_83 : decode cX12_onePart 83 = .ok (.aload_n 0, 1) := by decide +kernel
theorem dX12_onePart_84 : decode cX12_onePart 84 = .ok (.getfield 84, 3) := by decide +kernel
theorem dX12_onePart_87 : decode cX12_onePart 87 = .ok (.invokevirtual 354, 3) := by decide +kernel
theorem dX12_onePart_90 : decode cX12_onePart 90 = .ok (.aload_n 0, 1) := by decide +kernel
theorem dX12_onePart_91 : decode cX12_onePart 91 = .ok (.invokevirtual 297, 3) := by decide +kernel
theorem dX12_onePart_94 : decode cX12_onePart 94 = .ok (.bipush 40, 2) := by decide +kernel
theorem dX12_onePart_96 : decode cX12_onePart 96 = .ok (.if_icmp .ne 10, 3) := by decide +kernel
theorem dX12_onePart_99 : decode cX12_onePart 99 = .ok (.aload_n 0, 1) := by decide +kernel
theorem dX12_onePart_100 : decode cX12_onePart 100 = .ok (.getfield 291, 3) := by decide +kernel
theorem dX12_onePart_103 : decode cX12_onePart 103 = .ok (.goto 4, 3) := by decide +kernel
theorem dX12_onePart_106 : decode cX12_onePart 106 = .ok (.iconst (-1), 1) := by decide +kernel
theorem dX12_onePart_107 : decode cX12_onePart 107 = .ok (.istore 4, 2) := by decide +kernel
theorem dX12_onePart_109 : decode cX12_onePart 109 = .ok (.iload 4, 2) := by decide +kernel
theorem dX12_onePart_111 : decode cX12_onePart 111 = .ok (.iconst (-1), 1) := by decide +kernel
theorem dX12_onePart_112 : decode cX12_onePart 112 = .ok (.if_icmp .eq 20, 3) := by decide +kernel
theorem dX12_onePart_115 : decode cX12_onePart 115 = .ok (.aload_n 0, 1) := by decide +kernel
theorem dX12_onePart_116 : decode cX12_onePart 116 = .ok (.iload_n 3, 1) := by decide +kernel
theorem dX12_onePart_117 : decode cX12_onePart 117 = .ok (.ifCond .eq 8, 3) := by decide +kernel
theorem dX12_onePart_120 : decode cX12_onePart 120 = .ok (.bipush 21, 2) := by decide +kernel
theorem dX12_onePart_122 : decode cX12_onePart 122 = .ok (.goto 5, 3) := by decide +kernel
theorem dX12_onePart_125 : decode cX12_onePart 125 = .ok (.bipush 22, 2) := by decide +kernel
theorem dX12_onePart_127 : decode cX12_onePart 127 = .ok (.iload 4, 2) := by decide +kernel
theorem dX12_onePart_129 : decode cX12_onePart 129 = .ok (.invokevirtual 351, 3) := by decide +kernel
theorem dX12_onePart_132 : decode cX12_onePart 132 = .ok (.aload_n 0, 1) := by decide +kernel
theorem dX12_onePart_133 : decode cX12_onePart 133 = .ok (.bipush 40, 2) := by decide +kernel
theorem dX12_onePart_135 : decode cX12_onePart 135 = .ok (.invokevirtual 358, 3) := by decide +kernel
theorem dX12_onePart_138 : decode cX12_onePart 138 = .ok (.goto 5, 3) := by decide +kernel
theorem dX12_onePart_141 : decode cX12_onePart 141 = .ok (.iconst 0, 1) := by decide +kernel
theorem dX12_onePart_142 : decode cX12_onePart 142 = .ok (.istore_n 1, 1) := by decide +kernel
theorem dX12_onePart_143 : decode cX12_onePart 143 = .ok (.goto (-141), 3) := by decide +kernel
theorem dX12_onePart_146 : decode cX12_onePart 146 = .ok (.aload_n 0, 1) := by decide +kernel
theorem dX12_onePart_147 : decode cX12_onePart 147 = .ok (.getfield 285, 3) := by decide +kernel
theorem dX12_onePart_150 : decode cX12_onePart 150 = .ok (.ifCond .eq 4, 3) := by decide +kernel
theorem dX12_onePart_153 : decode cX12_onePart 153 = .ok (.return_, 1) := by decide +kernel
theorem dX12_onePart_154 : decode cX12_onePart 154 = .ok (.aload_n 0, 1) := by decide +kernel
theorem dX12_onePart_155 : decode cX12_onePart 155 = .ok (.aload_n 0, 1) := by decide +kernel
theorem dX12_onePart_156 : decode cX12_onePart 156 = .ok (.getfield 60, 3) := by decide +kernel
theorem dX12_onePart_159 : decode cX12_onePart 159 = .ok (.invokevirtual 312, 3) := by decide +kernel
theorem dX12_onePart_162 : decode cX12_onePart 162 = .ok (.ifCond .eq 12, 3) := by decide +kernel
theorem dX12_onePart_165 : decode cX12_onePart 165 = .ok (.aload_n 0, 1) := by decide +kernel
theorem dX12_onePart_166 : decode cX12_onePart 166 = .ok (.bipush 7, 2) := by decide +kernel
theorem dX12_onePart_168 : decode cX12_onePart 168 = .ok (.invokevirtual 338, 3) := by decide +kernel
theorem dX12_onePart_171 : decode cX12_onePart 171 = .ok (.goto 127, 3) := by decide +kernel
theorem dX12_onePart_174 : decode cX12_onePart 174 = .ok (.aload_n 0, 1) := by decide +kernel
theorem dX12_onePart_175 : decode cX12_onePart 175 = .ok (.aload_n 0, 1) := by decide +kernel
theorem dX12_onePart_176 : decode cX12_onePart 176 = .ok (.getfield 63, 3) := by decide +kernel
theorem dX12_onePart_179 : decode cX12_onePart 179 = .ok (.invokevirtual 312, 3) := by decide +kernel
theorem dX12_onePart_182 : decode cX12_onePart 182 = .ok (.ifCond .eq 12, 3) := by decide +kernel
theorem dX12_onePart_185 : decode cX12_onePart 185 = .ok (.aload_n 0, 1) := by decide +kernel
theorem dX12_onePart_186 : decode cX12_onePart 186 = .ok (.bipush 8, 2) := by decide +kernel
theorem dX12_onePart_188 : decode cX12_onePart 188 = .ok (.invokevirtual 338, 3) := by decide +kernel
theorem dX12_onePart_191 : decode cX12_onePart 191 = .ok (.goto 107, 3) := by decide +kernel
theorem dX12_onePart_194 : decode cX12_onePart 194 = .ok (.aload_n 0, 1) := by decide +kernel
theorem dX12_onePart_195 : decode cX12_onePart 195 = .ok (.aload_n 0, 1) := by decide +kernel
theorem dX12_onePart_196 : decode cX12_onePart 196 = .ok (.getfield 66, 3) := by decide +kernel
theorem dX12_onePart_199 : decode cX12_onePart 199 = .ok (.invokevirtual 312, 3) := by decide +kernel
theorem dX12_onePart_202 : decode cX12_onePart 202 = .ok (.ifCond .eq 12, 3) := by decide +kernel
theorem dX12_onePart_205 : decode cX12_onePart 205 = .ok (.aload_n 0, 1) := by decide +kernel
theorem dX12_onePart_206 : decode cX12_onePart 206 = .ok (.bipush 9, 2) := by decide +kernel
theorem dX12_onePart_208 : decode cX12_onePart 208 = .ok (.invokevirtual 338, 3) := by decide +kernel
theorem dX12_onePart_211 : decode cX12_onePart 211 = .ok (.goto 87, 3) := by decide +kernel
theorem dX12_onePart_214 : decode cX12_onePart 214 = .ok (.aload_n 0, 1) := by decide +kernel
theorem dX12_onePart_215 : decode cX12_onePart 215 = .ok (.aload_n 0, 1) := by decide +kernel
theorem dX12_onePart_216 : decode cX12_onePart 216 = .ok (.getfield 69, 3) := by decide +kernel
theorem dX12_onePart_219 : decode cX12_onePart 219 = .ok (.invokevirtual 312, 3) := by decide +kernel
theorem dX12_onePart_222 : decode cX12_onePart 222 = .ok (.ifCond .eq 12, 3) := by decide +kernel
theorem dX12_onePart_225 : decode cX12_onePart 225 = .ok (.aload_n 0, 1) := by decide +kernel
theorem dX12_onePart_226 : decode cX12_onePart 226 = .ok (.bipush 10, 2) := by decide +kernel
theorem dX12_onePart_228 : decode cX12_onePart 228 = .ok (.invokevirtual 338, 3) := by decide +kernel
theorem dX12_onePart_231 : decode cX12_onePart 231 = .ok (.goto 67, 3) := by decide +kernel
theorem dX12_onePart_234 : decode cX12_onePart 234 = .ok (.aload_n 0, 1) := by decide +kernel
theorem dX12_onePart_235 : decode cX12_onePart 235 = .ok (.aload_n 0, 1) := by decide +kernel
theorem dX12_onePart_236 : decode cX12_onePart 236 = .ok (.getfield 72, 3) := by decide +kernel
theorem dX12_onePart_239 : decode cX12_onePart 239 = .ok (.invokevirtual 312, 3) := by decide +kernel
theorem dX12_onePart_242 : decode cX12_onePart 242 = .ok (.ifCond .eq 12, 3) := by decide +kernel
theorem dX12_onePart_245 : decode cX12_onePart 245 = .ok (.aload_n 0, 1) := by decide +kernel
theorem dX12_onePart_246 : decode cX12_onePart 246 = .ok (.bipush 18, 2) := by decide +kernel
theorem dX12_onePart_248 : decode cX12_onePart 248 = .ok (.invokevirtual 338, 3) := by decide +kernel
theorem dX12_onePart_251 : decode cX12_onePart 251 = .ok (.goto 47, 3) := by decide +kernel
theorem dX12_onePart_254 : decode cX12_onePart 254 = .ok (.aload_n 0, 1) := by decide +kernel
theorem dX12_onePart_255 : decode cX12_onePart 255 = .ok (.aload_n 0, 1) := by decide +kernel
theorem dX12_onePart_256 : decode cX12_onePart 256 = .ok (.getfield 75, 3) := by decide +kernel
theorem dX12_onePart_259 : decode cX12_onePart 259 = .ok (.invokevirtual 312, 3) := by decide +kernel
theorem dX12_onePart_262 : decode cX12_onePart 262 = .ok (.ifCond .eq 12, 3) := by decide +kernel
theorem dX12_onePart_265 : decode cX12_onePart 265 = .ok (.aload_n 0, 1) := by decide +kernel
theorem dX12_onePart_266 : decode cX12_onePart 266 = .ok (.bipush 19, 2) := by decide +kernel
theorem dX12_onePart_268 : decode cX12_onePart 268 = .ok (.invokevirtual 338, 3) := by decide +kernel
theorem dX12_onePart_271 : decode cX12_onePart 271 = .ok (.goto 27, 3) := by decide +kernel
theorem dX12_onePart_274 : decode cX12_onePart 274 = .ok (.aload_n 0, 1) := by decide +kernel
theorem dX12_onePart_275 : decode cX12_onePart 275 = .ok (.aload_n 0, 1) := by decide +kernel
theorem dX12_onePart_276 : decode cX12_onePart 276 = .ok (.getfield 78, 3) := by decide +kernel
theorem dX12_onePart_279 : decode cX12_onePart 279 = .ok (.invokevirtual 312, 3) := by decide +kernel
theorem dX12_onePart_282 : decode cX12_onePart 282 = .ok (.ifCond .eq 12, 3) := by decide +kernel
theorem dX12_onePart_285 : decode cX12_onePart 285 = .ok (.aload_n 0, 1) := by decide +kernel
theorem dX12_onePart_286 : decode cX12_onePart 286 = .ok (.bipush 30, 2) := by decide +kernel
theorem dX12_onePart_288 : decode cX12_onePart 288 = .ok (.invokevirtual 338, 3) := by decide +kernel
theorem dX12_onePart_291 : decode cX12_onePart 291 = .ok (.goto 7, 3) := by decide +kernel
theorem dX12_onePart_294 : decode cX12_onePart 294 = .ok (.aload_n 0, 1) := by decide +kernel
theorem dX12_onePart_295 : decode cX12_onePart 295 = .ok (.invokevirtual 361, 3) := by decide +kernel
theorem dX12_onePart_298 : decode cX12_onePart 298 = .ok (.return_, 1) := by decide +kernel
theorem dX12_numberPart_0 : decode cX12_numberPart 0 = .ok (.aload_n 0, 1) := by decide +kernel
theorem dX12_numberPart_1 : decode cX12_numberPart 1 = .ok (.iconst 0, 1) := by decide +kernel
theorem dX12_numberPart_2 : decode cX12_numberPart 2 = .ok (.ldc_w 364, 3) := by decide +kernel
theorem dX12_numberPart_5 : decode cX12_numberPart 5 = .ok (.invokevirtual 365, 3) := by decide +kernel
theorem dX12_numberPart_8 : decode cX12_numberPart 8 = .ok (.istore_n 1, 1) := by decide +kernel
theorem dX12_numberPart_9 : decode cX12_numberPart 9 = .ok (.aload_n 0, 1) := by decide +kernel
theorem dX12_numberPart_10 : decode cX12_numberPart 10 = .ok (.getfield 285, 3) := by decide +kernel
theorem dX12_numberPart_13 : decode cX12_numberPart 13 = .ok (.ifCond .ne 12, 3) := by decide +kernel
theorem dX12_numberPart_16 : decode cX12_numberPart 16 = .ok (.aload_n 0, 1) := by decide +kernel
theorem dX12_numberPart_17 : decode cX12_numberPart 17 = .ok (.sipush 1000, 3) := by decide +kernel
theorem dX12_numberPart_20 : decode cX12_numberPart 20 = .ok (.iload_n 1, 1) := by decide +kernel
theorem dX12_numberPart_21 : decode cX12_numberPart 21 = .ok (.iadd, 1) := by decide +kernel
theorem dX12_numberPart_22 : decode cX12_numberPart 22 = .ok (.invokevirtual 338, 3) := by decide +kernel
theorem dX12_numberPart_25 : decode cX12_numberPart 25 = .ok (.return_, 1) := by decide +kernel
theorem dX12_goesOn_0 : decode cX12_goesOn 0 = .ok (.aload_n 0, 1) := by decide +kernel
theorem dX12_goesOn_1 : decode cX12_goesOn 1 = .ok (.getfield 285, 3) := by decide +kernel
theorem dX12_goesOn_4 : decode cX12_goesOn 4 = .ok (.ifCond .ne 114, 3) := by decide +kernel
theorem dX12_goesOn_7 : decode cX12_goesOn 7 = .ok (.aload_n 0, 1) := by decide +kernel
theorem dX12_goesOn_8 : decode cX12_goesOn 8 = .ok (.invokevirtual 297, 3) := by decide +kernel
theorem dX12_goesOn_11 : decode cX12_goesOn 11 = .ok (.bipush 41, 2) := by decide +kernel
theorem dX12_goesOn_13 : decode cX12_goesOn 13 = .ok (.if_icmp .ne 105, 3) := by decide +kernel
theorem dX12_goesOn_16 : decode cX12_goesOn 16 = .ok (.aload_n 0, 1) := by decide +kernel
theorem dX12_goesOn_17 : decode cX12_goesOn 17 = .ok (.invokevirtual 369, 3) := by decide +kernel
theorem dX12_goesOn_20 : decode cX12_goesOn 20 = .ok (.bipush 20, 2) := by decide +kernel
theorem dX12_goesOn_22 : decode cX12_goesOn 22 = .ok (.if_icmp .eq 21, 3) := by decide +kernel
theorem dX12_goesOn_25 : decode cX12_goesOn 25 = .ok (.aload_n 0, 1) := by decide +kernel
theorem dX12_goesOn_26 : decode cX12_goesOn 26 = .ok (.invokevirtual 369, 3) := by decide +kernel
theorem dX12_goesOn_29 : decode cX12_goesOn 29 = .ok (.bipush 23, 2) := by decide +kernel
theorem dX12_goesOn_31 : decode cX12_goesOn 31 = .ok (.if_icmp .eq 12, 3) := by decide +kernel
theorem dX12_goesOn_34 : decode cX12_goesOn 34 = .ok (.aload_n 0, 1) := by decide +kernel
theorem dX12_goesOn_35 : decode cX12_goesOn 35 = .ok (.invokevirtual 369, 3) := by decide +kernel
theorem dX12_goesOn_38 : decode cX12_goesOn 38 = .ok (.bipush 24, 2) := by decide +kernel
theorem dX12_goesOn_40 : decode cX12_goesOn 40 = .ok (.if_icmp .ne 78, 3) := by decide +kernel
theorem dX12_goesOn_43 : decode cX12_goesOn 43 = .ok (.aload_n 0, 1) := by decide +kernel
theorem dX12_goesOn_44 : decode cX12_goesOn 44 = .ok (.dup, 1) := by decide +kernel
theorem dX12_goesOn_45 : decode cX12_goesOn 45 = .ok (.getfield 291, 3) := by decide +kernel
theorem dX12_goesOn_48 : decode cX12_goesOn 48 = .ok (.iconst 1, 1) := by decide +kernel
theorem dX12_goesOn_49 : decode cX12_goesOn 49 = .ok (.iadd, 1) := by decide +kernel
theorem dX12_goesOn_50 : decode cX12_goesOn 50 = .ok (.putfield 291, 3) := by decide +kernel
theorem dX12_goesOn_53 : decode cX12_goesOn 53 = .ok (.aload_n 0, 1) := by decide +kernel
theorem dX12_goesOn_54 : decode cX12_goesOn 54 = .ok (.invokevirtual 372, 3) := by decide +kernel
theorem dX12_goesOn_57 : decode cX12_goesOn 57 = .ok (.aload_n 0, 1) := by decide +kernel
theorem dX12_goesOn_58 : decode cX12_goesOn 58 = .ok (.dup, 1) := by decide +kernel
theorem dX12_goesOn_59 : decode cX12_goesOn 59 = .ok (.getfield 335, 3) := by decide +kernel
theorem dX12_goesOn_62 : decode cX12_goesOn 62 = .ok (.iconst 1, 1) := by decide +kernel
theorem dX12_goesOn_63 : decode cX12_goesOn 63 = .ok (.isub, 1) := by decide +kernel
theorem dX12_goesOn_64 : decode cX12_goesOn 64 = .ok (.putfield 335, 3) := by decide +kernel
theorem dX12_goesOn_67 : decode cX12_goesOn 67 = .ok (.aload_n 0, 1) := by decide +kernel
theorem dX12_goesOn_68 : decode cX12_goesOn 68 = .ok (.dup, 1) := by decide +kernel
theorem dX12_goesOn_69 : decode cX12_goesOn 69 = .ok (.getfield 332, 3) := by decide +kernel
theorem dX12_goesOn_72 : decode cX12_goesOn 72 = .ok (.iconst 1, 1) := by decide +kernel
theorem dX12_goesOn_73 : decode cX12_goesOn 73 = .ok (.isub, 1) := by decide +kernel
theorem dX12_goesOn_74 : decode cX12_goesOn 74 = .ok (.putfield 332, 3) := by decide +kernel
theorem dX12_goesOn_77 : decode cX12_goesOn 77 = .ok (.aload_n 0, 1) := by decide +kernel
theorem dX12_goesOn_78 : decode cX12_goesOn 78 = .ok (.getfield 103, 3) := by decide +kernel
theorem dX12_goesOn_81 : decode cX12_goesOn 81 = .ok (.aload_n 0, 1) := by decide +kernel
theorem dX12_goesOn_82 : decode cX12_goesOn 82 = .ok (.getfield 335, 3) := by decide +kernel
theorem dX12_goesOn_85 : decode cX12_goesOn 85 = .ok (.iaload, 1) := by decide +kernel
theorem dX12_goesOn_86 : decode cX12_goesOn 86 = .ok (.bipush 20, 2) := by decide +kernel
theorem dX12_goesOn_88 : decode cX12_goesOn 88 = .ok (.if_icmp .eq (-88), 3) := by decide +kernel
theorem dX12_goesOn_91 : decode cX12_goesOn 91 = .ok (.aload_n 0, 1) := by decide +kernel
theorem dX12_goesOn_92 : decode cX12_goesOn 92 = .ok (.aload_n 0, 1) := by decide +kernel
theorem dX12_goesOn_93 : decode cX12_goesOn 93 = .ok (.getfield 103, 3) := by decide +kernel
theorem dX12_goesOn_96 : decode cX12_goesOn 96 = .ok (.aload_n 0, 1) := by decide +kernel
theorem dX12_goesOn_97 : decode cX12_goesOn 97 = .ok (.getfield 335, 3) := by decide +kernel
theorem dX12_goesOn_100 : decode cX12_goesOn 100 = .ok (.iaload, 1) := by decide +kernel
theorem dX12_goesOn_101 : decode cX12_goesOn 101 = .ok (.bipush 23, 2) := by decide +kernel
theorem dX12_goesOn_103 : decode cX12_goesOn 103 = .ok (.if_icmp .ne 7, 3) := by decide +kernel
theorem dX12_goesOn_106 : decode cX12_goesOn 106 = .ok (.iconst 5, 1) := by decide +kernel
theorem dX12_goesOn_107 : decode cX12_goesOn 107 = .ok (.goto 5, 3) := by decide +kernel
theorem dX12_goesOn_110 : decode cX12_goesOn 110 = .ok (.bipush 6, 2) := by decide +kernel
theorem dX12_goesOn_112 : decode cX12_goesOn 112 = .ok (.invokevirtual 338, 3) := by decide +kernel
theorem dX12_goesOn_115 : decode cX12_goesOn 115 = .ok (.goto (-115), 3) := by decide +kernel
theorem dX12_goesOn_118 : decode cX12_goesOn 118 = .ok (.aload_n 0, 1) := by decide +kernel
theorem dX12_goesOn_119 : decode cX12_goesOn 119 = .ok (.bipush 42, 2) := by decide +kernel
theorem dX12_goesOn_121 : decode cX12_goesOn 121 = .ok (.invokevirtual 319, 3) := by decide +kernel
theorem dX12_goesOn_124 : decode cX12_goesOn 124 = .ok (.ifCond .ne 12, 3) := by decide +kernel
theorem dX12_goesOn_127 : decode cX12_goesOn 127 = .ok (.aload_n 0, 1) := by decide +kernel
theorem dX12_goesOn_128 : decode cX12_goesOn 128 = .ok (.bipush 47, 2) := by decide +kernel
theorem dX12_goesOn_130 : decode cX12_goesOn 130 = .ok (.invokevirtual 319, 3) := by decide +kernel
theorem dX12_goesOn_133 : decode cX12_goesOn 133 = .ok (.ifCond .eq 70, 3) := by decide +kernel
theorem dX12_goesOn_136 : decode cX12_goesOn 136 = .ok (.aload_n 0, 1) := by decide +kernel
theorem dX12_goesOn_137 : decode cX12_goesOn 137 = .ok (.getfield 7, 3) := by decide +kernel
theorem dX12_goesOn_140 : decode cX12_goesOn 140 = .ok (.aload_n 0, 1) := by decide +kernel
theorem dX12_goesOn_141 : decode cX12_goesOn 141 = .ok (.getfield 291, 3) := by decide +kernel
theorem dX12_goesOn_144 : decode cX12_goesOn 144 = .ok (.iconst 1, 1) := by decide +kernel
theorem dX12_goesOn_145 : decode cX12_goesOn 145 = .ok (.isub, 1) := by decide +kernel
theorem dX12_goesOn_146 : decode cX12_goesOn 146 = .ok (.iaload, 1) := by decide +kernel
theorem dX12_goesOn_147 : decode cX12_goesOn 147 = .ok (.bipush 42, 2) := by decide +kernel
theorem dX12_goesOn_149 : decode cX12_goesOn 149 = .ok (.if_icmp .ne 7, 3) := by decide +kernel
theorem dX12_goesOn_152 : decode cX12_goesOn 152 = .ok (.iconst 3, 1) := by decide +kernel
theorem dX12_goesOn_153 : decode cX12_goesOn 153 = .ok (.goto 4, 3) := by decide +kernel
theorem dX12_goesOn_156 : decode cX12_goesOn 156 = .ok (.iconst 4, 1) := by decide +kernel
theorem dX12_goesOn_157 : decode cX12_goesOn 157 = .ok (.istore_n 1, 1) := by decide +kernel
theorem dX12_goesOn_158 : decode cX12_goesOn 158 = .ok (.aload_n 0, 1) := by decide +kernel
theorem dX12_goesOn_159 : decode cX12_goesOn 159 = .ok (.iconst 3, 1) := by decide +kernel
theorem dX12_goesOn_160 : decode cX12_goesOn 160 = .ok (.invokevirtual 375, 3) := by decide +kernel
theorem dX12_goesOn_163 : decode cX12_goesOn 163 = .ok (.ifCond .ne 11, 3) := by decide +kernel
theorem dX12_goesOn_166 : decode cX12_goesOn 166 = .ok (.aload_n 0, 1) := by decide +kernel
theorem dX12_goesOn_167 : decode cX12_goesOn 167 = .ok (.iconst 4, 1) := by decide +kernel
theorem dX12_goesOn_168 : decode cX12_goesOn 168 = .ok (.invokevirtual 375, 3) := by decide +kernel
theorem dX12_goesOn_171 : decode cX12_goesOn 171 = .ok (.ifCond .eq 10, 3) := by decide +kernel
theorem dX12_goesOn_174 : decode cX12_goesOn 174 = .ok (.aload_n 0, 1) := by decide +kernel
theorem dX12_goesOn_175 : decode cX12_goesOn 175 = .ok (.invokevirtual 348, 3) := by decide +kernel
theorem dX12_goesOn_178 : decode cX12_goesOn 178 = .ok (.goto (-20), 3) := by decide +kernel
theorem dX12_goesOn_181 : decode cX12_goesOn 181 = .ok (.aload_n 0, 1) := by decide +kernel
theorem dX12_goesOn_182 : decode cX12_goesOn 182 = .ok (.getfield 103, 3) := by decide +kernel
theorem dX12_goesOn_185 : decode cX12_goesOn 185 = .ok (.aload_n 0, 1) := by decide +kernel
theorem dX12_goesOn_186 : decode cX12_goesOn 186 = .ok (.getfield 335, 3) := by decide +kernel
theorem dX12_goesOn_189 : decode cX12_goesOn 189 = .ok (.iload_n 1, 1) := by decide +kernel
theorem dX12_goesOn_190 : decode cX12_goesOn 190 = .ok (.iastore, 1) := by decide +kernel
theorem dX12_goesOn_191 : decode cX12_goesOn 191 = .ok (.aload_n 0, 1) := by decide +kernel
theorem dX12_goesOn_192 : decode cX12_goesOn 192 = .ok (.dup, 1) := by decide +kernel
theorem dX12_goesOn_193 : decode cX12_goesOn 193 = .ok (.getfield 335, 3) := by decide +kernel
theorem dX12_goesOn_196 : decode cX12_goesOn 196 = .ok (.iconst 1, 1) := by decide +kernel
theorem dX12_goesOn_197 : decode cX12_goesOn 197 = .ok (.iadd, 1) := by decide +kernel
theorem dX12_goesOn_198 : decode cX12_goesOn 198 = .ok (.putfield 335, 3) := by decide +kernel
theorem dX12_goesOn_201 : decode cX12_goesOn 201 = .ok (.iconst 1, 1) := by decide +kernel
theorem dX12_goesOn_202 : decode cX12_goesOn 202 = .ok (.ireturn, 1) := by decide +kernel
theorem dX12_goesOn_203 : decode cX12_goesOn 203 = .ok (.aload_n 0, 1) := by decide +kernel
theorem dX12_goesOn_204 : decode cX12_goesOn 204 = .ok (.bipush 43, 2) := by decide +kernel
theorem dX12_goesOn_206 : decode cX12_goesOn 206 = .ok (.invokevirtual 319, 3) := by decide +kernel
theorem dX12_goesOn_209 : decode cX12_goesOn 209 = .ok (.ifCond .ne 12, 3) := by decide +kernel
theorem dX12_goesOn_212 : decode cX12_goesOn 212 = .ok (.aload_n 0, 1) := by decide +kernel
theorem dX12_goesOn_213 : decode cX12_goesOn 213 = .ok (.bipush 45, 2) := by decide +kernel
theorem dX12_goesOn_215 : decode cX12_goesOn 215 = .ok (.invokevirtual 319, 3) := by decide +kernel
theorem dX12_goesOn_218 : decode cX12_goesOn 218 = .ok (.ifCond .eq 86, 3) := by decide +kernel
theorem dX12_goesOn_221 : decode cX12_goesOn 221 = .ok (.aload_n 0, 1) := by decide +kernel
theorem dX12_goesOn_222 : decode cX12_goesOn 222 = .ok (.getfield 7, 3) := by decide +kernel
theorem dX12_goesOn_225 : decode cX12_goesOn 225 = .ok (.aload_n 0, 1) := by decide +kernel
theorem dX12_goesOn_226 : decode cX12_goesOn 226 = .ok (.getfield 291, 3) := by decide +kernel
theorem dX12_goesOn_229 : decode cX12_goesOn 229 = .ok (.iconst 1, 1) := by decide +kernel
theorem dX12_goesOn_230 : decode cX12_goesOn 230 = .ok (.isub, 1) := by decide +kernel
theorem dX12_goesOn_231 : decode cX12_goesOn 231 = .ok (.iaload, 1) := by decide +kernel
theorem dX12_goesOn_232 : decode cX12_goesOn 232 = .ok (.bipush 43, 2) := by decide +kernel
theorem dX12_goesOn_234 : decode cX12_goesOn 234 = .ok (.if_icmp .ne 7, 3) := by decide +kernel
theorem dX12_goesOn_237 : decode cX12_goesOn 237 = .ok (.iconst 1, 1) := by decide +kernel
theorem dX12_goesOn_238 : decode cX12_goesOn 238 = .ok (.goto 4, 3) := by decide +kernel
theorem dX12_goesOn_241 : decode cX12_goesOn 241 = .ok (.iconst 2, 1) := by decide +kernel
theorem dX12_goesOn_242 : decode cX12_goesOn 242 = .ok (.istore_n 1, 1) := by decide +kernel
theorem dX12_goesOn_243 : decode cX12_goesOn 243 = .ok (.aload_n 0, 1) := by decide +kernel
theorem dX12_goesOn_244 : decode cX12_goesOn 244 = .ok (.iconst 3, 1) := by decide +kernel
theorem dX12_goesOn_245 : decode cX12_goesOn 245 = .ok (.invokevirtual 375, 3) := by decide +kernel
theorem dX12_goesOn_248 : decode cX12_goesOn 248 = .ok (.ifCond .ne 27, 3) := by decide +kernel
theorem dX12_goesOn_251 : decode cX12_goesOn 251 = .ok (.aload_n 0, 1) := by decide +kernel
theorem dX12_goesOn_252 : decode cX12_goesOn 252 = .ok (.iconst 4, 1) := by decide +kernel
theorem dX12_goesOn_253 : decode cX12_goesOn 253 = .ok (.invokevirtual 375, 3) := by decide +kernel
theorem dX12_goesOn_256 : decode cX12_goesOn 256 = .ok (.ifCond .ne 19, 3) := by decide +kernel
theorem dX12_goesOn_259 : decode cX12_goesOn 259 = .ok (.aload_n 0, 1) := by decide +kernel
theorem dX12_goesOn_260 : decode cX12_goesOn 260 = .ok (.iconst 1, 1) := by decide +kernel
theorem dX12_goesOn_261 : decode cX12_goesOn 261 = .ok (.invokevirtual 375, 3) := by decide +kernel
theorem dX12_goesOn_264 : decode cX12_goesOn 264 = .ok (.ifCond .ne 11, 3) := by decide +kernel
theorem dX12_goesOn_267 : decode cX12_goesOn 267 = .ok (.aload_n 0, 1) := by decide +kernel
theorem dX12_goesOn_268 : decode cX12_goesOn 268 = .ok (.iconst 2, 1) := by decide +kernel
theorem dX12_goesOn_269 : decode cX12_goesOn 269 = .ok (.invokevirtual 375, 3) := by decide +kernel
theorem dX12_goesOn_272 : decode cX12_goesOn 272 = .ok (.ifCond .eq 10, 3) := by decide +kernel
theorem dX12_goesOn_275 : decode cX12_goesOn 275 = .ok (.aload_n 0, 1) := by decide +kernel
theorem dX12_goesOn_276 : decode cX12_goesOn 276 = .ok (.invokevirtual 348, 3) := by decide +kernel
theorem dX12_goesOn_279 : decode cX12_goesOn 279 = .ok (.goto (-36), 3) := by decide +kernel
theorem dX12_goesOn_282 : decode cX12_goesOn 282 = .ok (.aload_n 0, 1) := by decide +kernel
theorem dX12_goesOn_283 : decode cX12_goesOn 283 = .ok (.getfield 103, 3) := by decide +kernel
theorem dX12_goesOn_286 : decode cX12_goesOn 286 = .ok (.aload_n 0, 1) := by decide +kernel
theorem dX12_goesOn_287 : decode cX12_goesOn 287 = .ok (.getfield 335, 3) := by decide +kernel
theorem dX12_goesOn_290 : decode cX12_goesOn 290 = .ok (.iload_n 1, 1) := by decide +kernel
theorem dX12_goesOn_291 : decode cX12_goesOn 291 = .ok (.iastore, 1) := by decide +kernel
theorem dX12_goesOn_292 : decode cX12_goesOn 292 = .ok (.aload_n 0, 1) := by decide +kernel
theorem dX12_goesOn_293 : decode cX12_goesOn 293 = .ok (.dup, 1) := by decide +kernel
theorem dX12_goesOn_294 : decode cX12_goesOn 294 = .ok (.getfield 335, 3) := by decide +kernel
theorem dX12_goesOn_297 : decode cX12_goesOn 297 = .ok (.iconst 1, 1) := by decide +kernel
theorem dX12_goesOn_298 : decode cX12_goesOn 298 = .ok (.iadd, 1) := by decide +kernel
theorem dX12_goesOn_299 : decode cX12_goesOn 299 = .ok (.putfield 335, 3) := by decide +kernel
theorem dX12_goesOn_302 : decode cX12_goesOn 302 = .ok (.iconst 1, 1) := by decide +kernel
theorem dX12_goesOn_303 : decode cX12_goesOn 303 = .ok (.ireturn, 1) := by decide +kernel
theorem dX12_goesOn_304 : decode cX12_goesOn 304 = .ok (.aload_n 0, 1) := by decide +kernel
theorem dX12_goesOn_305 : decode cX12_goesOn 305 = .ok (.invokevirtual 369, 3) := by decide +kernel
theorem dX12_goesOn_308 : decode cX12_goesOn 308 = .ok (.bipush 21, 2) := by decide +kernel
theorem dX12_goesOn_310 : decode cX12_goesOn 310 = .ok (.if_icmp .eq 12, 3) := by decide +kernel
theorem dX12_goesOn_313 : decode cX12_goesOn 313 = .ok (.aload_n 0, 1) := by decide +kernel
theorem dX12_goesOn_314 : decode cX12_goesOn 314 = .ok (.invokevirtual 369, 3) := by decide +kernel
theorem dX12_goesOn_317 : decode cX12_goesOn 317 = .ok (.bipush 22, 2) := by decide +kernel
theorem dX12_goesOn_319 : decode cX12_goesOn 319 = .ok (.if_icmp .ne 39, 3) := by decide +kernel
theorem dX12_goesOn_322 : decode cX12_goesOn 322 = .ok (.aload_n 0, 1) := by decide +kernel
theorem dX12_goesOn_323 : decode cX12_goesOn 323 = .ok (.bipush 44, 2) := by decide +kernel
theorem dX12_goesOn_325 : decode cX12_goesOn 325 = .ok (.invokevirtual 358, 3) := by decide +kernel
theorem dX12_goesOn_328 : decode cX12_goesOn 328 = .ok (.aload_n 0, 1) := by decide +kernel
theorem dX12_goesOn_329 : decode cX12_goesOn 329 = .ok (.getfield 285, 3) := by decide +kernel
theorem dX12_goesOn_332 : decode cX12_goesOn 332 = .ok (.ifCond .eq 5, 3) := by decide +kernel
theorem dX12_goesOn_335 : decode cX12_goesOn 335 = .ok (.iconst 0, 1) := by decide +kernel
theorem dX12_goesOn_336 : decode cX12_goesOn 336 = .ok (.ireturn, 1) := by decide +kernel
theorem dX12_goesOn_337 : decode cX12_goesOn 337 = .ok (.aload_n 0, 1) := by decide +kernel
theorem dX12_goesOn_338 : decode cX12_goesOn 338 = .ok (.invokevirtual 372, 3) := by decide +kernel
theorem dX12_goesOn_341 : decode cX12_goesOn 341 = .ok (.aload_n 0, 1) := by decide +kernel
theorem dX12_goesOn_342 : decode cX12_goesOn 342 = .ok (.getfield 103, 3) := by decide +kernel
theorem dX12_goesOn_345 : decode cX12_goesOn 345 = .ok (.aload_n 0, 1) := by decide +kernel
theorem dX12_goesOn_346 : decode cX12_goesOn 346 = .ok (.getfield 335, 3) := by decide +kernel
theorem dX12_goesOn_349 : decode cX12_goesOn 349 = .ok (.iconst 1, 1) := by decide +kernel
theorem dX12_goesOn_350 : decode cX12_goesOn 350 = .ok (.isub, 1) := by decide +kernel
theorem dX12_goesOn_351 : decode cX12_goesOn 351 = .ok (.dup2, 1) := by decide +kernel
theorem dX12_goesOn_352 : decode cX12_goesOn 352 = .ok (.iaload, 1) := by decide +kernel
theorem dX12_goesOn_353 : decode cX12_goesOn 353 = .ok (.iconst 2, 1) := by decide +kernel
theorem dX12_goesOn_354 : decode cX12_goesOn 354 = .ok (.iadd, 1) := by decide +kernel
theorem dX12_goesOn_355 : decode cX12_goesOn 355 = .ok (.iastore, 1) := by decide +kernel
theorem dX12_goesOn_356 : decode cX12_goesOn 356 = .ok (.iconst 1, 1) := by decide +kernel
theorem dX12_goesOn_357 : decode cX12_goesOn 357 = .ok (.ireturn, 1) := by decide +kernel
theorem dX12_goesOn_358 : decode cX12_goesOn 358 = .ok (.aload_n 0, 1) := by decide +kernel
theorem dX12_goesOn_359 : decode cX12_goesOn 359 = .ok (.invokevirtual 369, 3) := by decide +kernel
theorem dX12_goesOn_362 : decode cX12_goesOn 362 = .ok (.iconst (-1), 1) := by decide +kernel
theorem dX12_goesOn_363 : decode cX12_goesOn 363 = .ok (.if_icmp .eq 19, 3) := by decide +kernel
theorem dX12_goesOn_366 : decode cX12_goesOn 366 = .ok (.aload_n 0, 1) := by decide +kernel
theorem dX12_goesOn_367 : decode cX12_goesOn 367 = .ok (.getfield 285, 3) := by decide +kernel
theorem dX12_goesOn_370 : decode cX12_goesOn 370 = .ok (.ifCond .ne 12, 3) := by decide +kernel
theorem dX12_goesOn_373 : decode cX12_goesOn 373 = .ok (.aload_n 0, 1) := by decide +kernel
theorem dX12_goesOn_374 : decode cX12_goesOn 374 = .ok (.iconst 1, 1) := by decide +kernel
theorem dX12_goesOn_375 : decode cX12_goesOn 375 = .ok (.aload_n 0, 1) := by decide +kernel
theorem dX12_goesOn_376 : decode cX12_goesOn 376 = .ok (.getfield 291, 3) := by decide +kernel
theorem dX12_goesOn_379 : decode cX12_goesOn 379 = .ok (.invokevirtual 315, 3) := by decide +kernel
theorem dX12_goesOn_382 : decode cX12_goesOn 382 = .ok (.iconst 0, 1) := by decide +kernel
theorem dX12_goesOn_383 : decode cX12_goesOn 383 = .ok (.ireturn, 1) := by decide +kernel
theorem dX12_sums_0 : decode cX12_sums 0 = .ok (.aload_n 0, 1) := by decide +kernel
theorem dX12_sums_1 : decode cX12_sums 1 = .ok (.getfield 342, 3) := by decide +kernel
theorem dX12_sums_4 : decode cX12_sums 4 = .ok (.istore_n 1, 1) := by decide +kernel
theorem dX12_sums_5 : decode cX12_sums 5 = .ok (.aload_n 0, 1) := by decide +kernel
theorem dX12_sums_6 : decode cX12_sums 6 = .ok (.aload_n 0, 1) := by decide +kernel
theorem dX12_sums_7 : decode cX12_sums 7 = .ok (.getfield 335, 3) := by decide +kernel
theorem dX12_sums_10 : decode cX12_sums 10 = .ok (.putfield 342, 3) := by decide +kernel
theorem dX12_sums_13 : decode cX12_sums 13 = .ok (.iconst 1, 1) := by decide +kernel
theorem dX12_sums_14 : decode cX12_sums 14 = .ok (.istore_n 2, 1) := by decide +kernel
theorem dX12_sums_15 : decode cX12_sums 15 = .ok (.iload_n 2, 1) := by decide +kernel
theorem dX12_sums_16 : decode cX12_sums 16 = .ok (.ifCond .eq 37, 3) := by decide +kernel
theorem dX12_sums_19 : decode cX12_sums 19 = .ok (.aload_n 0, 1) := by decide +kernel
theorem dX12_sums_20 : decode cX12_sums 20 = .ok (.getfield 285, 3) := by decide +kernel
theorem dX12_sums_23 : decode cX12_sums 23 = .ok (.ifCond .ne 30, 3) := by decide +kernel
theorem dX12_sums_26 : decode cX12_sums 26 = .ok (.aload_n 0, 1) := by decide +kernel
theorem dX12_sums_27 : decode cX12_sums 27 = .ok (.invokevirtual 378, 3) := by decide +kernel
theorem dX12_sums_30 : decode cX12_sums 30 = .ok (.aload_n 0, 1) := by decide +kernel
theorem dX12_sums_31 : decode cX12_sums 31 = .ok (.getfield 285, 3) := by decide +kernel
theorem dX12_sums_34 : decode cX12_sums 34 = .ok (.ifCond .ne 14, 3) := by decide +kernel
theorem dX12_sums_37 : decode cX12_sums 37 = .ok (.aload_n 0, 1) := by decide +kernel
theorem dX12_sums_38 : decode cX12_sums 38 = .ok (.invokevirtual 381, 3) := by decide +kernel
theorem dX12_sums_41 : decode cX12_sums 41 = .ok (.ifCond .eq 7, 3) := by decide +kernel
theorem dX12_sums_44 : decode cX12_sums 44 = .ok (.iconst 1, 1) := by decide +kernel
theorem dX12_sums_45 : decode cX12_sums 45 = .ok (.goto 4, 3) := by decide +kernel
theorem dX12_sums_48 : decode cX12_sums 48 = .ok (.iconst 0, 1) := by decide +kernel
theorem dX12_sums_49 : decode cX12_sums 49 = .ok (.istore_n 2, 1) := by decide +kernel
theorem dX12_sums_50 : decode cX12_sums 50 = .ok (.goto (-35), 3) := by decide +kernel
theorem dX12_sums_53 : decode cX12_sums 53 = .ok (.aload_n 0, 1) := by decide +kernel
theorem dX12_sums_54 : decode cX12_sums 54 = .ok (.getfield 285, 3) := by decide +kernel
theorem dX12_sums_57 : decode cX12_sums 57 = .ok (.ifCond .ne 21, 3) := by decide +kernel
theorem dX12_sums_60 : decode cX12_sums 60 = .ok (.aload_n 0, 1) := by decide +kernel
theorem dX12_sums_61 : decode cX12_sums 61 = .ok (.getfield 335, 3) := by decide +kernel
theorem dX12_sums_64 : decode cX12_sums 64 = .ok (.aload_n 0, 1) := by decide +kernel
theorem dX12_sums_65 : decode cX12_sums 65 = .ok (.getfield 342, 3) := by decide +kernel
theorem dX12_sums_68 : decode cX12_sums 68 = .ok (.if_icmp .le 10, 3) := by decide +kernel
theorem dX12_sums_71 : decode cX12_sums 71 = .ok (.aload_n 0, 1) := by decide +kernel
theorem dX12_sums_72 : decode cX12_sums 72 = .ok (.invokevirtual 348, 3) := by decide +kernel
theorem dX12_sums_75 : decode cX12_sums 75 = .ok (.goto (-22), 3) := by decide +kernel
theorem dX12_sums_78 : decode cX12_sums 78 = .ok (.aload_n 0, 1) := by decide +kernel
theorem dX12_sums_79 : decode cX12_sums 79 = .ok (.iload_n 1, 1) := by decide +kernel
theorem dX12_sums_80 : decode cX12_sums 80 = .ok (.putfield 342, 3) := by decide +kernel
theorem dX12_sums_83 : decode cX12_sums 83 = .ok (.return_, 1) := by decide +kernel
theorem dX12_fact_0 : decode cX12_fact 0 = .ok (.aload_n 0, 1) := by decide +kernel
theorem dX12_fact_1 : decode cX12_fact 1 = .ok (.aload_n 0, 1) := by decide +kernel
theorem dX12_fact_2 : decode cX12_fact 2 = .ok (.getfield 54, 3) := by decide +kernel
theorem dX12_fact_5 : decode cX12_fact 5 = .ok (.invokevirtual 312, 3) := by decide +kernel
theorem dX12_fact_8 : decode cX12_fact 8 = .ok (.ifCond .eq 10, 3) := by decide +kernel
theorem dX12_fact_11 : decode cX12_fact 11 = .ok (.aload_n 0, 1) := by decide +kernel
theorem dX12_fact_12 : decode cX12_fact 12 = .ok (.bipush 17, 2) := by decide +kernel
theorem dX12_fact_14 : decode cX12_fact 14 = .ok (.invokevirtual 338, 3) := by decide +kernel
theorem dX12_fact_17 : decode cX12_fact 17 = .ok (.return_, 1) := by decide +kernel
theorem dX12_fact_18 : decode cX12_fact 18 = .ok (.aload_n 0, 1) := by decide +kernel
theorem dX12_fact_19 : decode cX12_fact 19 = .ok (.aload_n 0, 1) := by decide +kernel
theorem dX12_fact_20 : decode cX12_fact 20 = .ok (.getfield 57, 3) := by decide +kernel
theorem dX12_fact_23 : decode cX12_fact 23 = .ok (.invokevirtual 312, 3) := by decide +kernel
theorem dX12_fact_26 : decode cX12_fact 26 = .ok (.ifCond .eq 18, 3) := by decide +kernel
theorem dX12_fact_29 : decode cX12_fact 29 = .ok (.aload_n 0, 1) := by decide +kernel
theorem dX12_fact_30 : decode cX12_fact 30 = .ok (.bipush 100, 2) := by decide +kernel
theorem dX12_fact_32 : decode cX12_fact 32 = .ok (.aload_n 0, 1) := by decide +kernel
theorem dX12_fact_33 : decode cX12_fact 33 = .ok (.iconst 0, 1) := by decide +kernel
theorem dX12_fact_34 : decode cX12_fact 34 = .ok (.bipush 8, 2) := by decide +kernel
theorem dX12_fact_36 : decode cX12_fact 36 = .ok (.invokevirtual 365, 3) := by decide +kernel
theorem dX12_fact_39 : decode cX12_fact 39 = .ok (.iadd, 1) := by decide +kernel
theorem dX12_fact_40 : decode cX12_fact 40 = .ok (.invokevirtual 338, 3) := by decide +kernel
theorem dX12_fact_43 : decode cX12_fact 43 = .ok (.return_, 1) := by decide +kernel
theorem dX12_fact_44 : decode cX12_fact 44 = .ok (.aload_n 0, 1) := by decide +kernel
theorem dX12_fact_45 : decode cX12_fact 45 = .ok (.invokevirtual 385, 3) := by decide +kernel
theorem dX12_fact_48 : decode cX12_fact 48 = .ok (.aload_n 0, 1) := by decide +kernel
theorem dX12_fact_49 : decode cX12_fact 49 = .ok (.getfield 285, 3) := by decide +kernel
theorem dX12_fact_52 : decode cX12_fact 52 = .ok (.ifCond .eq 4, 3) := by decide +kernel
theorem dX12_fact_55 : decode cX12_fact 55 = .ok (.return_, 1) := by decide +kernel
theorem dX12_fact_56 : decode cX12_fact 56 = .ok (.aload_n 0, 1) := by decide +kernel
theorem dX12_fact_57 : decode cX12_fact 57 = .ok (.invokevirtual 297, 3) := by decide +kernel
theorem dX12_fact_60 : decode cX12_fact 60 = .ok (.istore_n 1, 1) := by decide +kernel
theorem dX12_fact_61 : decode cX12_fact 61 = .ok (.iload_n 1, 1) := by decide +kernel
theorem dX12_fact_62 : decode cX12_fact 62 = .ok (.bipush 60, 2) := by decide +kernel
theorem dX12_fact_64 : decode cX12_fact 64 = .ok (.if_icmp .eq 25, 3) := by decide +kernel
theorem dX12_fact_67 : decode cX12_fact 67 = .ok (.iload_n 1, 1) := by decide +kernel
theorem dX12_fact_68 : decode cX12_fact 68 = .ok (.bipush 62, 2) := by decide +kernel
theorem dX12_fact_70 : decode cX12_fact 70 = .ok (.if_icmp .eq 19, 3) := by decide +kernel
theorem dX12_fact_73 : decode cX12_fact 73 = .ok (.iload_n 1, 1) := by decide +kernel
theorem dX12_fact_74 : decode cX12_fact 74 = .ok (.bipush 61, 2) := by decide +kernel
theorem dX12_fact_76 : decode cX12_fact 76 = .ok (.if_icmp .eq 13, 3) := by decide +kernel
theorem dX12_fact_79 : decode cX12_fact 79 = .ok (.aload_n 0, 1) := by decide +kernel
theorem dX12_fact_80 : decode cX12_fact 80 = .ok (.iconst 1, 1) := by decide +kernel
theorem dX12_fact_81 : decode cX12_fact 81 = .ok (.aload_n 0, 1) := by decide +kernel
theorem dX12_fact_82 : decode cX12_fact 82 = .ok (.getfield 291, 3) := by decide +kernel
theorem dX12_fact_85 : decode cX12_fact 85 = .ok (.invokevirtual 315, 3) := by decide +kernel
theorem dX12_fact_88 : decode cX12_fact 88 = .ok (.return_, 1) := by decide +kernel
theorem dX12_fact_89 : decode cX12_fact 89 = .ok (.aload_n 0, 1) := by decide +kernel
theorem dX12_fact_90 : decode cX12_fact 90 = .ok (.dup, 1) := by decide +kernel
theorem dX12_fact_91 : decode cX12_fact 91 = .ok (.getfield 291, 3) := by decide +kernel
theorem dX12_fact_94 : decode cX12_fact 94 = .ok (.iconst 1, 1) := by decide +kernel
theorem dX12_fact_95 : decode cX12_fact 95 = .ok (.iadd, 1) := by decide +kernel
theorem dX12_fact_96 : decode cX12_fact 96 = .ok (.putfield 291, 3) := by decide +kernel
theorem dX12_fact_99 : decode cX12_fact 99 = .ok (.aload_n 0, 1) := by decide +kernel
theorem dX12_fact_100 : decode cX12_fact 100 = .ok (.invokevirtual 385, 3) := by decide +kernel
theorem dX12_fact_103 : decode cX12_fact 103 = .ok (.aload_n 0, 1) := by decide +kernel
theorem dX12_fact_104 : decode cX12_fact 104 = .ok (.iload_n 1, 1) := by decide +kernel
theorem dX12_fact_105 : decode cX12_fact 105 = .ok (.bipush 60, 2) := by decide +kernel
theorem dX12_fact_107 : decode cX12_fact 107 = .ok (.if_icmp .ne 8, 3) := by decide +kernel
theorem dX12_fact_110 : decode cX12_fact 110 = .ok (.bipush 11, 2) := by decide +kernel
theorem dX12_fact_112 : decode cX12_fact 112 = .ok (.goto 16, 3) := by decide +kernel
theorem dX12_fact_115 : decode cX12_fact 115 = .ok (.iload_n 1, 1) := by decide +kernel
theorem dX12_fact_116 : decode cX12_fact 116 = .ok (.bipush 62, 2) := by decide +kernel
theorem dX12_fact_118 : decode cX12_fact 118 = .ok (.if_icmp .ne 8, 3) := by decide +kernel
theorem dX12_fact_121 : decode cX12_fact 121 = .ok (.bipush 12, 2) := by decide +kernel
theorem dX12_fact_123 : decode cX12_fact 123 = .ok (.goto 5, 3) := by decide +kernel
theorem dX12_fact_126 : decode cX12_fact 126 = .ok (.bipush 13, 2) := by decide +kernel
theorem dX12_fact_128 : decode cX12_fact 128 = .ok (.invokevirtual 338, 3) := by decide +kernel
theorem dX12_fact_131 : decode cX12_fact 131 = .ok (.return_, 1) := by decide +kernel
theorem dX12_hasSquare_0 : decode cX12_hasSquare 0 = .ok (.iconst 0, 1) := by decide +kernel
theorem dX12_hasSquare_1 : decode cX12_hasSquare 1 = .ok (.istore_n 1, 1) := by decide +kernel
theorem dX12_hasSquare_2 : decode cX12_hasSquare 2 = .ok (.iload_n 1, 1) := by decide +kernel
theorem dX12_hasSquare_3 : decode cX12_hasSquare 3 = .ok (.aload_n 0, 1) := by decide +kernel
theorem dX12_hasSquare_4 : decode cX12_hasSquare 4 = .ok (.getfield 335, 3) := by decide +kernel
theorem dX12_hasSquare_7 : decode cX12_hasSquare 7 = .ok (.if_icmp .ge 22, 3) := by decide +kernel
theorem dX12_hasSquare_10 : decode cX12_hasSquare 10 = .ok (.aload_n 0, 1) := by decide +kernel
theorem dX12_hasSquare_11 : decode cX12_hasSquare 11 = .ok (.getfield 103, 3) := by decide +kernel
theorem dX12_hasSquare_14 : decode cX12_hasSquare 14 = .ok (.iload_n 1, 1) := by decide +kernel
theorem dX12_hasSquare_15 : decode cX12_hasSquare 15 = .ok (.iaload, 1) := by decide +kernel
theorem dX12_hasSquare_16 : decode cX12_hasSquare 16 = .ok (.bipush 25, 2) := by decide +kernel
theorem dX12_hasSquare_18 : decode cX12_hasSquare 18 = .ok (.if_icmp .ne 5, 3) := by decide +kernel
theorem dX12_hasSquare_21 : decode cX12_hasSquare 21 = .ok (.iconst 1, 1) := by decide +kernel
theorem dX12_hasSquare_22 : decode cX12_hasSquare 22 = .ok (.ireturn, 1) := by decide +kernel
theorem dX12_hasSquare_23 : decode cX12_hasSquare 23 = .ok (.iinc 1 1, 3) := by decide +kernel
theorem dX12_hasSquare_26 : decode cX12_hasSquare 26 = .ok (.goto (-24), 3) := by decide +kernel
theorem dX12_hasSquare_29 : decode cX12_hasSquare 29 = .ok (.iconst 0, 1) := by decide +kernel
theorem dX12_hasSquare_30 : decode cX12_hasSquare 30 = .ok (.ireturn, 1) := by decide +kernel
theorem dX12_dropsNots_0 : decode cX12_dropsNots 0 = .ok (.aload_n 0, 1) := by decide +kernel
theorem dX12_dropsNots_1 : decode cX12_dropsNots 1 = .ok (.getfield 285, 3) := by decide +kernel
theorem dX12_dropsNots_4 : decode cX12_dropsNots 4 = .ok (.ifCond .ne 29, 3) := by decide +kernel
theorem dX12_dropsNots_7 : decode cX12_dropsNots 7 = .ok (.aload_n 0, 1) := by decide +kernel
theorem dX12_dropsNots_8 : decode cX12_dropsNots 8 = .ok (.bipush 16, 2) := by decide +kernel
theorem dX12_dropsNots_10 : decode cX12_dropsNots 10 = .ok (.invokevirtual 375, 3) := by decide +kernel
theorem dX12_dropsNots_13 : decode cX12_dropsNots 13 = .ok (.ifCond .eq 20, 3) := by decide +kernel
theorem dX12_dropsNots_16 : decode cX12_dropsNots 16 = .ok (.aload_n 0, 1) := by decide +kernel
theorem dX12_dropsNots_17 : decode cX12_dropsNots 17 = .ok (.dup, 1) := by decide +kernel
theorem dX12_dropsNots_18 : decode cX12_dropsNots 18 = .ok (.getfield 332, 3) := by decide +kernel
theorem dX12_dropsNots_21 : decode cX12_dropsNots 21 = .ok (.iconst 1, 1) := by decide +kernel
theorem dX12_dropsNots_22 : decode cX12_dropsNots 22 = .ok (.isub, 1) := by decide +kernel
theorem dX12_dropsNots_23 : decode cX12_dropsNots 23 = .ok (.putfield 332, 3) := by decide +kernel
theorem dX12_dropsNots_26 : decode cX12_dropsNots 26 = .ok (.aload_n 0, 1) := by decide +kernel
theorem dX12_dropsNots_27 : decode cX12_dropsNots 27 = .ok (.invokevirtual 348, 3) := by decide +kernel
theorem dX12_dropsNots_30 : decode cX12_dropsNots 30 = .ok (.goto (-30), 3) := by decide +kernel
theorem dX12_dropsNots_33 : decode cX12_dropsNots 33 = .ok (.return_, 1) := by decide +kernel
theorem dX12_test_0 : decode cX12_test 0 = .ok (.iconst 1, 1) := by decide +kernel
theorem dX12_test_1 : decode cX12_test 1 = .ok (.istore_n 1, 1) := by decide +kernel
theorem dX12_test_2 : decode cX12_test 2 = .ok (.iload_n 1, 1) := by decide +kernel
theorem dX12_test_3 : decode cX12_test 3 = .ok (.ifCond .eq 107, 3) := by decide +kernel
theorem dX12_test_6 : decode cX12_test 6 = .ok (.aload_n 0, 1) := by decide +kernel
theorem dX12_test_7 : decode cX12_test 7 = .ok (.getfield 285, 3) := by decide +kernel
theorem dX12_test_10 : decode cX12_test 10 = .ok (.ifCond .ne 100, 3) := by decide +kernel
theorem dX12_test_13 : decode cX12_test 13 = .ok (.aload_n 0, 1) := by decide +kernel
theorem dX12_test_14 : decode cX12_test 14 = .ok (.invokevirtual 297, 3) := by decide +kernel
theorem dX12_test_17 : decode cX12_test 17 = .ok (.istore_n 2, 1) := by decide +kernel
theorem dX12_test_18 : decode cX12_test 18 = .ok (.iload_n 2, 1) := by decide +kernel
theorem dX12_test_19 : decode cX12_test 19 = .ok (.bipush 91, 2) := by decide +kernel
theorem dX12_test_21 : decode cX12_test 21 = .ok (.if_icmp .ne 26, 3) := by decide +kernel
theorem dX12_test_24 : decode cX12_test 24 = .ok (.aload_n 0, 1) := by decide +kernel
theorem dX12_test_25 : decode cX12_test 25 = .ok (.bipush 25, 2) := by decide +kernel
theorem dX12_test_27 : decode cX12_test 27 = .ok (.aload_n 0, 1) := by decide +kernel
theorem dX12_test_28 : decode cX12_test 28 = .ok (.getfield 291, 3) := by decide +kernel
theorem dX12_test_31 : decode cX12_test 31 = .ok (.invokevirtual 351, 3) := by decide +kernel
theorem dX12_test_34 : decode cX12_test 34 = .ok (.aload_n 0, 1) := by decide +kernel
theorem dX12_test_35 : decode cX12_test 35 = .ok (.dup, 1) := by decide +kernel
theorem dX12_test_36 : decode cX12_test 36 = .ok (.getfield 291, 3) := by decide +kernel
theorem dX12_test_39 : decode cX12_test 39 = .ok (.iconst 1, 1) := by decide +kernel
theorem dX12_test_40 : decode cX12_test 40 = .ok (.iadd, 1) := by decide +kernel
theorem dX12_test_41 : decode cX12_test 41 = .ok (.putfield 291, 3) := by decide +kernel
theorem dX12_test_44 : decode cX12_test 44 = .ok (.goto (-42), 3) := by decide +kernel
theorem dX12_test_47 : decode cX12_test 47 = .ok (.aload_n 0, 1) := by decide +kernel
theorem dX12_test_48 : decode cX12_test 48 = .ok (.aload_n 0, 1) := by decide +kernel
theorem dX12_test_49 : decode cX12_test 49 = .ok (.getfield 51, 3) := by decide +kernel
theorem dX12_test_52 : decode cX12_test 52 = .ok (.invokevirtual 308, 3) := by decide +kernel
theorem dX12_test_55 : decode cX12_test 55 = .ok (.ifCond .eq 24, 3) := by decide +kernel
theorem dX12_test_58 : decode cX12_test 58 = .ok (.aload_n 0, 1) := by decide +kernel
theorem dX12_test_59 : decode cX12_test 59 = .ok (.bipush 16, 2) := by decide +kernel
theorem dX12_test_61 : decode cX12_test 61 = .ok (.aload_n 0, 1) := by decide +kernel
theorem dX12_test_62 : decode cX12_test 62 = .ok (.getfield 291, 3) := by decide +kernel
theorem dX12_test_65 : decode cX12_test 65 = .ok (.invokevirtual 351, 3) := by decide +kernel
theorem dX12_test_68 : decode cX12_test 68 = .ok (.aload_n 0, 1) := by decide +kernel
theorem dX12_test_69 : decode cX12_test 69 = .ok (.aload_n 0, 1) := by decide +kernel
theorem dX12_test_70 : decode cX12_test 70 = .ok (.getfield 51, 3) := by decide +kernel
theorem dX12_test_73 : decode cX12_test 73 = .ok (.invokevirtual 354, 3) := by decide +kernel
theorem dX12_test_76 : decode cX12_test 76 = .ok (.goto (-74), 3) := by decide +kernel
theorem dX12_test_79 : decode cX12_test 79 = .ok (.aload_n 0, 1) := by decide +kernel
theorem dX12_test_80 : decode cX12_test 80 = .ok (.invokevirtual 388, 3) := by decide +kernel
theorem dX12_test_83 : decode cX12_test 83 = .ok (.aload_n 0, 1) := by decide +kernel
theorem dX12_test_84 : decode cX12_test 84 = .ok (.invokevirtual 391, 3) := by decide +kernel
theorem dX12_test_87 : decode cX12_test 87 = .ok (.aload_n 0, 1) := by decide +kernel
theorem dX12_test_88 : decode cX12_test 88 = .ok (.getfield 285, 3) := by decide +kernel
theorem dX12_test_91 : decode cX12_test 91 = .ok (.ifCond .ne 14, 3) := by decide +kernel
theorem dX12_test_94 : decode cX12_test 94 = .ok (.aload_n 0, 1) := by decide +kernel
theorem dX12_test_95 : decode cX12_test 95 = .ok (.invokevirtual 394, 3) := by decide +kernel
theorem dX12_test_98 : decode cX12_test 98 = .ok (.ifCond .eq 7, 3) := by decide +kernel
theorem dX12_test_101 : decode cX12_test 101 = .ok (.iconst 1, 1) := by decide +kernel
theorem dX12_test_102 : decode cX12_test 102 = .ok (.goto 4, 3) := by decide +kernel
theorem dX12_test_105 : decode cX12_test 105 = .ok (.iconst 0, 1) := by decide +kernel
theorem dX12_test_106 : decode cX12_test 106 = .ok (.istore_n 1, 1) := by decide +kernel
theorem dX12_test_107 : decode cX12_test 107 = .ok (.goto (-105), 3) := by decide +kernel
theorem dX12_test_110 : decode cX12_test 110 = .ok (.aload_n 0, 1) := by decide +kernel
theorem dX12_test_111 : decode cX12_test 111 = .ok (.getfield 285, 3) := by decide +kernel
theorem dX12_test_114 : decode cX12_test 114 = .ok (.ifCond .ne 17, 3) := by decide +kernel
theorem dX12_test_117 : decode cX12_test 117 = .ok (.aload_n 0, 1) := by decide +kernel
theorem dX12_test_118 : decode cX12_test 118 = .ok (.getfield 335, 3) := by decide +kernel
theorem dX12_test_121 : decode cX12_test 121 = .ok (.ifCond .le 10, 3) := by decide +kernel
theorem dX12_test_124 : decode cX12_test 124 = .ok (.aload_n 0, 1) := by decide +kernel
theorem dX12_test_125 : decode cX12_test 125 = .ok (.invokevirtual 348, 3) := by decide +kernel
theorem dX12_test_128 : decode cX12_test 128 = .ok (.goto (-18), 3) := by decide +kernel
theorem dX12_test_131 : decode cX12_test 131 = .ok (.return_, 1) := by decide +kernel
theorem dX12_goesOnTest_0 : decode cX12_goesOnTest 0 = .ok (.aload_n 0, 1) := by decide +kernel
theorem dX12_goesOnTest_1 : decode cX12_goesOnTest 1 = .ok (.getfield 285, 3) := by decide +kernel
theorem dX12_goesOnTest_4 : decode cX12_goesOnTest 4 = .ok (.ifCond .ne 72, 3) := by decide +kernel
theorem dX12_goesOnTest_7 : decode cX12_goesOnTest 7 = .ok (.aload_n 0, 1) := by decide +kernel
theorem dX12_goesOnTest_8 : decode cX12_goesOnTest 8 = .ok (.invokevirtual 297, 3) := by decide +kernel
theorem dX12_goesOnTest_11 : decode cX12_goesOnTest 11 = .ok (.bipush 93, 2) := by decide +kernel
theorem dX12_goesOnTest_13 : decode cX12_goesOnTest 13 = .ok (.if_icmp .ne 63, 3) := by decide +kernel
theorem dX12_goesOnTest_16 : decode cX12_goesOnTest 16 = .ok (.aload_n 0, 1) := by decide +kernel
theorem dX12_goesOnTest_17 : decode cX12_goesOnTest 17 = .ok (.invokevirtual 397, 3) := by decide +kernel
theorem dX12_goesOnTest_20 : decode cX12_goesOnTest 20 = .ok (.ifCond .eq 56, 3) := by decide +kernel
theorem dX12_goesOnTest_23 : decode cX12_goesOnTest 23 = .ok (.aload_n 0, 1) := by decide +kernel
theorem dX12_goesOnTest_24 : decode cX12_goesOnTest 24 = .ok (.dup, 1) := by decide +kernel
theorem dX12_goesOnTest_25 : decode cX12_goesOnTest 25 = .ok (.getfield 291, 3) := by decide +kernel
theorem dX12_goesOnTest_28 : decode cX12_goesOnTest 28 = .ok (.iconst 1, 1) := by decide +kernel
theorem dX12_goesOnTest_29 : decode cX12_goesOnTest 29 = .ok (.iadd, 1) := by decide +kernel
theorem dX12_goesOnTest_30 : decode cX12_goesOnTest 30 = .ok (.putfield 291, 3) := by decide +kernel
theorem dX12_goesOnTest_33 : decode cX12_goesOnTest 33 = .ok (.aload_n 0, 1) := by decide +kernel
theorem dX12_goesOnTest_34 : decode cX12_goesOnTest 34 = .ok (.bipush 25, 2) := by decide +kernel
theorem dX12_goesOnTest_36 : decode cX12_goesOnTest 36 = .ok (.invokevirtual 375, 3) := by decide +kernel
theorem dX12_goesOnTest_39 : decode cX12_goesOnTest 39 = .ok (.ifCond .ne 10, 3) := by decide +kernel
theorem dX12_goesOnTest_42 : decode cX12_goesOnTest 42 = .ok (.aload_n 0, 1) := by decide +kernel
theorem dX12_goesOnTest_43 : decode cX12_goesOnTest 43 = .ok (.invokevirtual 348, 3) := by decide +kernel
theorem dX12_goesOnTest_46 : decode cX12_goesOnTest 46 = .ok (.goto (-13), 3) := by decide +kernel
theorem dX12_goesOnTest_49 : decode cX12_goesOnTest 49 = .ok (.aload_n 0, 1) := by decide +kernel
theorem dX12_goesOnTest_50 : decode cX12_goesOnTest 50 = .ok (.dup, 1) := by decide +kernel
theorem dX12_goesOnTest_51 : decode cX12_goesOnTest 51 = .ok (.getfield 335, 3) := by decide +kernel
theorem dX12_goesOnTest_54 : decode cX12_goesOnTest 54 = .ok (.iconst 1, 1) := by decide +kernel
theorem dX12_goesOnTest_55 : decode cX12_goesOnTest 55 = .ok (.isub, 1) := by decide +kernel
theorem dX12_goesOnTest_56 : decode cX12_goesOnTest 56 = .ok (.putfield 335, 3) := by decide +kernel
theorem dX12_goesOnTest_59 : decode cX12_goesOnTest 59 = .ok (.aload_n 0, 1) := by decide +kernel
theorem dX12_goesOnTest_60 : decode cX12_goesOnTest 60 = .ok (.dup, 1) := by decide +kernel
theorem dX12_goesOnTest_61 : decode cX12_goesOnTest 61 = .ok (.getfield 332, 3) := by decide +kernel
theorem dX12_goesOnTest_64 : decode cX12_goesOnTest 64 = .ok (.iconst 1, 1) := by decide +kernel
theorem dX12_goesOnTest_65 : decode cX12_goesOnTest 65 = .ok (.isub, 1) := by decide +kernel
theorem dX12_goesOnTest_66 : decode cX12_goesOnTest 66 = .ok (.putfield 332, 3) := by decide +kernel
theorem dX12_goesOnTest_69 : decode cX12_goesOnTest 69 = .ok (.aload_n 0, 1) := by decide +kernel
theorem dX12_goesOnTest_70 : decode cX12_goesOnTest 70 = .ok (.invokevirtual 391, 3) := by decide +kernel
theorem dX12_goesOnTest_73 : decode cX12_goesOnTest 73 = .ok (.goto (-73), 3) := by decide +kernel
theorem dX12_goesOnTest_76 : decode cX12_goesOnTest 76 = .ok (.aload_n 0, 1) := by decide +kernel
theorem dX12_goesOnTest_77 : decode cX12_goesOnTest 77 = .ok (.aload_n 0, 1) := by decide +kernel
theorem dX12_goesOnTest_78 : decode cX12_goesOnTest 78 = .ok (.getfield 48, 3) := by decide +kernel
theorem dX12_goesOnTest_81 : decode cX12_goesOnTest 81 = .ok (.invokevirtual 312, 3) := by decide +kernel
theorem dX12_goesOnTest_84 : decode cX12_goesOnTest 84 = .ok (.ifCond .eq 42, 3) := by decide +kernel
theorem dX12_goesOnTest_87 : decode cX12_goesOnTest 87 = .ok (.aload_n 0, 1) := by decide +kernel
theorem dX12_goesOnTest_88 : decode cX12_goesOnTest 88 = .ok (.bipush 14, 2) := by decide +kernel
theorem dX12_goesOnTest_90 : decode cX12_goesOnTest 90 = .ok (.invokevirtual 375, 3) := by decide +kernel
theorem dX12_goesOnTest_93 : decode cX12_goesOnTest 93 = .ok (.ifCond .eq 10, 3) := by decide +kernel
theorem dX12_goesOnTest_96 : decode cX12_goesOnTest 96 = .ok (.aload_n 0, 1) := by decide +kernel
theorem dX12_goesOnTest_97 : decode cX12_goesOnTest 97 = .ok (.invokevirtual 348, 3) := by decide +kernel
theorem dX12_goesOnTest_100 : decode cX12_goesOnTest 100 = .ok (.goto (-13), 3) := by decide +kernel
theorem dX12_goesOnTest_103 : decode cX12_goesOnTest 103 = .ok (.aload_n 0, 1) := by decide +kernel
theorem dX12_goesOnTest_104 : decode cX12_goesOnTest 104 = .ok (.getfield 103, 3) := by decide +kernel
theorem dX12_goesOnTest_107 : decode cX12_goesOnTest 107 = .ok (.aload_n 0, 1) := by decide +kernel
theorem dX12_goesOnTest_108 : decode cX12_goesOnTest 108 = .ok (.getfield 335, 3) := by decide +kernel
theorem dX12_goesOnTest_111 : decode cX12_goesOnTest 111 = .ok (.bipush 14, 2) := by decide +kernel
theorem dX12_goesOnTest_113 : decode cX12_goesOnTest 113 = .ok (.iastore, 1) := by decide +kernel
theorem dX12_goesOnTest_114 : decode cX12_goesOnTest 114 = .ok (.aload_n 0, 1) := by decide +kernel
theorem dX12_goesOnTest_115 : decode cX12_goesOnTest 115 = .ok (.dup, 1) := by decide +kernel
theorem dX12_goesOnTest_116 : decode cX12_goesOnTest 116 = .ok (.getfield 335, 3) := by decide +kernel
theorem dX12_goesOnTest_119 : decode cX12_goesOnTest 119 = .ok (.iconst 1, 1) := by decide +kernel
theorem dX12_goesOnTest_120 : decode cX12_goesOnTest 120 = .ok (.iadd, 1) := by decide +kernel
theorem dX12_goesOnTest_121 : decode cX12_goesOnTest 121 = .ok (.putfield 335, 3) := by decide +kernel
theorem dX12_goesOnTest_124 : decode cX12_goesOnTest 124 = .ok (.iconst 1, 1) := by decide +kernel
theorem dX12_goesOnTest_125 : decode cX12_goesOnTest 125 = .ok (.ireturn, 1) := by decide +kernel
theorem dX12_goesOnTest_126 : decode cX12_goesOnTest 126 = .ok (.aload_n 0, 1) := by decide +kernel
theorem dX12_goesOnTest_127 : decode cX12_goesOnTest 127 = .ok (.aload_n 0, 1) := by decide +kernel
theorem dX12_goesOnTest_128 : decode cX12_goesOnTest 128 = .ok (.getfield 45, 3) := by decide +kernel
theorem dX12_goesOnTest_131 : decode cX12_goesOnTest 131 = .ok (.invokevirtual 312, 3) := by decide +kernel
theorem dX12_goesOnTest_134 : decode cX12_goesOnTest 134 = .ok (.ifCond .eq 51, 3) := by decide +kernel
theorem dX12_goesOnTest_137 : decode cX12_goesOnTest 137 = .ok (.aload_n 0, 1) := by decide +kernel
theorem dX12_goesOnTest_138 : decode cX12_goesOnTest 138 = .ok (.bipush 14, 2) := by decide +kernel
theorem dX12_goesOnTest_140 : decode cX12_goesOnTest 140 = .ok (.invokevirtual 375, 3) := by decide +kernel
theorem dX12_goesOnTest_143 : decode cX12_goesOnTest 143 = .ok (.ifCond .ne 12, 3) := by decide +kernel
theorem dX12_goesOnTest_146 : decode cX12_goesOnTest 146 = .ok (.aload_n 0, 1) := by decide +kernel
theorem dX12_goesOnTest_147 : decode cX12_goesOnTest 147 = .ok (.bipush 15, 2) := by decide +kernel
theorem dX12_goesOnTest_149 : decode cX12_goesOnTest 149 = .ok (.invokevirtual 375, 3) := by decide +kernel
theorem dX12_goesOnTest_152 : decode cX12_goesOnTest 152 = .ok (.ifCond .eq 10, 3) := by decide +kernel
theorem dX12_goesOnTest_155 : decode cX12_goesOnTest 155 = .ok (.aload_n 0, 1) := by decide +kernel
theorem dX12_goesOnTest_156 : decode cX12_goesOnTest 156 = .ok (.invokevirtual 348, 3) := by decide +kernel
theorem dX12_goesOnTest_159 : decode cX12_goesOnTest 159 = .ok (.goto (-22), 3) := by decide +kernel
theorem dX12_goesOnTest_162 : decode cX12_goesOnTest 162 = .ok (.aload_n 0, 1) := by decide +kernel
theorem dX12_goesOnTest_163 : decode cX12_goesOnTest 163 = .ok (.getfield 103, 3) := by decide +kernel
theorem dX12_goesOnTest_166 : decode cX12_goesOnTest 166 = .ok (.aload_n 0, 1) := by decide +kernel
theorem dX12_goesOnTest_167 : decode cX12_goesOnTest 167 = .ok (.getfield 335, 3) := by decide +kernel
theorem dX12_goesOnTest_170 : decode cX12_goesOnTest 170 = .ok (.bipush 15, 2) := by decide +kernel
theorem dX12_goesOnTest_172 : decode cX12_goesOnTest 172 = .ok (.iastore, 1) := by decide +kernel
theorem dX12_goesOnTest_173 : decode cX12_goesOnTest 173 = .ok (.aload_n 0, 1) := by decide +kernel
theorem dX12_goesOnTest_174 : decode cX12_goesOnTest 174 = .ok (.dup, 1) := by decide +kernel
theorem dX12_goesOnTest_175 : decode cX12_goesOnTest 175 = .ok (.getfield 335, 3) := by decide +kernel
theorem dX12_goesOnTest_178 : decode cX12_goesOnTest 178 = .ok (.iconst 1, 1) := by decide +kernel
theorem dX12_goesOnTest_179 : decode cX12_goesOnTest 179 = .ok (.iadd, 1) := by decide +kernel
theorem dX12_goesOnTest_180 : decode cX12_goesOnTest 180 = .ok (.putfield 335, 3) := by decide +kernel
theorem dX12_goesOnTest_183 : decode cX12_goesOnTest 183 = .ok (.iconst 1, 1) := by decide +kernel
theorem dX12_goesOnTest_184 : decode cX12_goesOnTest 184 = .ok (.ireturn, 1) := by decide +kernel
theorem dX12_goesOnTest_185 : decode cX12_goesOnTest 185 = .ok (.aload_n 0, 1) := by decide +kernel
theorem dX12_goesOnTest_186 : decode cX12_goesOnTest 186 = .ok (.getfield 285, 3) := by decide +kernel
theorem dX12_goesOnTest_189 : decode cX12_goesOnTest 189 = .ok (.ifCond .ne 19, 3) := by decide +kernel
theorem dX12_goesOnTest_192 : decode cX12_goesOnTest 192 = .ok (.aload_n 0, 1) := by decide +kernel
theorem dX12_goesOnTest_193 : decode cX12_goesOnTest 193 = .ok (.invokevirtual 397, 3) := by decide +kernel
theorem dX12_goesOnTest_196 : decode cX12_goesOnTest 196 = .ok (.ifCond .eq 12, 3) := by decide +kernel
theorem dX12_goesOnTest_199 : decode cX12_goesOnTest 199 = .ok (.aload_n 0, 1) := by decide +kernel
theorem dX12_goesOnTest_200 : decode cX12_goesOnTest 200 = .ok (.iconst 1, 1) := by decide +kernel
theorem dX12_goesOnTest_201 : decode cX12_goesOnTest 201 = .ok (.aload_n 0, 1) := by decide +kernel
theorem dX12_goesOnTest_202 : decode cX12_goesOnTest 202 = .ok (.getfield 291, 3) := by decide +kernel
theorem dX12_goesOnTest_205 : decode cX12_goesOnTest 205 = .ok (.invokevirtual 315, 3) := by decide +kernel
theorem dX12_goesOnTest_208 : decode cX12_goesOnTest 208 = .ok (.iconst 0, 1) := by decide +kernel
theorem dX12_goesOnTest_209 : decode cX12_goesOnTest 209 = .ok (.ireturn, 1) := by decide +kernel
theorem dX12_statement_0 : decode cX12_statement 0 = .ok (.iconst 0, 1) := by decide +kernel
theorem dX12_statement_1 : decode cX12_statement 1 = .ok (.aload_n 0, 1) := by decide +kernel
theorem dX12_statement_2 : decode cX12_statement 2 = .ok (.getfield 87, 3) := by decide +kernel
theorem dX12_statement_5 : decode cX12_statement 5 = .ok (.iconst 0, 1) := by decide +kernel
theorem dX12_statement_6 : decode cX12_statement 6 = .ok (.iaload, 1) := by decide +kernel
theorem dX12_statement_7 : decode cX12_statement 7 = .ok (.iadd, 1) := by decide +kernel
theorem dX12_statement_8 : decode cX12_statement 8 = .ok (.istore_n 1, 1) := by decide +kernel
theorem dX12_statement_9 : decode cX12_statement 9 = .ok (.aload_n 0, 1) := by decide +kernel
theorem dX12_statement_10 : decode cX12_statement 10 = .ok (.invokevirtual 297, 3) := by decide +kernel
theorem dX12_statement_13 : decode cX12_statement 13 = .ok (.pop, 1) := by decide +kernel
theorem dX12_statement_14 : decode cX12_statement 14 = .ok (.aload_n 0, 1) := by decide +kernel
theorem dX12_statement_15 : decode cX12_statement 15 = .ok (.getfield 87, 3) := by decide +kernel
theorem dX12_statement_18 : decode cX12_statement 18 = .ok (.iconst 0, 1) := by decide +kernel
theorem dX12_statement_19 : decode cX12_statement 19 = .ok (.iaload, 1) := by decide +kernel
theorem dX12_statement_20 : decode cX12_statement 20 = .ok (.bipush 24, 2) := by decide +kernel
theorem dX12_statement_22 : decode cX12_statement 22 = .ok (.if_icmp .ne 13, 3) := by decide +kernel
theorem dX12_statement_25 : decode cX12_statement 25 = .ok (.aload_n 0, 1) := by decide +kernel
theorem dX12_statement_26 : decode cX12_statement 26 = .ok (.iconst 4, 1) := by decide +kernel
theorem dX12_statement_27 : decode cX12_statement 27 = .ok (.aload_n 0, 1) := by decide +kernel
theorem dX12_statement_28 : decode cX12_statement 28 = .ok (.getfield 291, 3) := by decide +kernel
theorem dX12_statement_31 : decode cX12_statement 31 = .ok (.invokevirtual 315, 3) := by decide +kernel
theorem dX12_statement_34 : decode cX12_statement 34 = .ok (.return_, 1) := by decide +kernel
theorem dX12_statement_35 : decode cX12_statement 35 = .ok (.aload_n 0, 1) := by decide +kernel
theorem dX12_statement_36 : decode cX12_statement 36 = .ok (.getfield 93, 3) := by decide +kernel
theorem dX12_statement_39 : decode cX12_statement 39 = .ok (.iload_n 1, 1) := by decide +kernel
theorem dX12_statement_40 : decode cX12_statement 40 = .ok (.aload_n 0, 1) := by decide +kernel
theorem dX12_statement_41 : decode cX12_statement 41 = .ok (.getfield 329, 3) := by decide +kernel
theorem dX12_statement_44 : decode cX12_statement 44 = .ok (.iastore, 1) := by decide +kernel
theorem dX12_statement_45 : decode cX12_statement 45 = .ok (.aload_n 0, 1) := by decide +kernel
theorem dX12_statement_46 : decode cX12_statement 46 = .ok (.iconst 0, 1) := by decide +kernel
theorem dX12_statement_47 : decode cX12_statement 47 = .ok (.putfield 335, 3) := by decide +kernel
theorem dX12_statement_50 : decode cX12_statement 50 = .ok (.aload_n 0, 1) := by decide +kernel
theorem dX12_statement_51 : decode cX12_statement 51 = .ok (.iconst 0, 1) := by decide +kernel
theorem dX12_statement_52 : decode cX12_statement 52 = .ok (.putfield 332, 3) := by decide +kernel
theorem dX12_statement_55 : decode cX12_statement 55 = .ok (.aload_n 0, 1) := by decide +kernel
theorem dX12_statement_56 : decode cX12_statement 56 = .ok (.iconst 0, 1) := by decide +kernel
theorem dX12_statement_57 : decode cX12_statement 57 = .ok (.putfield 342, 3) := by decide +kernel
theorem dX12_statement_60 : decode cX12_statement 60 = .ok (.iconst (-1), 1) := by decide +kernel
theorem dX12_statement_61 : decode cX12_statement 61 = .ok (.istore_n 2, 1) := by decide +kernel
theorem dX12_statement_62 : decode cX12_statement 62 = .ok (.aload_n 0, 1) := by decide +kernel
theorem dX12_statement_63 : decode cX12_statement 63 = .ok (.getfield 90, 3) := by decide +kernel
theorem dX12_statement_66 : decode cX12_statement 66 = .ok (.iload_n 1, 1) := by decide +kernel
theorem dX12_statement_67 : decode cX12_statement 67 = .ok (.aload_n 0, 1) := by decide +kernel
theorem dX12_statement_68 : decode cX12_statement 68 = .ok (.aload_n 0, 1) := by decide +kernel
theorem dX12_statement_69 : decode cX12_statement 69 = .ok (.getfield 17, 3) := by decide +kernel
theorem dX12_statement_72 : decode cX12_statement 72 = .ok (.invokevirtual 312, 3) := by decide +kernel
theorem dX12_statement_75 : decode cX12_statement 75 = .ok (.ifCond .eq 7, 3) := by decide +kernel
theorem dX12_statement_78 : decode cX12_statement 78 = .ok (.iconst 0, 1) := by decide +kernel
theorem dX12_statement_79 : decode cX12_statement 79 = .ok (.goto 79, 3) := by decide +kernel
theorem dX12_statement_82 : decode cX12_statement 82 = .ok (.aload_n 0, 1) := by decide +kernel
theorem dX12_statement_83 : decode cX12_statement 83 = .ok (.aload_n 0, 1) := by decide +kernel
theorem dX12_statement_84 : decode cX12_statement 84 = .ok (.getfield 21, 3) := by decide +kernel
theorem dX12_statement_87 : decode cX12_statement 87 = .ok (.invokevirtual 312, 3) := by decide +kernel
theorem dX12_statement_90 : decode cX12_statement 90 = .ok (.ifCond .eq 7, 3) := by decide +kernel
theorem dX12_statement_93 : decode cX12_statement 93 = .ok (.iconst 1, 1) := by decide +kernel
theorem dX12_statement_94 : decode cX12_statement 94 = .ok (.goto 64, 3) := by decide +kernel
theorem dX12_statement_97 : decode cX12_statement 97 = .ok (.aload_n 0, 1) := by decide +kernel
theorem dX12_statement_98 : decode cX12_statement 98 = .ok (.aload_n 0, 1) := by decide +kernel
theorem dX12_statement_99 : decode cX12_statement 99 = .ok (.getfield 24, 3) := by decide +kernel
theorem dX12_statement_102 : decode cX12_statement 102 = .ok (.invokevirtual 312, 3) := by decide +kernel
theorem dX12_statement_105 : decode cX12_statement 105 = .ok (.ifCond .eq 7, 3) := by decide +kernel
theorem dX12_statement_108 : decode cX12_statement 108 = .ok (.iconst 2, 1) := by decide +kernel
theorem dX12_statement_109 : decode cX12_statement 109 = .ok (.goto 49, 3) := by decide +kernel
theorem dX12_statement_112 : decode cX12_statement 112 = .ok (.aload_n 0, 1) := by decide +kernel
theorem dX12_statement_113 : decode cX12_statement 113 = .ok (.aload_n 0, 1) := by decide +kernel
theorem dX12_statement_114 : decode cX12_statement 114 = .ok (.getfield 27, 3) := by decide +kernel
theorem dX12_statement_117 : decode cX12_statement 117 = .ok (.invokevirtual 312, 3) := by decide +kernel
theorem dX12_statement_120 : decode cX12_statement 120 = .ok (.ifCond .eq 7, 3) := by decide +kernel
theorem dX12_statement_123 : decode cX12_statement 123 = .ok (.iconst 3, 1) := by decide +kernel
theorem dX12_statement_124 : decode cX12_statement 124 = .ok (.goto 34, 3) := by decide +kernel
theorem dX12_statement_127 : decode cX12_statement 127 = .ok (.aload_n 0, 1) := by decide +kernel
theorem dX12_statement_128 : decode cX12_statement 128 = .ok (.aload_n 0, 1) := by decide +kernel
theorem dX12_statement_129 : decode cX12_statement 129 = .ok (.getfield 30, 3) := by decide +kernel
theorem dX12_statement_132 : decode cX12_statement 132 = .ok (.invokevirtual 312, 3) := by decide +kernel
theorem dX12_statement_135 : decode cX12_statement 135 = .ok (.ifCond .eq 7, 3) := by decide +kernel
theorem dX12_statement_138 : decode cX12_statement 138 = .ok (.iconst 4, 1) := by decide +kernel
theorem dX12_statement_139 : decode cX12_statement 139 = .ok (.goto 19, 3) := by decide +kernel
theorem dX12_statement_142 : decode cX12_statement 142 = .ok (.aload_n 0, 1) := by decide +kernel
theorem dX12_statement_143 : decode cX12_statement 143 = .ok (.aload_n 0, 1) := by decide +kernel
theorem dX12_statement_144 : decode cX12_statement 144 = .ok (.getfield 33, 3) := by decide +kernel
theorem dX12_statement_147 : decode cX12_statement 147 = .ok (.invokevirtual 312, 3) := by decide +kernel
theorem dX12_statement_150 : decode cX12_statement 150 = .ok (.ifCond .eq 7, 3) := by decide +kernel
theorem dX12_statement_153 : decode cX12_statement 153 = .ok (.iconst 5, 1) := by decide +kernel
theorem dX12_statement_154 : decode cX12_statement 154 = .ok (.goto 4, 3) := by decide +kernel
theorem dX12_statement_157 : decode cX12_statement 157 = .ok (.iconst (-1), 1) := by decide +kernel
theorem dX12_statement_158 : decode cX12_statement 158 = .ok (.iastore, 1) := by decide +kernel
theorem dX12_statement_159 : decode cX12_statement 159 = .ok (.aload_n 0, 1) := by decide +kernel
theorem dX12_statement_160 : decode cX12_statement 160 = .ok (.getfield 90, 3) := by decide +kernel
theorem dX12_statement_163 : decode cX12_statement 163 = .ok (.iload_n 1, 1) := by decide +kernel
theorem dX12_statement_164 : decode cX12_statement 164 = .ok (.iaload, 1) := by decide +kernel
theorem dX12_statement_165 : decode cX12_statement 165 = .ok (.iconst (-1), 1) := by decide +kernel
theorem dX12_statement_166 : decode cX12_statement 166 = .ok (.if_icmp .ne 15, 3) := by decide +kernel
theorem dX12_statement_169 : decode cX12_statement 169 = .ok (.aload_n 0, 1) := by decide +kernel
theorem dX12_statement_170 : decode cX12_statement 170 = .ok (.iconst 1, 1) := by decide +kernel
theorem dX12_statement_171 : decode cX12_statement 171 = .ok (.aload_n 0, 1) := by decide +kernel
theorem dX12_statement_172 : decode cX12_statement 172 = .ok (.getfield 291, 3) := by decide +kernel
theorem dX12_statement_175 : decode cX12_statement 175 = .ok (.invokevirtual 315, 3) := by decide +kernel
theorem dX12_statement_178 : decode cX12_statement 178 = .ok (.goto 98, 3) := by decide +kernel
theorem dX12_statement_181 : decode cX12_statement 181 = .ok (.aload_n 0, 1) := by decide +kernel
theorem dX12_statement_182 : decode cX12_statement 182 = .ok (.getfield 90, 3) := by decide +kernel
theorem dX12_statement_185 : decode cX12_statement 185 = .ok (.iload_n 1, 1) := by decide +kernel
theorem dX12_statement_186 : decode cX12_statement 186 = .ok (.iaload, 1) := by decide +kernel
theorem dX12_statement_187 : decode cX12_statement 187 = .ok (.iconst 5, 1) := by decide +kernel
theorem dX12_statement_188 : decode cX12_statement 188 = .ok (.if_icmp .ne 67, 3) := by decide +kernel
theorem dX12_statement_191 : decode cX12_statement 191 = .ok (.aload_n 0, 1) := by decide +kernel
theorem dX12_statement_192 : decode cX12_statement 192 = .ok (.aload_n 0, 1) := by decide +kernel
theorem dX12_statement_193 : decode cX12_statement 193 = .ok (.getfield 36, 3) := by decide +kernel
theorem dX12_statement_196 : decode cX12_statement 196 = .ok (.invokevirtual 312, 3) := by decide +kernel
theorem dX12_statement_199 : decode cX12_statement 199 = .ok (.ifCond .eq 7, 3) := by decide +kernel
theorem dX12_statement_202 : decode cX12_statement 202 = .ok (.iconst 0, 1) := by decide +kernel
theorem dX12_statement_203 : decode cX12_statement 203 = .ok (.goto 34, 3) := by decide +kernel
theorem dX12_statement_206 : decode cX12_statement 206 = .ok (.aload_n 0, 1) := by decide +kernel
theorem dX12_statement_207 : decode cX12_statement 207 = .ok (.aload_n 0, 1) := by decide +kernel
theorem dX12_statement_208 : decode cX12_statement 208 = .ok (.getfield 39, 3) := by decide +kernel
theorem dX12_statement_211 : decode cX12_statement 211 = .ok (.invokevirtual 312, 3) := by decide +kernel
theorem dX12_statement_214 : decode cX12_statement 214 = .ok (.ifCond .eq 7, 3) := by decide +kernel
theorem dX12_statement_217 : decode cX12_statement 217 = .ok (.iconst 1, 1) := by decide +kernel
theorem dX12_statement_218 : decode cX12_statement 218 = .ok (.goto 19, 3) := by decide +kernel
theorem dX12_statement_221 : decode cX12_statement 221 = .ok (.aload_n 0, 1) := by decide +kernel
theorem dX12_statement_222 : decode cX12_statement 222 = .ok (.aload_n 0, 1) := by decide +kernel
theorem dX12_statement_223 : decode cX12_statement 223 = .ok (.getfield 42, 3) := by decide +kernel
theorem dX12_statement_226 : decode cX12_statement 226 = .ok (.invokevirtual 312, 3) := by decide +kernel
theorem dX12_statement_229 : decode cX12_statement 229 = .ok (.ifCond .eq 7, 3) := by decide +kernel
theorem dX12_statement_232 : decode cX12_statement 232 = .ok (.iconst 2, 1) := by decide +kernel
theorem dX12_statement_233 : decode cX12_statement 233 = .ok (.goto 4, 3) := by decide +kernel
theorem dX12_statement_236 : decode cX12_statement 236 = .ok (.iconst (-1), 1) := by decide +kernel
theorem dX12_statement_237 : decode cX12_statement 237 = .ok (.istore_n 2, 1) := by decide +kernel
theorem dX12_statement_238 : decode cX12_statement 238 = .ok (.iload_n 2, 1) := by decide +kernel
theorem dX12_statement_239 : decode cX12_statement 239 = .ok (.iconst (-1), 1) := by decide +kernel
theorem dX12_statement_240 : decode cX12_statement 240 = .ok (.if_icmp .ne 36, 3) := by decide +kernel
theorem dX12_statement_243 : decode cX12_statement 243 = .ok (.aload_n 0, 1) := by decide +kernel
theorem dX12_statement_244 : decode cX12_statement 244 = .ok (.iconst 1, 1) := by decide +kernel
theorem dX12_statement_245 : decode cX12_statement 245 = .ok (.aload_n 0, 1) := by decide +kernel
theorem dX12_statement_246 : decode cX12_statement 246 = .ok (.getfield 291, 3) := by decide +kernel
theorem dX12_statement_249 : decode cX12_statement 249 = .ok (.invokevirtual 315, 3) := by decide +kernel
theorem dX12_statement_252 : decode cX12_statement 252 = .ok (.goto 24, 3) := by decide +kernel
theorem dX12_statement_255 : decode cX12_statement 255 = .ok (.aload_n 0, 1) := by decide +kernel
theorem dX12_statement_256 : decode cX12_statement 256 = .ok (.getfield 90, 3) := by decide +kernel
theorem dX12_statement_259 : decode cX12_statement 259 = .ok (.iload_n 1, 1) := by decide +kernel
theorem dX12_statement_260 : decode cX12_statement 260 = .ok (.iaload, 1) := by decide +kernel
theorem dX12_statement_261 : decode cX12_statement 261 = .ok (.iconst 3, 1) := by decide +kernel
theorem dX12_statement_262 : decode cX12_statement 262 = .ok (.if_icmp .ge 10, 3) := by decide +kernel
theorem dX12_statement_265 : decode cX12_statement 265 = .ok (.aload_n 0, 1) := by decide +kernel
theorem dX12_statement_266 : decode cX12_statement 266 = .ok (.invokevirtual 400, 3) := by decide +kernel
theorem dX12_statement_269 : decode cX12_statement 269 = .ok (.goto 7, 3) := by decide +kernel
theorem dX12_statement_272 : decode cX12_statement 272 = .ok (.aload_n 0, 1) := by decide +kernel
theorem dX12_statement_273 : decode cX12_statement 273 = .ok (.invokevirtual 385, 3) := by decide +kernel
theorem dX12_statement_276 : decode cX12_statement 276 = .ok (.aload_n 0, 1) := by decide +kernel
theorem dX12_statement_277 : decode cX12_statement 277 = .ok (.getfield 96, 3) := by decide +kernel
theorem dX12_statement_280 : decode cX12_statement 280 = .ok (.iload_n 1, 1) := by decide +kernel
theorem dX12_statement_281 : decode cX12_statement 281 = .ok (.aload_n 0, 1) := by decide +kernel
theorem dX12_statement_282 : decode cX12_statement 282 = .ok (.getfield 90, 3) := by decide +kernel
theorem dX12_statement_285 : decode cX12_statement 285 = .ok (.iload_n 1, 1) := by decide +kernel
theorem dX12_statement_286 : decode cX12_statement 286 = .ok (.iaload, 1) := by decide +kernel
theorem dX12_statement_287 : decode cX12_statement 287 = .ok (.iconst 5, 1) := by decide +kernel
theorem dX12_statement_288 : decode cX12_statement 288 = .ok (.if_icmp .ne 7, 3) := by decide +kernel
theorem dX12_statement_291 : decode cX12_statement 291 = .ok (.iload_n 2, 1) := by decide +kernel
theorem dX12_statement_292 : decode cX12_statement 292 = .ok (.goto 7, 3) := by decide +kernel
theorem dX12_statement_295 : decode cX12_statement 295 = .ok (.aload_n 0, 1) := by decide +kernel
theorem dX12_statement_296 : decode cX12_statement 296 = .ok (.getfield 329, 3) := by decide +kernel
theorem dX12_statement_299 : decode cX12_statement 299 = .ok (.iastore, 1) := by decide +kernel
theorem dX12_statement_300 : decode cX12_statement 300 = .ok (.aload_n 0, 1) := by decide +kernel
theorem dX12_statement_301 : decode cX12_statement 301 = .ok (.bipush 59, 2) := by decide +kernel
theorem dX12_statement_303 : decode cX12_statement 303 = .ok (.invokevirtual 358, 3) := by decide +kernel
theorem dX12_statement_306 : decode cX12_statement 306 = .ok (.aload_n 0, 1) := by decide +kernel
theorem dX12_statement_307 : decode cX12_statement 307 = .ok (.getfield 87, 3) := by decide +kernel
theorem dX12_statement_310 : decode cX12_statement 310 = .ok (.iconst 0, 1) := by decide +kernel
theorem dX12_statement_311 : decode cX12_statement 311 = .ok (.dup2, 1) := by decide +kernel
theorem dX12_statement_312 : decode cX12_statement 312 = .ok (.iaload, 1) := by decide +kernel
theorem dX12_statement_313 : decode cX12_statement 313 = .ok (.iconst 1, 1) := by decide +kernel
theorem dX12_statement_314 : decode cX12_statement 314 = .ok (.iadd, 1) := by decide +kernel
theorem dX12_statement_315 : decode cX12_statement 315 = .ok (.iastore, 1) := by decide +kernel
theorem dX12_statement_316 : decode cX12_statement 316 = .ok (.return_, 1) := by decide +kernel
theorem dX12_reads_0 : decode cX12_reads 0 = .ok (.aload_n 0, 1) := by decide +kernel
theorem dX12_reads_1 : decode cX12_reads 1 = .ok (.aload_n 0, 1) := by decide +kernel
theorem dX12_reads_2 : decode cX12_reads 2 = .ok (.getfield 282, 3) := by decide +kernel
theorem dX12_reads_5 : decode cX12_reads 5 = .ok (.putfield 294, 3) := by decide +kernel
theorem dX12_reads_8 : decode cX12_reads 8 = .ok (.aload_n 0, 1) := by decide +kernel
theorem dX12_reads_9 : decode cX12_reads 9 = .ok (.iconst 0, 1) := by decide +kernel
theorem dX12_reads_10 : decode cX12_reads 10 = .ok (.putfield 282, 3) := by decide +kernel
theorem dX12_reads_13 : decode cX12_reads 13 = .ok (.aload_n 0, 1) := by decide +kernel
theorem dX12_reads_14 : decode cX12_reads 14 = .ok (.iconst 0, 1) := by decide +kernel
theorem dX12_reads_15 : decode cX12_reads 15 = .ok (.putfield 291, 3) := by decide +kernel
theorem dX12_reads_18 : decode cX12_reads 18 = .ok (.aload_n 0, 1) := by decide +kernel
theorem dX12_reads_19 : decode cX12_reads 19 = .ok (.iconst (-1), 1) := by decide +kernel
theorem dX12_reads_20 : decode cX12_reads 20 = .ok (.putfield 305, 3) := by decide +kernel
theorem dX12_reads_23 : decode cX12_reads 23 = .ok (.aload_n 0, 1) := by decide +kernel
theorem dX12_reads_24 : decode cX12_reads 24 = .ok (.iconst 0, 1) := by decide +kernel
theorem dX12_reads_25 : decode cX12_reads 25 = .ok (.putfield 285, 3) := by decide +kernel
theorem dX12_reads_28 : decode cX12_reads 28 = .ok (.aload_n 0, 1) := by decide +kernel
theorem dX12_reads_29 : decode cX12_reads 29 = .ok (.iconst (-1), 1) := by decide +kernel
theorem dX12_reads_30 : decode cX12_reads 30 = .ok (.putfield 288, 3) := by decide +kernel
theorem dX12_reads_33 : decode cX12_reads 33 = .ok (.aload_n 0, 1) := by decide +kernel
theorem dX12_reads_34 : decode cX12_reads 34 = .ok (.getfield 87, 3) := by decide +kernel
theorem dX12_reads_37 : decode cX12_reads 37 = .ok (.iconst 0, 1) := by decide +kernel
theorem dX12_reads_38 : decode cX12_reads 38 = .ok (.iconst 0, 1) := by decide +kernel
theorem dX12_reads_39 : decode cX12_reads 39 = .ok (.iastore, 1) := by decide +kernel
theorem dX12_reads_40 : decode cX12_reads 40 = .ok (.aload_n 0, 1) := by decide +kernel
theorem dX12_reads_41 : decode cX12_reads 41 = .ok (.iconst 0, 1) := by decide +kernel
theorem dX12_reads_42 : decode cX12_reads 42 = .ok (.putfield 329, 3) := by decide +kernel
theorem dX12_reads_45 : decode cX12_reads 45 = .ok (.aload_n 0, 1) := by decide +kernel
theorem dX12_reads_46 : decode cX12_reads 46 = .ok (.getfield 285, 3) := by decide +kernel
theorem dX12_reads_49 : decode cX12_reads 49 = .ok (.ifCond .ne 18, 3) := by decide +kernel
theorem dX12_reads_52 : decode cX12_reads 52 = .ok (.aload_n 0, 1) := by decide +kernel
theorem dX12_reads_53 : decode cX12_reads 53 = .ok (.invokevirtual 297, 3) := by decide +kernel
theorem dX12_reads_56 : decode cX12_reads 56 = .ok (.iconst (-1), 1) := by decide +kernel
theorem dX12_reads_57 : decode cX12_reads 57 = .ok (.if_icmp .eq 10, 3) := by decide +kernel
theorem dX12_reads_60 : decode cX12_reads 60 = .ok (.aload_n 0, 1) := by decide +kernel
theorem dX12_reads_61 : decode cX12_reads 61 = .ok (.invokevirtual 403, 3) := by decide +kernel
theorem dX12_reads_64 : decode cX12_reads 64 = .ok (.goto (-19), 3) := by decide +kernel
theorem dX12_reads_67 : decode cX12_reads 67 = .ok (.aload_n 0, 1) := by decide +kernel
theorem dX12_reads_68 : decode cX12_reads 68 = .ok (.aload_n 0, 1) := by decide +kernel
theorem dX12_reads_69 : decode cX12_reads 69 = .ok (.getfield 285, 3) := by decide +kernel
theorem dX12_reads_72 : decode cX12_reads 72 = .ok (.putfield 406, 3) := by decide +kernel
theorem dX12_reads_75 : decode cX12_reads 75 = .ok (.aload_n 0, 1) := by decide +kernel
theorem dX12_reads_76 : decode cX12_reads 76 = .ok (.aload_n 0, 1) := by decide +kernel
theorem dX12_reads_77 : decode cX12_reads 77 = .ok (.getfield 288, 3) := by decide +kernel
theorem dX12_reads_80 : decode cX12_reads 80 = .ok (.putfield 13, 3) := by decide +kernel
theorem dX12_reads_83 : decode cX12_reads 83 = .ok (.aload_n 0, 1) := by decide +kernel
theorem dX12_reads_84 : decode cX12_reads 84 = .ok (.getfield 285, 3) := by decide +kernel
theorem dX12_reads_87 : decode cX12_reads 87 = .ok (.ifCond .ne 7, 3) := by decide +kernel
theorem dX12_reads_90 : decode cX12_reads 90 = .ok (.iconst 1, 1) := by decide +kernel
theorem dX12_reads_91 : decode cX12_reads 91 = .ok (.goto 4, 3) := by decide +kernel
theorem dX12_reads_94 : decode cX12_reads 94 = .ok (.iconst 0, 1) := by decide +kernel
theorem dX12_reads_95 : decode cX12_reads 95 = .ok (.ireturn, 1) := by decide +kernel
theorem dX12_copies_0 : decode cX12_copies 0 = .ok (.aload_n 0, 1) := by decide +kernel
theorem dX12_copies_1 : decode cX12_copies 1 = .ok (.getfield 87, 3) := by decide +kernel
theorem dX12_copies_4 : decode cX12_copies 4 = .ok (.iload_n 1, 1) := by decide +kernel
theorem dX12_copies_5 : decode cX12_copies 5 = .ok (.aload_n 0, 1) := by decide +kernel
theorem dX12_copies_6 : decode cX12_copies 6 = .ok (.getfield 87, 3) := by decide +kernel
theorem dX12_copies_9 : decode cX12_copies 9 = .ok (.iconst 0, 1) := by decide +kernel
theorem dX12_copies_10 : decode cX12_copies 10 = .ok (.iaload, 1) := by decide +kernel
theorem dX12_copies_11 : decode cX12_copies 11 = .ok (.iastore, 1) := by decide +kernel
theorem dX12_copies_12 : decode cX12_copies 12 = .ok (.iconst 0, 1) := by decide +kernel
theorem dX12_copies_13 : decode cX12_copies 13 = .ok (.istore_n 2, 1) := by decide +kernel
theorem dX12_copies_14 : decode cX12_copies 14 = .ok (.iload_n 2, 1) := by decide +kernel
theorem dX12_copies_15 : decode cX12_copies 15 = .ok (.aload_n 0, 1) := by decide +kernel
theorem dX12_copies_16 : decode cX12_copies 16 = .ok (.getfield 87, 3) := by decide +kernel
theorem dX12_copies_19 : decode cX12_copies 19 = .ok (.iconst 0, 1) := by decide +kernel
theorem dX12_copies_20 : decode cX12_copies 20 = .ok (.iaload, 1) := by decide +kernel
theorem dX12_copies_21 : decode cX12_copies 21 = .ok (.if_icmp .ge 66, 3) := by decide +kernel
theorem dX12_copies_24 : decode cX12_copies 24 = .ok (.aload_n 0, 1) := by decide +kernel
theorem dX12_copies_25 : decode cX12_copies 25 = .ok (.getfield 90, 3) := by decide +kernel
theorem dX12_copies_28 : decode cX12_copies 28 = .ok (.bipush 24, 2) := by decide +kernel
theorem dX12_copies_30 : decode cX12_copies 30 = .ok (.iload_n 1, 1) := by decide +kernel
theorem dX12_copies_31 : decode cX12_copies 31 = .ok (.imul, 1) := by decide +kernel
theorem dX12_copies_32 : decode cX12_copies 32 = .ok (.iload_n 2, 1) := by decide +kernel
theorem dX12_copies_33 : decode cX12_copies 33 = .ok (.iadd, 1) := by decide +kernel
theorem dX12_copies_34 : decode cX12_copies 34 = .ok (.aload_n 0, 1) := by decide +kernel
theorem dX12_copies_35 : decode cX12_copies 35 = .ok (.getfield 90, 3) := by decide +kernel
theorem dX12_copies_38 : decode cX12_copies 38 = .ok (.iconst 0, 1) := by decide +kernel
theorem dX12_copies_39 : decode cX12_copies 39 = .ok (.iload_n 2, 1) := by decide +kernel
theorem dX12_copies_40 : decode cX12_copies 40 = .ok (.iadd, 1) := by decide +kernel
theorem dX12_copies_41 : decode cX12_copies 41 = .ok (.iaload, 1) := by decide +kernel
theorem dX12_copies_42 : decode cX12_copies 42 = .ok (.iastore, 1) := by decide +kernel
theorem dX12_copies_43 : decode cX12_copies 43 = .ok (.aload_n 0, 1) := by decide +kernel
theorem dX12_copies_44 : decode cX12_copies 44 = .ok (.getfield 93, 3) := by decide +kernel
theorem dX12_copies_47 : decode cX12_copies 47 = .ok (.bipush 24, 2) := by decide +kernel
theorem dX12_copies_49 : decode cX12_copies 49 = .ok (.iload_n 1, 1) := by decide +kernel
theorem dX12_copies_50 : decode cX12_copies 50 = .ok (.imul, 1) := by decide +kernel
theorem dX12_copies_51 : decode cX12_copies 51 = .ok (.iload_n 2, 1) := by decide +kernel
theorem dX12_copies_52 : decode cX12_copies 52 = .ok (.iadd, 1) := by decide +kernel
theorem dX12_copies_53 : decode cX12_copies 53 = .ok (.aload_n 0, 1) := by decide +kernel
theorem dX12_copies_54 : decode cX12_copies 54 = .ok (.getfield 93, 3) := by decide +kernel
theorem dX12_copies_57 : decode cX12_copies 57 = .ok (.iconst 0, 1) := by decide +kernel
theorem dX12_copies_58 : decode cX12_copies 58 = .ok (.iload_n 2, 1) := by decide +kernel
theorem dX12_copies_59 : decode cX12_copies 59 = .ok (.iadd, 1) := by decide +kernel
theorem dX12_copies_60 : decode cX12_copies 60 = .ok (.iaload, 1) := by decide +kernel
theorem dX12_copies_61 : decode cX12_copies 61 = .ok (.iastore, 1) := by decide +kernel
theorem dX12_copies_62 : decode cX12_copies 62 = .ok (.aload_n 0, 1) := by decide +kernel
theorem dX12_copies_63 : decode cX12_copies 63 = .ok (.getfield 96, 3) := by decide +kernel
theorem dX12_copies_66 : decode cX12_copies 66 = .ok (.bipush 24, 2) := by decide +kernel
theorem dX12_copies_68 : decode cX12_copies 68 = .ok (.iload_n 1, 1) := by decide +kernel
theorem dX12_copies_69 : decode cX12_copies 69 = .ok (.imul, 1) := by decide +kernel
theorem dX12_copies_70 : decode cX12_copies 70 = .ok (.iload_n 2, 1) := by decide +kernel
theorem dX12_copies_71 : decode cX12_copies 71 = .ok (.iadd, 1) := by decide +kernel
theorem dX12_copies_72 : decode cX12_copies 72 = .ok (.aload_n 0, 1) := by decide +kernel
theorem dX12_copies_73 : decode cX12_copies 73 = .ok (.getfield 96, 3) := by decide +kernel
theorem dX12_copies_76 : decode cX12_copies 76 = .ok (.iconst 0, 1) := by decide +kernel
theorem dX12_copies_77 : decode cX12_copies 77 = .ok (.iload_n 2, 1) := by decide +kernel
theorem dX12_copies_78 : decode cX12_copies 78 = .ok (.iadd, 1) := by decide +kernel
theorem dX12_copies_79 : decode cX12_copies 79 = .ok (.iaload, 1) := by decide +kernel
theorem dX12_copies_80 : decode cX12_copies 80 = .ok (.iastore, 1) := by decide +kernel
theorem dX12_copies_81 : decode cX12_copies 81 = .ok (.iinc 2 1, 3) := by decide +kernel
theorem dX12_copies_84 : decode cX12_copies 84 = .ok (.goto (-70), 3) := by decide +kernel
theorem dX12_copies_87 : decode cX12_copies 87 = .ok (.iconst 0, 1) := by decide +kernel
theorem dX12_copies_88 : decode cX12_copies 88 = .ok (.istore_n 2, 1) := by decide +kernel
theorem dX12_copies_89 : decode cX12_copies 89 = .ok (.iload_n 2, 1) := by decide +kernel
theorem dX12_copies_90 : decode cX12_copies 90 = .ok (.aload_n 0, 1) := by decide +kernel
theorem dX12_copies_91 : decode cX12_copies 91 = .ok (.getfield 329, 3) := by decide +kernel
theorem dX12_copies_94 : decode cX12_copies 94 = .ok (.if_icmp .ge 29, 3) := by decide +kernel
theorem dX12_copies_97 : decode cX12_copies 97 = .ok (.aload_n 0, 1) := by decide +kernel
theorem dX12_copies_98 : decode cX12_copies 98 = .ok (.getfield 100, 3) := by decide +kernel
theorem dX12_copies_101 : decode cX12_copies 101 = .ok (.sipush 640, 3) := by decide +kernel
theorem dX12_copies_104 : decode cX12_copies 104 = .ok (.iload_n 1, 1) := by decide +kernel
theorem dX12_copies_105 : decode cX12_copies 105 = .ok (.imul, 1) := by decide +kernel
theorem dX12_copies_106 : decode cX12_copies 106 = .ok (.iload_n 2, 1) := by decide +kernel
theorem dX12_copies_107 : decode cX12_copies 107 = .ok (.iadd, 1) := by decide +kernel
theorem dX12_copies_108 : decode cX12_copies 108 = .ok (.aload_n 0, 1) := by decide +kernel
theorem dX12_copies_109 : decode cX12_copies 109 = .ok (.getfield 100, 3) := by decide +kernel
theorem dX12_copies_112 : decode cX12_copies 112 = .ok (.iconst 0, 1) := by decide +kernel
theorem dX12_copies_113 : decode cX12_copies 113 = .ok (.iload_n 2, 1) := by decide +kernel
theorem dX12_copies_114 : decode cX12_copies 114 = .ok (.iadd, 1) := by decide +kernel
theorem dX12_copies_115 : decode cX12_copies 115 = .ok (.iaload, 1) := by decide +kernel
theorem dX12_copies_116 : decode cX12_copies 116 = .ok (.iastore, 1) := by decide +kernel
theorem dX12_copies_117 : decode cX12_copies 117 = .ok (.iinc 2 1, 3) := by decide +kernel
theorem dX12_copies_120 : decode cX12_copies 120 = .ok (.goto (-31), 3) := by decide +kernel
theorem dX12_copies_123 : decode cX12_copies 123 = .ok (.return_, 1) := by decide +kernel
theorem dX12_cells_0 : decode cX12_cells 0 = .ok (.aload_n 0, 1) := by decide +kernel
theorem dX12_cells_1 : decode cX12_cells 1 = .ok (.getfield 106, 3) := by decide +kernel
theorem dX12_cells_4 : decode cX12_cells 4 = .ok (.aload_n 0, 1) := by decide +kernel
theorem dX12_cells_5 : decode cX12_cells 5 = .ok (.getfield 109, 3) := by decide +kernel
theorem dX12_cells_8 : decode cX12_cells 8 = .ok (.imul, 1) := by decide +kernel
theorem dX12_cells_9 : decode cX12_cells 9 = .ok (.ireturn, 1) := by decide +kernel
theorem dX12_isCell_0 : decode cX12_isCell 0 = .ok (.iload_n 1, 1) := by decide +kernel
theorem dX12_isCell_1 : decode cX12_isCell 1 = .ok (.i2l, 1) := by decide +kernel
theorem dX12_isCell_2 : decode cX12_isCell 2 = .ok (.lconst 0, 1) := by decide +kernel
theorem dX12_isCell_3 : decode cX12_isCell 3 = .ok (.aload_n 0, 1) := by decide +kernel
theorem dX12_isCell_4 : decode cX12_isCell 4 = .ok (.invokevirtual 409, 3) := by decide +kernel
theorem dX12_isCell_7 : decode cX12_isCell 7 = .ok (.iconst 1, 1) := by decide +kernel
theorem dX12_isCell_8 : decode cX12_isCell 8 = .ok (.isub, 1) := by decide +kernel
theorem dX12_isCell_9 : decode cX12_isCell 9 = .ok (.i2l, 1) := by decide +kernel
theorem dX12_isCell_10 : decode cX12_isCell 10 = .ok (.invokestatic 325, 3) := by decide +kernel
theorem dX12_isCell_13 : decode cX12_isCell 13 = .ok (.ireturn, 1) := by decide +kernel
theorem dX12_hasHouse_0 : decode cX12_hasHouse 0 = .ok (.aload_n 0, 1) := by decide +kernel
theorem dX12_hasHouse_1 : decode cX12_hasHouse 1 = .ok (.iload_n 1, 1) := by decide +kernel
theorem dX12_hasHouse_2 : decode cX12_hasHouse 2 = .ok (.invokevirtual 412, 3) := by decide +kernel
theorem dX12_hasHouse_5 : decode cX12_hasHouse 5 = .ok (.ifCond .eq 16, 3) := by decide +kernel
theorem dX12_hasHouse_8 : decode cX12_hasHouse 8 = .ok (.aload_n 0, 1) := by decide +kernel
theorem dX12_hasHouse_9 : decode cX12_hasHouse 9 = .ok (.getfield 121, 3) := by decide +kernel
theorem dX12_hasHouse_12 : decode cX12_hasHouse 12 = .ok (.iload_n 1, 1) := by decide +kernel
theorem dX12_hasHouse_13 : decode cX12_hasHouse 13 = .ok (.baload, 1) := by decide +kernel
theorem dX12_hasHouse_14 : decode cX12_hasHouse 14 = .ok (.ifCond .eq 7, 3) := by decide +kernel
theorem dX12_hasHouse_17 : decode cX12_hasHouse 17 = .ok (.iconst 1, 1) := by decide +kernel
theorem dX12_hasHouse_18 : decode cX12_hasHouse 18 = .ok (.goto 4, 3) := by decide +kernel
theorem dX12_hasHouse_21 : decode cX12_hasHouse 21 = .ok (.iconst 0, 1) := by decide +kernel
theorem dX12_hasHouse_22 : decode cX12_hasHouse 22 = .ok (.ireturn, 1) := by decide +kernel
theorem dX12_isOffice_0 : decode cX12_isOffice 0 = .ok (.iload_n 0, 1) := by decide +kernel
theorem dX12_isOffice_1 : decode cX12_isOffice 1 = .ok (.i2l, 1) := by decide +kernel
theorem dX12_isOffice_2 : decode cX12_isOffice 2 = .ok (.lconst 0, 1) := by decide +kernel
theorem dX12_isOffice_3 : decode cX12_isOffice 3 = .ok (.ldc2_w 415, 3) := by decide +kernel
theorem dX12_isOffice_6 : decode cX12_isOffice 6 = .ok (.invokestatic 325, 3) := by decide +kernel
theorem dX12_isOffice_9 : decode cX12_isOffice 9 = .ok (.ireturn, 1) := by decide +kernel
theorem dX12_city_0 : decode cX12_city 0 = .ok (.iload_n 1, 1) := by decide +kernel
theorem dX12_city_1 : decode cX12_city 1 = .ok (.i2l, 1) := by decide +kernel
theorem dX12_city_2 : decode cX12_city 2 = .ok (.lconst 1, 1) := by decide +kernel
theorem dX12_city_3 : decode cX12_city 3 = .ok (.ldc2_w 417, 3) := by decide +kernel
theorem dX12_city_6 : decode cX12_city 6 = .ok (.invokestatic 325, 3) := by decide +kernel
theorem dX12_city_9 : decode cX12_city 9 = .ok (.ifCond .eq 15, 3) := by decide +kernel
theorem dX12_city_12 : decode cX12_city 12 = .ok (.iload_n 2, 1) := by decide +kernel
theorem dX12_city_13 : decode cX12_city 13 = .ok (.i2l, 1) := by decide +kernel
theorem dX12_city_14 : decode cX12_city 14 = .ok (.lconst 1, 1) := by decide +kernel
theorem dX12_city_15 : decode cX12_city 15 = .ok (.ldc2_w 419, 3) := by decide +kernel
theorem dX12_city_18 : decode cX12_city 18 = .ok (.invokestatic 325, 3) := by decide +kernel
theorem dX12_city_21 : decode cX12_city 21 = .ok (.ifCond .ne 5, 3) := by decide +kernel
theorem dX12_city_24 : decode cX12_city 24 = .ok (.iconst 0, 1) := by decide +kernel
theorem dX12_city_25 : decode cX12_city 25 = .ok (.ireturn, 1) := by decide +kernel
theorem dX12_city_26 : decode cX12_city 26 = .ok (.aload_n 0, 1) := by decide +kernel
theorem dX12_city_27 : decode cX12_city 27 = .ok (.iload_n 1, 1) := by decide +kernel
theorem dX12_city_28 : decode cX12_city 28 = .ok (.putfield 106, 3) := by decide +kernel
theorem dX12_city_31 : decode cX12_city 31 = .ok (.aload_n 0, 1) := by decide +kernel
theorem dX12_city_32 : decode cX12_city 32 = .ok (.iload_n 2, 1) := by decide +kernel
theorem dX12_city_33 : decode cX12_city 33 = .ok (.putfield 109, 3) := by decide +kernel
theorem dX12_city_36 : decode cX12_city 36 = .ok (.iconst 0, 1) := by decide +kernel
theorem dX12_city_37 : decode cX12_city 37 = .ok (.istore_n 3, 1) := by decide +kernel
theorem dX12_city_38 : decode cX12_city 38 = .ok (.iload_n 3, 1) := by decide +kernel
theorem dX12_city_39 : decode cX12_city 39 = .ok (.bipush 120, 2) := by decide +kernel
theorem dX12_city_41 : decode cX12_city 41 = .ok (.if_icmp .ge 23, 3) := by decide +kernel
theorem dX12_city_44 : decode cX12_city 44 = .ok (.aload_n 0, 1) := by decide +kernel
theorem dX12_city_45 : decode cX12_city 45 = .ok (.getfield 121, 3) := by decide +kernel
theorem dX12_city_48 : decode cX12_city 48 = .ok (.iload_n 3, 1) := by decide +kernel
theorem dX12_city_49 : decode cX12_city 49 = .ok (.iconst 0, 1) := by decide +kernel
theorem dX12_city_50 : decode cX12_city 50 = .ok (.bastore, 1) := by decide +kernel
theorem dX12_city_51 : decode cX12_city 51 = .ok (.aload_n 0, 1) := by decide +kernel
theorem dX12_city_52 : decode cX12_city 52 = .ok (.getfield 125, 3) := by decide +kernel
theorem dX12_city_55 : decode cX12_city 55 = .ok (.iload_n 3, 1) := by decide +kernel
theorem dX12_city_56 : decode cX12_city 56 = .ok (.iconst 0, 1) := by decide +kernel
theorem dX12_city_57 : decode cX12_city 57 = .ok (.bastore, 1) := by decide +kernel
theorem dX12_city_58 : decode cX12_city 58 = .ok (.iinc 3 1, 3) := by decide +kernel
theorem dX12_city_61 : decode cX12_city 61 = .ok (.goto (-23), 3) := by decide +kernel
theorem dX12_city_64 : decode cX12_city 64 = .ok (.iconst 0, 1) := by decide +kernel
theorem dX12_city_65 : decode cX12_city 65 = .ok (.istore_n 3, 1) := by decide +kernel
theorem dX12_city_66 : decode cX12_city 66 = .ok (.iload_n 3, 1) := by decide +kernel
theorem dX12_city_67 : decode cX12_city 67 = .ok (.bipush 120, 2) := by decide +kernel
theorem dX12_city_69 : decode cX12_city 69 = .ok (.if_icmp .gt 16, 3) := by decide +kernel
theorem dX12_city_72 : decode cX12_city 72 = .ok (.aload_n 0, 1) := by decide +kernel
theorem dX12_city_73 : decode cX12_city 73 = .ok (.getfield 137, 3) := by decide +kernel
theorem dX12_city_76 : decode cX12_city 76 = .ok (.iload_n 3, 1) := by decide +kernel
theorem dX12_city_77 : decode cX12_city 77 = .ok (.iconst 0, 1) := by decide +kernel
theorem dX12_city_78 : decode cX12_city 78 = .ok (.bastore, 1) := by decide +kernel
theorem dX12_city_79 : decode cX12_city 79 = .ok (.iinc 3 1, 3) := by decide +kernel
theorem dX12_city_82 : decode cX12_city 82 = .ok (.goto (-16), 3) := by decide +kernel
theorem dX12_city_85 : decode cX12_city 85 = .ok (.iconst 0, 1) := by decide +kernel
theorem dX12_city_86 : decode cX12_city 86 = .ok (.istore_n 3, 1) := by decide +kernel
theorem dX12_city_87 : decode cX12_city 87 = .ok (.iload_n 3, 1) := by decide +kernel
theorem dX12_city_88 : decode cX12_city 88 = .ok (.bipush 81, 2) := by decide +kernel
theorem dX12_city_90 : decode cX12_city 90 = .ok (.if_icmp .ge 16, 3) := by decide +kernel
theorem dX12_city_93 : decode cX12_city 93 = .ok (.aload_n 0, 1) := by decide +kernel
theorem dX12_city_94 : decode cX12_city 94 = .ok (.getfield 155, 3) := by decide +kernel
theorem dX12_city_97 : decode cX12_city 97 = .ok (.iload_n 3, 1) := by decide +kernel
theorem dX12_city_98 : decode cX12_city 98 = .ok (.iconst 0, 1) := by decide +kernel
theorem dX12_city_99 : decode cX12_city 99 = .ok (.iastore, 1) := by decide +kernel
theorem dX12_city_100 : decode cX12_city 100 = .ok (.iinc 3 1, 3) := by decide +kernel
theorem dX12_city_103 : decode cX12_city 103 = .ok (.goto (-16), 3) := by decide +kernel
theorem dX12_city_106 : decode cX12_city 106 = .ok (.aload_n 0, 1) := by decide +kernel
theorem dX12_city_107 : decode cX12_city 107 = .ok (.iconst 0, 1) := by decide +kernel
theorem dX12_city_108 : decode cX12_city 108 = .ok (.putfield 421, 3) := by decide +kernel
theorem dX12_city_111 : decode cX12_city 111 = .ok (.aload_n 0, 1) := by decide +kernel
theorem dX12_city_112 : decode cX12_city 112 = .ok (.iconst 0, 1) := by decide +kernel
theorem dX12_city_113 : decode cX12_city 113 = .ok (.putfield 424, 3) := by decide +kernel
theorem dX12_city_116 : decode cX12_city 116 = .ok (.aload_n 0, 1) := by decide +kernel
theorem dX12_city_117 : decode cX12_city 117 = .ok (.iconst (-1), 1) := by decide +kernel
theorem dX12_city_118 : decode cX12_city 118 = .ok (.putfield 176, 3) := by decide +kernel
theorem dX12_city_121 : decode cX12_city 121 = .ok (.aload_n 0, 1) := by decide +kernel
theorem dX12_city_122 : decode cX12_city 122 = .ok (.iconst 0, 1) := by decide +kernel
theorem dX12_city_123 : decode cX12_city 123 = .ok (.putfield 427, 3) := by decide +kernel
theorem dX12_city_126 : decode cX12_city 126 = .ok (.aload_n 0, 1) := by decide +kernel
theorem dX12_city_127 : decode cX12_city 127 = .ok (.iconst 0, 1) := by decide +kernel
theorem dX12_city_128 : decode cX12_city 128 = .ok (.putfield 430, 3) := by decide +kernel
theorem dX12_city_131 : decode cX12_city 131 = .ok (.aload_n 0, 1) := by decide +kernel
theorem dX12_city_132 : decode cX12_city 132 = .ok (.iconst 0, 1) := by decide +kernel
theorem dX12_city_133 : decode cX12_city 133 = .ok (.putfield 434, 3) := by decide +kernel
theorem dX12_city_136 : decode cX12_city 136 = .ok (.iconst 1, 1) := by decide +kernel
theorem dX12_city_137 : decode cX12_city 137 = .ok (.ireturn, 1) := by decide +kernel
theorem dX12_house_0 : decode cX12_house 0 = .ok (.aload_n 0, 1) := by decide +kernel
theorem dX12_house_1 : decode cX12_house 1 = .ok (.iload_n 1, 1) := by decide +kernel
theorem dX12_house_2 : decode cX12_house 2 = .ok (.invokevirtual 412, 3) := by decide +kernel
theorem dX12_house_5 : decode cX12_house 5 = .ok (.ifCond .eq 40, 3) := by decide +kernel
theorem dX12_house_8 : decode cX12_house 8 = .ok (.iload_n 2, 1) := by decide +kernel
theorem dX12_house_9 : decode cX12_house 9 = .ok (.i2l, 1) := by decide +kernel
theorem dX12_house_10 : decode cX12_house 10 = .ok (.lconst 0, 1) := by decide +kernel
theorem dX12_house_11 : decode cX12_house 11 = .ok (.ldc2_w 437, 3) := by decide +kernel
theorem dX12_house_14 : decode cX12_house 14 = .ok (.invokestatic 325, 3) := by decide +kernel
theorem dX12_house_17 : decode cX12_house 17 = .ok (.ifCond .eq 28, 3) := by decide +kernel
theorem dX12_house_20 : decode cX12_house 20 = .ok (.iload_n 3, 1) := by decide +kernel
theorem dX12_house_21 : decode cX12_house 21 = .ok (.i2l, 1) := by decide +kernel
theorem dX12_house_22 : decode cX12_house 22 = .ok (.lconst 0, 1) := by decide +kernel
theorem dX12_house_23 : decode cX12_house 23 = .ok (.ldc2_w 439, 3) := by decide +kernel
theorem dX12_house_26 : decode cX12_house 26 = .ok (.invokestatic 325, 3) := by decide +kernel
theorem dX12_house_29 : decode cX12_house 29 = .ok (.ifCond .eq 16, 3) := by decide +kernel
theorem dX12_house_32 : decode cX12_house 32 = .ok (.iload 4, 2) := by decide +kernel
theorem dX12_house_34 : decode cX12_house 34 = .ok (.i2l, 1) := by decide +kernel
theorem dX12_house_35 : decode cX12_house 35 = .ok (.lconst 0, 1) := by decide +kernel
theorem dX12_house_36 : decode cX12_house 36 = .ok (.ldc2_w 441, 3) := by decide +kernel
theorem dX12_house_39 : decode cX12_house 39 = .ok (.invokestatic 325, 3) := by decide +kernel
theorem dX12_house_42 : decode cX12_house 42 = .ok (.ifCond .ne 5, 3) := by decide +kernel
theorem dX12_house_45 : decode cX12_house 45 = .ok (.iconst 0, 1) := by decide +kernel
theorem dX12_house_46 : decode cX12_house 46 = .ok (.ireturn, 1) := by decide +kernel
theorem dX12_house_47 : decode cX12_house 47 = .ok (.aload_n 0, 1) := by decide +kernel
theorem dX12_house_48 : decode cX12_house 48 = .ok (.getfield 121, 3) := by decide +kernel
theorem dX12_house_51 : decode cX12_house 51 = .ok (.iload_n 1, 1) := by decide +kernel
theorem dX12_house_52 : decode cX12_house 52 = .ok (.iconst 1, 1) := by decide +kernel
theorem dX12_house_53 : decode cX12_house 53 = .ok (.bastore, 1) := by decide +kernel
theorem dX12_house_54 : decode cX12_house 54 = .ok (.aload_n 0, 1) := by decide +kernel
theorem dX12_house_55 : decode cX12_house 55 = .ok (.getfield 112, 3) := by decide +kernel
theorem dX12_house_58 : decode cX12_house 58 = .ok (.iload_n 1, 1) := by decide +kernel
theorem dX12_house_59 : decode cX12_house 59 = .ok (.iload_n 2, 1) := by decide +kernel
theorem dX12_house_60 : decode cX12_house 60 = .ok (.iastore, 1) := by decide +kernel
theorem dX12_house_61 : decode cX12_house 61 = .ok (.aload_n 0, 1) := by decide +kernel
theorem dX12_house_62 : decode cX12_house 62 = .ok (.getfield 115, 3) := by decide +kernel
theorem dX12_house_65 : decode cX12_house 65 = .ok (.iload_n 1, 1) := by decide +kernel
theorem dX12_house_66 : decode cX12_house 66 = .ok (.iload_n 3, 1) := by decide +kernel
theorem dX12_house_67 : decode cX12_house 67 = .ok (.iastore, 1) := by decide +kernel
theorem dX12_house_68 : decode cX12_house 68 = .ok (.aload_n 0, 1) := by decide +kernel
theorem dX12_house_69 : decode cX12_house 69 = .ok (.getfield 118, 3) := by decide +kernel
theorem dX12_house_72 : decode cX12_house 72 = .ok (.iload_n 1, 1) := by decide +kernel
theorem dX12_house_73 : decode cX12_house 73 = .ok (.iload 4, 2) := by decide +kernel
theorem dX12_house_75 : decode cX12_house 75 = .ok (.iastore, 1) := by decide +kernel
theorem dX12_house_76 : decode cX12_house 76 = .ok (.iconst 1, 1) := by decide +kernel
theorem dX12_house_77 : decode cX12_house 77 = .ok (.ireturn, 1) := by decide +kernel
theorem dX12_plug_0 : decode cX12_plug 0 = .ok (.aload_n 0, 1) := by decide +kernel
theorem dX12_plug_1 : decode cX12_plug 1 = .ok (.iload_n 1, 1) := by decide +kernel
theorem dX12_plug_2 : decode cX12_plug 2 = .ok (.invokevirtual 412, 3) := by decide +kernel
theorem dX12_plug_5 : decode cX12_plug 5 = .ok (.ifCond .ne 5, 3) := by decide +kernel
theorem dX12_plug_8 : decode cX12_plug 8 = .ok (.iconst 0, 1) := by decide +kernel
theorem dX12_plug_9 : decode cX12_plug 9 = .ok (.ireturn, 1) := by decide +kernel
theorem dX12_plug_10 : decode cX12_plug 10 = .ok (.aload_n 0, 1) := by decide +kernel
theorem dX12_plug_11 : decode cX12_plug 11 = .ok (.getfield 125, 3) := by decide +kernel
theorem dX12_plug_14 : decode cX12_plug 14 = .ok (.iload_n 1, 1) := by decide +kernel
theorem dX12_plug_15 : decode cX12_plug 15 = .ok (.iload_n 2, 1) := by decide +kernel
theorem dX12_plug_16 : decode cX12_plug 16 = .ok (.bastore, 1) := by decide +kernel
theorem dX12_plug_17 : decode cX12_plug 17 = .ok (.iconst 1, 1) := by decide +kernel
theorem dX12_plug_18 : decode cX12_plug 18 = .ok (.ireturn, 1) := by decide +kernel
theorem dX12_hazard_0 : decode cX12_hazard 0 = .ok (.iload_n 1, 1) := by decide +kernel
theorem dX12_hazard_1 : decode cX12_hazard 1 = .ok (.i2l, 1) := by decide +kernel
theorem dX12_hazard_2 : decode cX12_hazard 2 = .ok (.lconst 0, 1) := by decide +kernel
theorem dX12_hazard_3 : decode cX12_hazard 3 = .ok (.ldc2_w 439, 3) := by decide +kernel
theorem dX12_hazard_6 : decode cX12_hazard 6 = .ok (.invokestatic 325, 3) := by decide +kernel
theorem dX12_hazard_9 : decode cX12_hazard 9 = .ok (.ifCond .eq 15, 3) := by decide +kernel
theorem dX12_hazard_12 : decode cX12_hazard 12 = .ok (.iload_n 2, 1) := by decide +kernel
theorem dX12_hazard_13 : decode cX12_hazard 13 = .ok (.i2l, 1) := by decide +kernel
theorem dX12_hazard_14 : decode cX12_hazard 14 = .ok (.lconst 0, 1) := by decide +kernel
theorem dX12_hazard_15 : decode cX12_hazard 15 = .ok (.ldc2_w 443, 3) := by decide +kernel
theorem dX12_hazard_18 : decode cX12_hazard 18 = .ok (.invokestatic 325, 3) := by decide +kernel
theorem dX12_hazard_21 : decode cX12_hazard 21 = .ok (.ifCond .ne 5, 3) := by decide +kernel
theorem dX12_hazard_24 : decode cX12_hazard 24 = .ok (.iconst 0, 1) := by decide +kernel
theorem dX12_hazard_25 : decode cX12_hazard 25 = .ok (.ireturn, 1) := by decide +kernel
theorem dX12_hazard_26 : decode cX12_hazard 26 = .ok (.aload_n 0, 1) := by decide +kernel
theorem dX12_hazard_27 : decode cX12_hazard 27 = .ok (.getfield 128, 3) := by decide +kernel
theorem dX12_hazard_30 : decode cX12_hazard 30 = .ok (.iload_n 1, 1) := by decide +kernel
theorem dX12_hazard_31 : decode cX12_hazard 31 = .ok (.iload_n 2, 1) := by decide +kernel
theorem dX12_hazard_32 : decode cX12_hazard 32 = .ok (.iastore, 1) := by decide +kernel
theorem dX12_hazard_33 : decode cX12_hazard 33 = .ok (.iconst 1, 1) := by decide +kernel
theorem dX12_hazard_34 : decode cX12_hazard 34 = .ok (.ireturn, 1) := by decide +kernel
theorem dX12_wind_0 : decode cX12_wind 0 = .ok (.iload_n 1, 1) := by decide +kernel
theorem dX12_wind_1 : decode cX12_wind 1 = .ok (.i2l, 1) := by decide +kernel
theorem dX12_wind_2 : decode cX12_wind 2 = .ok (.lconst 1, 1) := by decide +kernel
theorem dX12_wind_3 : decode cX12_wind 3 = .ok (.ldc2_w 445, 3) := by decide +kernel
theorem dX12_wind_6 : decode cX12_wind 6 = .ok (.invokestatic 325, 3) := by decide +kernel
theorem dX12_wind_9 : decode cX12_wind 9 = .ok (.ifCond .eq 27, 3) := by decide +kernel
theorem dX12_wind_12 : decode cX12_wind 12 = .ok (.iload_n 2, 1) := by decide +kernel
theorem dX12_wind_13 : decode cX12_wind 13 = .ok (.i2l, 1) := by decide +kernel
theorem dX12_wind_14 : decode cX12_wind 14 = .ok (.lconst 0, 1) := by decide +kernel
theorem dX12_wind_15 : decode cX12_wind 15 = .ok (.ldc2_w 447, 3) := by decide +kernel
theorem dX12_wind_18 : decode cX12_wind 18 = .ok (.invokestatic 325, 3) := by decide +kernel
theorem dX12_wind_21 : decode cX12_wind 21 = .ok (.ifCond .eq 15, 3) := by decide +kernel
theorem dX12_wind_24 : decode cX12_wind 24 = .ok (.iload_n 3, 1) := by decide +kernel
theorem dX12_wind_25 : decode cX12_wind 25 = .ok (.i2l, 1) := by decide +kernel
theorem dX12_wind_26 : decode cX12_wind 26 = .ok (.lconst 0, 1) := by decide +kernel
theorem dX12_wind_27 : decode cX12_wind 27 = .ok (.ldc2_w 449, 3) := by decide +kernel
theorem dX12_wind_30 : decode cX12_wind 30 = .ok (.invokestatic 325, 3) := by decide +kernel
theorem dX12_wind_33 : decode cX12_wind 33 = .ok (.ifCond .ne 5, 3) := by decide +kernel
theorem dX12_wind_36 : decode cX12_wind 36 = .ok (.iconst 0, 1) := by decide +kernel
theorem dX12_wind_37 : decode cX12_wind 37 = .ok (.ireturn, 1) := by decide +kernel
theorem dX12_wind_38 : decode cX12_wind 38 = .ok (.aload_n 0, 1) := by decide +kernel
theorem dX12_wind_39 : decode cX12_wind 39 = .ok (.getfield 137, 3) := by decide +kernel
theorem dX12_wind_42 : decode cX12_wind 42 = .ok (.iload_n 1, 1) := by decide +kernel
theorem dX12_wind_43 : decode cX12_wind 43 = .ok (.iconst 1, 1) := by decide +kernel
theorem dX12_wind_44 : decode cX12_wind 44 = .ok (.bastore, 1) := by decide +kernel
theorem dX12_wind_45 : decode cX12_wind 45 = .ok (.aload_n 0, 1) := by decide +kernel
theorem dX12_wind_46 : decode cX12_wind 46 = .ok (.getfield 131, 3) := by decide +kernel
theorem dX12_wind_49 : decode cX12_wind 49 = .ok (.iload_n 1, 1) := by decide +kernel
theorem dX12_wind_50 : decode cX12_wind 50 = .ok (.iload_n 2, 1) := by decide +kernel
theorem dX12_wind_51 : decode cX12_wind 51 = .ok (.iastore, 1) := by decide +kernel
theorem dX12_wind_52 : decode cX12_wind 52 = .ok (.aload_n 0, 1) := by decide +kernel
theorem dX12_wind_53 : decode cX12_wind 53 = .ok (.getfield 134, 3) := by decide +kernel
theorem dX12_wind_56 : decode cX12_wind 56 = .ok (.iload_n 1, 1) := by decide +kernel
theorem dX12_wind_57 : decode cX12_wind 57 = .ok (.iload_n 3, 1) := by decide +kernel
theorem dX12_wind_58 : decode cX12_wind 58 = .ok (.iastore, 1) := by decide +kernel
theorem dX12_wind_59 : decode cX12_wind 59 = .ok (.iconst 1, 1) := by decide +kernel
theorem dX12_wind_60 : decode cX12_wind 60 = .ok (.ireturn, 1) := by decide +kernel
theorem dX12_coin_0 : decode cX12_coin 0 = .ok (.iload_n 1, 1) := by decide +kernel
theorem dX12_coin_1 : decode cX12_coin 1 = .ok (.invokestatic 451, 3) := by decide +kernel
theorem dX12_coin_4 : decode cX12_coin 4 = .ok (.ifCond .eq 15, 3) := by decide +kernel
theorem dX12_coin_7 : decode cX12_coin 7 = .ok (.iload_n 2, 1) := by decide +kernel
theorem dX12_coin_8 : decode cX12_coin 8 = .ok (.i2l, 1) := by decide +kernel
theorem dX12_coin_9 : decode cX12_coin 9 = .ok (.lconst 0, 1) := by decide +kernel
theorem dX12_coin_10 : decode cX12_coin 10 = .ok (.ldc2_w 454, 3) := by decide +kernel
theorem dX12_coin_13 : decode cX12_coin 13 = .ok (.invokestatic 325, 3) := by decide +kernel
theorem dX12_coin_16 : decode cX12_coin 16 = .ok (.ifCond .ne 5, 3) := by decide +kernel
theorem dX12_coin_19 : decode cX12_coin 19 = .ok (.iconst 0, 1) := by decide +kernel
theorem dX12_coin_20 : decode cX12_coin 20 = .ok (.ireturn, 1) := by decide +kernel
theorem dX12_coin_21 : decode cX12_coin 21 = .ok (.aload_n 0, 1) := by decide +kernel
theorem dX12_coin_22 : decode cX12_coin 22 = .ok (.getfield 140, 3) := by decide +kernel
theorem dX12_coin_25 : decode cX12_coin 25 = .ok (.iload_n 1, 1) := by decide +kernel
theorem dX12_coin_26 : decode cX12_coin 26 = .ok (.iload_n 2, 1) := by decide +kernel
theorem dX12_coin_27 : decode cX12_coin 27 = .ok (.iastore, 1) := by decide +kernel
theorem dX12_coin_28 : decode cX12_coin 28 = .ok (.iconst 1, 1) := by decide +kernel
theorem dX12_coin_29 : decode cX12_coin 29 = .ok (.ireturn, 1) := by decide +kernel
theorem dX12_engine_0 : decode cX12_engine 0 = .ok (.iload_n 1, 1) := by decide +kernel
theorem dX12_engine_1 : decode cX12_engine 1 = .ok (.invokestatic 451, 3) := by decide +kernel
theorem dX12_engine_4 : decode cX12_engine 4 = .ok (.ifCond .eq 45, 3) := by decide +kernel
theorem dX12_engine_7 : decode cX12_engine 7 = .ok (.aload_n 0, 1) := by decide +kernel
theorem dX12_engine_8 : decode cX12_engine 8 = .ok (.iload_n 2, 1) := by decide +kernel
theorem dX12_engine_9 : decode cX12_engine 9 = .ok (.invokevirtual 412, 3) := by decide +kernel
theorem dX12_engine_12 : decode cX12_engine 12 = .ok (.ifCond .eq 37, 3) := by decide +kernel
theorem dX12_engine_15 : decode cX12_engine 15 = .ok (.iload_n 3, 1) := by decide +kernel
theorem dX12_engine_16 : decode cX12_engine 16 = .ok (.i2l, 1) := by decide +kernel
theorem dX12_engine_17 : decode cX12_engine 17 = .ok (.lconst 1, 1) := by decide +kernel
theorem dX12_engine_18 : decode cX12_engine 18 = .ok (.ldc2_w 443, 3) := by decide +kernel
theorem dX12_engine_21 : decode cX12_engine 21 = .ok (.invokestatic 325, 3) := by decide +kernel
theorem dX12_engine_24 : decode cX12_engine 24 = .ok (.ifCond .eq 25, 3) := by decide +kernel
theorem dX12_engine_27 : decode cX12_engine 27 = .ok (.iload 4, 2) := by decide +kernel
theorem dX12_engine_29 : decode cX12_engine 29 = .ok (.i2l, 1) := by decide +kernel
theorem dX12_engine_30 : decode cX12_engine 30 = .ok (.lconst 1, 1) := by decide +kernel
theorem dX12_engine_31 : decode cX12_engine 31 = .ok (.ldc2_w 443, 3) := by decide +kernel
theorem dX12_engine_34 : decode cX12_engine 34 = .ok (.invokestatic 325, 3) := by decide +kernel
theorem dX12_engine_37 : decode cX12_engine 37 = .ok (.ifCond .eq 12, 3) := by decide +kernel
theorem dX12_engine_40 : decode cX12_engine 40 = .ok (.aload_n 0, 1) := by decide +kernel
theorem dX12_engine_41 : decode cX12_engine 41 = .ok (.getfield 421, 3) := by decide +kernel
theorem dX12_engine_44 : decode cX12_engine 44 = .ok (.bipush 12, 2) := by decide +kernel
theorem dX12_engine_46 : decode cX12_engine 46 = .ok (.if_icmp .ne 5, 3) := by decide +kernel
theorem dX12_engine_49 : decode cX12_engine 49 = .ok (.iconst (-1), 1) := by decide +kernel
theorem dX12_engine_50 : decode cX12_engine 50 = .ok (.ireturn, 1) := by decide +kernel
theorem dX12_engine_51 : decode cX12_engine 51 = .ok (.aload_n 0, 1) := by decide +kernel
theorem dX12_engine_52 : decode cX12_engine 52 = .ok (.aload_n 0, 1) := by decide +kernel
theorem dX12_engine_53 : decode cX12_engine 53 = .ok (.getfield 421, 3) := by decide +kernel
theorem dX12_engine_56 : decode cX12_engine 56 = .ok (.iload_n 1, 1) := by decide +kernel
theorem dX12_engine_57 : decode cX12_engine 57 = .ok (.iload_n 2, 1) := by decide +kernel
theorem dX12_engine_58 : decode cX12_engine 58 = .ok (.iload_n 3, 1) := by decide +kernel
theorem dX12_engine_59 : decode cX12_engine 59 = .ok (.iload 4, 2) := by decide +kernel
theorem dX12_engine_61 : decode cX12_engine 61 = .ok (.invokevirtual 456, 3) := by decide +kernel
theorem dX12_engine_64 : decode cX12_engine 64 = .ok (.aload_n 0, 1) := by decide +kernel
theorem dX12_engine_65 : decode cX12_engine 65 = .ok (.dup, 1) := by decide +kernel
theorem dX12_engine_66 : decode cX12_engine 66 = .ok (.getfield 421, 3) := by decide +kernel
theorem dX12_engine_69 : decode cX12_engine 69 = .ok (.iconst 1, 1) := by decide +kernel
theorem dX12_engine_70 : decode cX12_engine 70 = .ok (.iadd, 1) := by decide +kernel
theorem dX12_engine_71 : decode cX12_engine 71 = .ok (.putfield 421, 3) := by decide +kernel
theorem dX12_engine_74 : decode cX12_engine 74 = .ok (.aload_n 0, 1) := by decide +kernel
theorem dX12_engine_75 : decode cX12_engine 75 = .ok (.getfield 421, 3) := by decide +kernel
theorem dX12_engine_78 : decode cX12_engine 78 = .ok (.iconst 1, 1) := by decide +kernel
theorem dX12_engine_79 : decode cX12_engine 79 = .ok (.isub, 1) := by decide +kernel
theorem dX12_engine_80 : decode cX12_engine 80 = .ok (.ireturn, 1) := by decide +kernel
theorem dX12_stands_0 : decode cX12_stands 0 = .ok (.aload_n 0, 1) := by decide +kernel
theorem dX12_stands_1 : decode cX12_stands 1 = .ok (.getfield 143, 3) := by decide +kernel
theorem dX12_stands_4 : decode cX12_stands 4 = .ok (.iload_n 1, 1) := by decide +kernel
theorem dX12_stands_5 : decode cX12_stands 5 = .ok (.iload_n 2, 1) := by decide +kernel
theorem dX12_stands_6 : decode cX12_stands 6 = .ok (.iastore, 1) := by decide +kernel
theorem dX12_stands_7 : decode cX12_stands 7 = .ok (.aload_n 0, 1) := by decide +kernel
theorem dX12_stands_8 : decode cX12_stands 8 = .ok (.getfield 146, 3) := by decide +kernel
theorem dX12_stands_11 : decode cX12_stands 11 = .ok (.iload_n 1, 1) := by decide +kernel
theorem dX12_stands_12 : decode cX12_stands 12 = .ok (.iload_n 3, 1) := by decide +kernel
theorem dX12_stands_13 : decode cX12_stands 13 = .ok (.iastore, 1) := by decide +kernel
theorem dX12_stands_14 : decode cX12_stands 14 = .ok (.aload_n 0, 1) := by decide +kernel
theorem dX12_stands_15 : decode cX12_stands 15 = .ok (.getfield 149, 3) := by decide +kernel
theorem dX12_stands_18 : decode cX12_stands 18 = .ok (.iload_n 1, 1) := by decide +kernel
theorem dX12_stands_19 : decode cX12_stands 19 = .ok (.iload 4, 2) := by decide +kernel
theorem dX12_stands_21 : decode cX12_stands 21 = .ok (.iastore, 1) := by decide +kernel
theorem dX12_stands_22 : decode cX12_stands 22 = .ok (.aload_n 0, 1) := by decide +kernel
theorem dX12_stands_23 : decode cX12_stands 23 = .ok (.getfield 152, 3) := by decide +kernel
theorem dX12_stands_26 : decode cX12_stands 26 = .ok (.iload_n 1, 1) := by decide +kernel
theorem dX12_stands_27 : decode cX12_stands 27 = .ok (.iload 5, 2) := by decide +kernel
theorem dX12_stands_29 : decode cX12_stands 29 = .ok (.iastore, 1) := by decide +kernel
theorem dX12_stands_30 : decode cX12_stands 30 = .ok (.return_, 1) := by decide +kernel
theorem dX12_deal_0 : decode cX12_deal 0 = .ok (.iload_n 1, 1) := by decide +kernel
theorem dX12_deal_1 : decode cX12_deal 1 = .ok (.invokestatic 451, 3) := by decide +kernel
theorem dX12_deal_4 : decode cX12_deal 4 = .ok (.ifCond .eq 27, 3) := by decide +kernel
theorem dX12_deal_7 : decode cX12_deal 7 = .ok (.iload_n 2, 1) := by decide +kernel
theorem dX12_deal_8 : decode cX12_deal 8 = .ok (.invokestatic 451, 3) := by decide +kernel
theorem dX12_deal_11 : decode cX12_deal 11 = .ok (.ifCond .eq 20, 3) := by decide +kernel
theorem dX12_deal_14 : decode cX12_deal 14 = .ok (.iload_n 1, 1) := by decide +kernel
theorem dX12_deal_15 : decode cX12_deal 15 = .ok (.iload_n 2, 1) := by decide +kernel
theorem dX12_deal_16 : decode cX12_deal 16 = .ok (.if_icmp .eq 15, 3) := by decide +kernel
theorem dX12_deal_19 : decode cX12_deal 19 = .ok (.iload_n 3, 1) := by decide +kernel
theorem dX12_deal_20 : decode cX12_deal 20 = .ok (.i2l, 1) := by decide +kernel
theorem dX12_deal_21 : decode cX12_deal 21 = .ok (.lconst 0, 1) := by decide +kernel
theorem dX12_deal_22 : decode cX12_deal 22 = .ok (.ldc2_w 460, 3) := by decide +kernel
theorem dX12_deal_25 : decode cX12_deal 25 = .ok (.invokestatic 325, 3) := by decide +kernel
theorem dX12_deal_28 : decode cX12_deal 28 = .ok (.ifCond .ne 5, 3) := by decide +kernel
theorem dX12_deal_31 : decode cX12_deal 31 = .ok (.iconst 0, 1) := by decide +kernel
theorem dX12_deal_32 : decode cX12_deal 32 = .ok (.ireturn, 1) := by decide +kernel
theorem dX12_deal_33 : decode cX12_deal 33 = .ok (.aload_n 0, 1) := by decide +kernel
theorem dX12_deal_34 : decode cX12_deal 34 = .ok (.getfield 155, 3) := by decide +kernel
theorem dX12_deal_37 : decode cX12_deal 37 = .ok (.bipush 9, 2) := by decide +kernel
theorem dX12_deal_39 : decode cX12_deal 39 = .ok (.iload_n 1, 1) := by decide +kernel
theorem dX12_deal_40 : decode cX12_deal 40 = .ok (.imul, 1) := by decide +kernel
theorem dX12_deal_41 : decode cX12_deal 41 = .ok (.iload_n 2, 1) := by decide +kernel
theorem dX12_deal_42 : decode cX12_deal 42 = .ok (.iadd, 1) := by decide +kernel
theorem dX12_deal_43 : decode cX12_deal 43 = .ok (.iload_n 3, 1) := by decide +kernel
theorem dX12_deal_44 : decode cX12_deal 44 = .ok (.iastore, 1) := by decide +kernel
theorem dX12_deal_45 : decode cX12_deal 45 = .ok (.iconst 1, 1) := by decide +kernel
theorem dX12_deal_46 : decode cX12_deal 46 = .ok (.ireturn, 1) := by decide +kernel
theorem dX12_rowOfWay_0 : decode cX12_rowOfWay 0 = .ok (.iload_n 0, 1) := by decide +kernel
theorem dX12_rowOfWay_1 : decode cX12_rowOfWay 1 = .ok (.bipush 7, 2) := by decide +kernel
theorem dX12_rowOfWay_3 : decode cX12_rowOfWay 3 = .ok (.if_icmp .eq 8, 3) := by decide +kernel
theorem dX12_rowOfWay_6 : decode cX12_rowOfWay 6 = .ok (.iload_n 0, 1) := by decide +kernel
theorem dX12_rowOfWay_7 : decode cX12_rowOfWay 7 = .ok (.iconst 2, 1) := by decide +kernel
theorem dX12_rowOfWay_8 : decode cX12_rowOfWay 8 = .ok (.if_icmp .ge 7, 3) := by decide +kernel
theorem dX12_rowOfWay_11 : decode cX12_rowOfWay 11 = .ok (.iconst (-1), 1) := by decide +kernel
theorem dX12_rowOfWay_12 : decode cX12_rowOfWay 12 = .ok (.goto 19, 3) := by decide +kernel
theorem dX12_rowOfWay_15 : decode cX12_rowOfWay 15 = .ok (.iload_n 0, 1) := by decide +kernel
theorem dX12_rowOfWay_16 : decode cX12_rowOfWay 16 = .ok (.iconst 2, 1) := by decide +kernel
theorem dX12_rowOfWay_17 : decode cX12_rowOfWay 17 = .ok (.if_icmp .eq 9, 3) := by decide +kernel
theorem dX12_rowOfWay_20 : decode cX12_rowOfWay 20 = .ok (.iload_n 0, 1) := by decide +kernel
theorem dX12_rowOfWay_21 : decode cX12_rowOfWay 21 = .ok (.bipush 6, 2) := by decide +kernel
theorem dX12_rowOfWay_23 : decode cX12_rowOfWay 23 = .ok (.if_icmp .ne 7, 3) := by decide +kernel
theorem dX12_rowOfWay_26 : decode cX12_rowOfWay 26 = .ok (.iconst 0, 1) := by decide +kernel
theorem dX12_rowOfWay_27 : decode cX12_rowOfWay 27 = .ok (.goto 4, 3) := by decide +kernel
theorem dX12_rowOfWay_30 : decode cX12_rowOfWay 30 = .ok (.iconst 1, 1) := by decide +kernel
theorem dX12_rowOfWay_31 : decode cX12_rowOfWay 31 = .ok (.ireturn, 1) := by decide +kernel
theorem dX12_columnOfWay_0 : decode cX12_columnOfWay 0 = .ok (.iload_n 0, 1) := by decide +kernel
theorem dX12_columnOfWay_1 : decode cX12_columnOfWay 1 = .ok (.ifCond .eq 8, 3) := by decide +kernel
theorem dX12_columnOfWay_4 : decode cX12_columnOfWay 4 = .ok (.iload_n 0, 1) := by decide +kernel
theorem dX12_columnOfWay_5 : decode cX12_columnOfWay 5 = .ok (.iconst 4, 1) := by decide +kernel
theorem dX12_columnOfWay_6 : decode cX12_columnOfWay 6 = .ok (.if_icmp .ne 7, 3) := by decide +kernel
theorem dX12_columnOfWay_9 : decode cX12_columnOfWay 9 = .ok (.iconst 0, 1) := by decide +kernel
theorem dX12_columnOfWay_10 : decode cX12_columnOfWay 10 = .ok (.goto 13, 3) := by decide +kernel
theorem dX12_columnOfWay_13 : decode cX12_columnOfWay 13 = .ok (.iload_n 0, 1) := by decide +kernel
theorem dX12_columnOfWay_14 : decode cX12_columnOfWay 14 = .ok (.iconst 4, 1) := by decide +kernel
theorem dX12_columnOfWay_15 : decode cX12_columnOfWay 15 = .ok (.if_icmp .ge 7, 3) := by decide +kernel
theorem dX12_columnOfWay_18 : decode cX12_columnOfWay 18 = .ok (.iconst 1, 1) := by decide +kernel
theorem dX12_columnOfWay_19 : decode cX12_columnOfWay 19 = .ok (.goto 4, 3) := by decide +kernel
theorem dX12_columnOfWay_22 : decode cX12_columnOfWay 22 = .ok (.iconst (-1), 1) := by decide +kernel
theorem dX12_columnOfWay_23 : decode cX12_columnOfWay 23 = .ok (.ireturn, 1) := by decide +kernel
theorem dX12_beside_0 : decode cX12_beside 0 = .ok (.iload_n 1, 1) := by decide +kernel
theorem dX12_beside_1 : decode cX12_beside 1 = .ok (.aload_n 0, 1) := by decide +kernel
theorem dX12_beside_2 : decode cX12_beside 2 = .ok (.getfield 106, 3) := by decide +kernel
theorem dX12_beside_5 : decode cX12_beside 5 = .ok (.idiv, 1) := by decide +kernel
theorem dX12_beside_6 : decode cX12_beside 6 = .ok (.iload_n 2, 1) := by decide +kernel
theorem dX12_beside_7 : decode cX12_beside 7 = .ok (.invokestatic 462, 3) := by decide +kernel
theorem dX12_beside_10 : decode cX12_beside 10 = .ok (.iadd, 1) := by decide +kernel
theorem dX12_beside_11 : decode cX12_beside 11 = .ok (.istore_n 3, 1) := by decide +kernel
theorem dX12_beside_12 : decode cX12_beside 12 = .ok (.iload_n 1, 1) := by decide +kernel
theorem dX12_beside_13 : decode cX12_beside 13 = .ok (.aload_n 0, 1) := by decide +kernel
theorem dX12_beside_14 : decode cX12_beside 14 = .ok (.getfield 106, 3) := by decide +kernel
theorem dX12_beside_17 : decode cX12_beside 17 = .ok (.irem, 1) := by decide +kernel
theorem dX12_beside_18 : decode cX12_beside 18 = .ok (.iload_n 2, 1) := by decide +kernel
theorem dX12_beside_19 : decode cX12_beside 19 = .ok (.invokestatic 466, 3) := by decide +kernel
theorem dX12_beside_22 : decode cX12_beside 22 = .ok (.iadd, 1) := by decide +kernel
theorem dX12_beside_23 : decode cX12_beside 23 = .ok (.istore 4, 2) := by decide +kernel
theorem dX12_beside_25 : decode cX12_beside 25 = .ok (.iload_n 3, 1) := by decide +kernel
theorem dX12_beside_26 : decode cX12_beside 26 = .ok (.i2l, 1) := by decide +kernel
theorem dX12_beside_27 : decode cX12_beside 27 = .ok (.lconst 0, 1) := by decide +kernel
theorem dX12_beside_28 : decode cX12_beside 28 = .ok (.aload_n 0, 1) := by decide +kernel
theorem dX12_beside_29 : decode cX12_beside 29 = .ok (.getfield 109, 3) := by decide +kernel
theorem dX12_beside_32 : decode cX12_beside 32 = .ok (.iconst 1, 1) := by decide +kernel
theorem dX12_beside_33 : decode cX12_beside 33 = .ok (.isub, 1) := by decide +kernel
theorem dX12_beside_34 : decode cX12_beside 34 = .ok (.i2l, 1) := by decide +kernel
theorem dX12_beside_35 : decode cX12_beside 35 = .ok (.invokestatic 325, 3) := by decide +kernel
theorem dX12_beside_38 : decode cX12_beside 38 = .ok (.ifCond .eq 32, 3) := by decide +kernel
theorem dX12_beside_41 : decode cX12_beside 41 = .ok (.iload 4, 2) := by decide +kernel
theorem dX12_beside_43 : decode cX12_beside 43 = .ok (.i2l, 1) := by decide +kernel
theorem dX12_beside_44 : decode cX12_beside 44 = .ok (.lconst 0, 1) := by decide +kernel
theorem dX12_beside_45 : decode cX12_beside 45 = .ok (.aload_n 0, 1) := by decide +kernel
theorem dX12_beside_46 : decode cX12_beside 46 = .ok (.getfield 106, 3) := by decide +kernel
theorem dX12_beside_49 : decode cX12_beside 49 = .ok (.iconst 1, 1) := by decide +kernel
theorem dX12_beside_50 : decode cX12_beside 50 = .ok (.isub, 1) := by decide +kernel
theorem dX12_beside_51 : decode cX12_beside 51 = .ok (.i2l, 1) := by decide +kernel
theorem dX12_beside_52 : decode cX12_beside 52 = .ok (.invokestatic 325, 3) := by decide +kernel
theorem dX12_beside_55 : decode cX12_beside 55 = .ok (.ifCond .eq 15, 3) := by decide +kernel
theorem dX12_beside_58 : decode cX12_beside 58 = .ok (.iload_n 3, 1) := by decide +kernel
theorem dX12_beside_59 : decode cX12_beside 59 = .ok (.aload_n 0, 1) := by decide +kernel
theorem dX12_beside_60 : decode cX12_beside 60 = .ok (.getfield 106, 3) := by decide +kernel
theorem dX12_beside_63 : decode cX12_beside 63 = .ok (.imul, 1) := by decide +kernel
theorem dX12_beside_64 : decode cX12_beside 64 = .ok (.iload 4, 2) := by decide +kernel
theorem dX12_beside_66 : decode cX12_beside 66 = .ok (.iadd, 1) := by decide +kernel
theorem dX12_beside_67 : decode cX12_beside 67 = .ok (.goto 4, 3) := by decide +kernel
theorem dX12_beside_70 : decode cX12_beside 70 = .ok (.iconst (-1), 1) := by decide +kernel
theorem dX12_beside_71 : decode cX12_beside 71 = .ok (.ireturn, 1) := by decide +kernel
theorem dX12_size_0 : decode cX12_size 0 = .ok (.iload_n 0, 1) := by decide +kernel
theorem dX12_size_1 : decode cX12_size 1 = .ok (.ifCond .ge 8, 3) := by decide +kernel
theorem dX12_size_4 : decode cX12_size 4 = .ok (.iload_n 0, 1) := by decide +kernel
theorem dX12_size_5 : decode cX12_size 5 = .ok (.ineg, 1) := by decide +kernel
theorem dX12_size_6 : decode cX12_size 6 = .ok (.goto 4, 3) := by decide +kernel
theorem dX12_size_9 : decode cX12_size 9 = .ok (.iload_n 0, 1) := by decide +kernel
theorem dX12_size_10 : decode cX12_size 10 = .ok (.ireturn, 1) := by decide +kernel
theorem dX12_apart_0 : decode cX12_apart 0 = .ok (.iload_n 1, 1) := by decide +kernel
theorem dX12_apart_1 : decode cX12_apart 1 = .ok (.aload_n 0, 1) := by decide +kernel
theorem dX12_apart_2 : decode cX12_apart 2 = .ok (.getfield 106, 3) := by decide +kernel
theorem dX12_apart_5 : decode cX12_apart 5 = .ok (.idiv, 1) := by decide +kernel
theorem dX12_apart_6 : decode cX12_apart 6 = .ok (.iload_n 2, 1) := by decide +kernel
theorem dX12_apart_7 : decode cX12_apart 7 = .ok (.aload_n 0, 1) := by decide +kernel
theorem dX12_apart_8 : decode cX12_apart 8 = .ok (.getfield 106, 3) := by decide +kernel
theorem dX12_apart_11 : decode cX12_apart 11 = .ok (.idiv, 1) := by decide +kernel
theorem dX12_apart_12 : decode cX12_apart 12 = .ok (.isub, 1) := by decide +kernel
theorem dX12_apart_13 : decode cX12_apart 13 = .ok (.invokestatic 469, 3) := by decide +kernel
theorem dX12_apart_16 : decode cX12_apart 16 = .ok (.iload_n 1, 1) := by decide +kernel
theorem dX12_apart_17 : decode cX12_apart 17 = .ok (.aload_n 0, 1) := by decide +kernel
theorem dX12_apart_18 : decode cX12_apart 18 = .ok (.getfield 106, 3) := by decide +kernel
theorem dX12_apart_21 : decode cX12_apart 21 = .ok (.irem, 1) := by decide +kernel
theorem dX12_apart_22 : decode cX12_apart 22 = .ok (.iload_n 2, 1) := by decide +kernel
theorem dX12_apart_23 : decode cX12_apart 23 = .ok (.aload_n 0, 1) := by decide +kernel
theorem dX12_apart_24 : decode cX12_apart 24 = .ok (.getfield 106, 3) := by decide +kernel
theorem dX12_apart_27 : decode cX12_apart 27 = .ok (.irem, 1) := by decide +kernel
theorem dX12_apart_28 : decode cX12_apart 28 = .ok (.isub, 1) := by decide +kernel
theorem dX12_apart_29 : decode cX12_apart 29 = .ok (.invokestatic 469, 3) := by decide +kernel
theorem dX12_apart_32 : decode cX12_apart 32 = .ok (.iadd, 1) := by decide +kernel
theorem dX12_apart_33 : decode cX12_apart 33 = .ok (.ireturn, 1) := by decide +kernel
theorem dX12_act_0 : decode cX12_act 0 = .ok (.aload_n 0, 1) := by decide +kernel
theorem dX12_act_1 : decode cX12_act 1 = .ok (.dup, 1) := by decide +kernel
theorem dX12_act_2 : decode cX12_act 2 = .ok (.getfield 424, 3) := by decide +kernel
theorem dX12_act_5 : decode cX12_act 5 = .ok (.iconst 1, 1) := by decide +kernel
theorem dX12_act_6 : decode cX12_act 6 = .ok (.iadd, 1) := by decide +kernel
theorem dX12_act_7 : decode cX12_act 7 = .ok (.putfield 424, 3) := by decide +kernel
theorem dX12_act_10 : decode cX12_act 10 = .ok (.aload_n 0, 1) := by decide +kernel
theorem dX12_act_11 : decode cX12_act 11 = .ok (.getfield 161, 3) := by decide +kernel
theorem dX12_act_14 : decode cX12_act 14 = .ok (.aload_n 0, 1) := by decide +kernel
theorem dX12_act_15 : decode cX12_act 15 = .ok (.getfield 424, 3) := by decide +kernel
theorem dX12_act_18 : decode cX12_act 18 = .ok (.iload_n 1, 1) := by decide +kernel
theorem dX12_act_19 : decode cX12_act 19 = .ok (.iastore, 1) := by decide +kernel
theorem dX12_act_20 : decode cX12_act 20 = .ok (.aload_n 0, 1) := by decide +kernel
theorem dX12_act_21 : decode cX12_act 21 = .ok (.getfield 164, 3) := by decide +kernel
theorem dX12_act_24 : decode cX12_act 24 = .ok (.aload_n 0, 1) := by decide +kernel
theorem dX12_act_25 : decode cX12_act 25 = .ok (.getfield 424, 3) := by decide +kernel
theorem dX12_act_28 : decode cX12_act 28 = .ok (.iload_n 2, 1) := by decide +kernel
theorem dX12_act_29 : decode cX12_act 29 = .ok (.iastore, 1) := by decide +kernel
theorem dX12_act_30 : decode cX12_act 30 = .ok (.aload_n 0, 1) := by decide +kernel
theorem dX12_act_31 : decode cX12_act 31 = .ok (.getfield 167, 3) := by decide +kernel
theorem dX12_act_34 : decode cX12_act 34 = .ok (.aload_n 0, 1) := by decide +kernel
theorem dX12_act_35 : decode cX12_act 35 = .ok (.getfield 424, 3) := by decide +kernel
theorem dX12_act_38 : decode cX12_act 38 = .ok (.iload_n 3, 1) := by decide +kernel
theorem dX12_act_39 : decode cX12_act 39 = .ok (.iastore, 1) := by decide +kernel
theorem dX12_act_40 : decode cX12_act 40 = .ok (.aload_n 0, 1) := by decide +kernel
theorem dX12_act_41 : decode cX12_act 41 = .ok (.getfield 170, 3) := by decide +kernel
theorem dX12_act_44 : decode cX12_act 44 = .ok (.aload_n 0, 1) := by decide +kernel
theorem dX12_act_45 : decode cX12_act 45 = .ok (.getfield 424, 3) := by decide +kernel
theorem dX12_act_48 : decode cX12_act 48 = .ok (.iload 4, 2) := by decide +kernel
theorem dX12_act_50 : decode cX12_act 50 = .ok (.iastore, 1) := by decide +kernel
theorem dX12_act_51 : decode cX12_act 51 = .ok (.aload_n 0, 1) := by decide +kernel
theorem dX12_act_52 : decode cX12_act 52 = .ok (.getfield 173, 3) := by decide +kernel
theorem dX12_act_55 : decode cX12_act 55 = .ok (.aload_n 0, 1) := by decide +kernel
theorem dX12_act_56 : decode cX12_act 56 = .ok (.getfield 424, 3) := by decide +kernel
theorem dX12_act_59 : decode cX12_act 59 = .ok (.iconst 0, 1) := by decide +kernel
theorem dX12_act_60 : decode cX12_act 60 = .ok (.iastore, 1) := by decide +kernel
theorem dX12_act_61 : decode cX12_act 61 = .ok (.aload_n 0, 1) := by decide +kernel
theorem dX12_act_62 : decode cX12_act 62 = .ok (.getfield 424, 3) := by decide +kernel
theorem dX12_act_65 : decode cX12_act 65 = .ok (.ireturn, 1) := by decide +kernel
theorem dX12_terms_0 : decode cX12_terms 0 = .ok (.iload_n 1, 1) := by decide +kernel
theorem dX12_terms_1 : decode cX12_terms 1 = .ok (.invokestatic 451, 3) := by decide +kernel
theorem dX12_terms_4 : decode cX12_terms 4 = .ok (.ifCond .eq 13, 3) := by decide +kernel
theorem dX12_terms_7 : decode cX12_terms 7 = .ok (.aload_n 0, 1) := by decide +kernel
theorem dX12_terms_8 : decode cX12_terms 8 = .ok (.getfield 424, 3) := by decide +kernel
theorem dX12_terms_11 : decode cX12_terms 11 = .ok (.sipush 200, 3) := by decide +kernel
theorem dX12_terms_14 : decode cX12_terms 14 = .ok (.if_icmp .ne 11, 3) := by decide +kernel
theorem dX12_terms_17 : decode cX12_terms 17 = .ok (.aload_n 0, 1) := by decide +kernel
theorem dX12_terms_18 : decode cX12_terms 18 = .ok (.iconst 0, 1) := by decide +kernel
theorem dX12_terms_19 : decode cX12_terms 19 = .ok (.putfield 282, 3) := by decide +kernel
theorem dX12_terms_22 : decode cX12_terms 22 = .ok (.bipush (-2), 2) := by decide +kernel
theorem dX12_terms_24 : decode cX12_terms 24 = .ok (.ireturn, 1) := by decide +kernel
theorem dX12_terms_25 : decode cX12_terms 25 = .ok (.aload_n 0, 1) := by decide +kernel
theorem dX12_terms_26 : decode cX12_terms 26 = .ok (.invokevirtual 472, 3) := by decide +kernel
theorem dX12_terms_29 : decode cX12_terms 29 = .ok (.ifCond .ne 5, 3) := by decide +kernel
theorem dX12_terms_32 : decode cX12_terms 32 = .ok (.iconst (-1), 1) := by decide +kernel
theorem dX12_terms_33 : decode cX12_terms 33 = .ok (.ireturn, 1) := by decide +kernel
theorem dX12_terms_34 : decode cX12_terms 34 = .ok (.aload_n 0, 1) := by decide +kernel
theorem dX12_terms_35 : decode cX12_terms 35 = .ok (.iconst 1, 1) := by decide +kernel
theorem dX12_terms_36 : decode cX12_terms 36 = .ok (.iload_n 1, 1) := by decide +kernel
theorem dX12_terms_37 : decode cX12_terms 37 = .ok (.iconst 0, 1) := by decide +kernel
theorem dX12_terms_38 : decode cX12_terms 38 = .ok (.iconst 0, 1) := by decide +kernel
theorem dX12_terms_39 : decode cX12_terms 39 = .ok (.invokevirtual 475, 3) := by decide +kernel
theorem dX12_terms_42 : decode cX12_terms 42 = .ok (.istore_n 2, 1) := by decide +kernel
theorem dX12_terms_43 : decode cX12_terms 43 = .ok (.aload_n 0, 1) := by decide +kernel
theorem dX12_terms_44 : decode cX12_terms 44 = .ok (.iload_n 2, 1) := by decide +kernel
theorem dX12_terms_45 : decode cX12_terms 45 = .ok (.invokevirtual 479, 3) := by decide +kernel
theorem dX12_terms_48 : decode cX12_terms 48 = .ok (.iload_n 2, 1) := by decide +kernel
theorem dX12_terms_49 : decode cX12_terms 49 = .ok (.ireturn, 1) := by decide +kernel
theorem dX12_fault_0 : decode cX12_fault 0 = .ok (.iload_n 1, 1) := by decide +kernel
theorem dX12_fault_1 : decode cX12_fault 1 = .ok (.ifCond .ne 10, 3) := by decide +kernel
theorem dX12_fault_4 : decode cX12_fault 4 = .ok (.aload_n 0, 1) := by decide +kernel
theorem dX12_fault_5 : decode cX12_fault 5 = .ok (.getfield 406, 3) := by decide +kernel
theorem dX12_fault_8 : decode cX12_fault 8 = .ok (.goto 16, 3) := by decide +kernel
theorem dX12_fault_11 : decode cX12_fault 11 = .ok (.iload_n 1, 1) := by decide +kernel
theorem dX12_fault_12 : decode cX12_fault 12 = .ok (.iconst 1, 1) := by decide +kernel
theorem dX12_fault_13 : decode cX12_fault 13 = .ok (.if_icmp .ne 10, 3) := by decide +kernel
theorem dX12_fault_16 : decode cX12_fault 16 = .ok (.aload_n 0, 1) := by decide +kernel
theorem dX12_fault_17 : decode cX12_fault 17 = .ok (.getfield 13, 3) := by decide +kernel
theorem dX12_fault_20 : decode cX12_fault 20 = .ok (.goto 4, 3) := by decide +kernel
theorem dX12_fault_23 : decode cX12_fault 23 = .ok (.iconst (-1), 1) := by decide +kernel
theorem dX12_fault_24 : decode cX12_fault 24 = .ok (.ireturn, 1) := by decide +kernel
theorem dX12_policy_0 : decode cX12_policy 0 = .ok (.aload_n 0, 1) := by decide +kernel
theorem dX12_policy_1 : decode cX12_policy 1 = .ok (.iload_n 1, 1) := by decide +kernel
theorem dX12_policy_2 : decode cX12_policy 2 = .ok (.invokevirtual 482, 3) := by decide +kernel
theorem dX12_policy_5 : decode cX12_policy 5 = .ok (.ifCond .eq 43, 3) := by decide +kernel
theorem dX12_policy_8 : decode cX12_policy 8 = .ok (.iload_n 2, 1) := by decide +kernel
theorem dX12_policy_9 : decode cX12_policy 9 = .ok (.invokestatic 451, 3) := by decide +kernel
theorem dX12_policy_12 : decode cX12_policy 12 = .ok (.ifCond .eq 36, 3) := by decide +kernel
theorem dX12_policy_15 : decode cX12_policy 15 = .ok (.iload_n 3, 1) := by decide +kernel
theorem dX12_policy_16 : decode cX12_policy 16 = .ok (.i2l, 1) := by decide +kernel
theorem dX12_policy_17 : decode cX12_policy 17 = .ok (.lconst 1, 1) := by decide +kernel
theorem dX12_policy_18 : decode cX12_policy 18 = .ok (.ldc2_w 485, 3) := by decide +kernel
theorem dX12_policy_21 : decode cX12_policy 21 = .ok (.invokestatic 325, 3) := by decide +kernel
theorem dX12_policy_24 : decode cX12_policy 24 = .ok (.ifCond .eq 24, 3) := by decide +kernel
theorem dX12_policy_27 : decode cX12_policy 27 = .ok (.aload_n 0, 1) := by decide +kernel
theorem dX12_policy_28 : decode cX12_policy 28 = .ok (.getfield 424, 3) := by decide +kernel
theorem dX12_policy_31 : decode cX12_policy 31 = .ok (.sipush 200, 3) := by decide +kernel
theorem dX12_policy_34 : decode cX12_policy 34 = .ok (.if_icmp .ge 14, 3) := by decide +kernel
theorem dX12_policy_37 : decode cX12_policy 37 = .ok (.aload_n 0, 1) := by decide +kernel
theorem dX12_policy_38 : decode cX12_policy 38 = .ok (.iconst 2, 1) := by decide +kernel
theorem dX12_policy_39 : decode cX12_policy 39 = .ok (.iload_n 2, 1) := by decide +kernel
theorem dX12_policy_40 : decode cX12_policy 40 = .ok (.iload_n 1, 1) := by decide +kernel
theorem dX12_policy_41 : decode cX12_policy 41 = .ok (.iload_n 3, 1) := by decide +kernel
theorem dX12_policy_42 : decode cX12_policy 42 = .ok (.invokevirtual 475, 3) := by decide +kernel
theorem dX12_policy_45 : decode cX12_policy 45 = .ok (.goto 4, 3) := by decide +kernel
theorem dX12_policy_48 : decode cX12_policy 48 = .ok (.iconst (-1), 1) := by decide +kernel
theorem dX12_policy_49 : decode cX12_policy 49 = .ok (.ireturn, 1) := by decide +kernel
theorem dX12_annul_0 : decode cX12_annul 0 = .ok (.iload_n 1, 1) := by decide +kernel
theorem dX12_annul_1 : decode cX12_annul 1 = .ok (.i2l, 1) := by decide +kernel
theorem dX12_annul_2 : decode cX12_annul 2 = .ok (.lconst 1, 1) := by decide +kernel
theorem dX12_annul_3 : decode cX12_annul 3 = .ok (.aload_n 0, 1) := by decide +kernel
theorem dX12_annul_4 : decode cX12_annul 4 = .ok (.getfield 424, 3) := by decide +kernel
theorem dX12_annul_7 : decode cX12_annul 7 = .ok (.i2l, 1) := by decide +kernel
theorem dX12_annul_8 : decode cX12_annul 8 = .ok (.invokestatic 325, 3) := by decide +kernel
theorem dX12_annul_11 : decode cX12_annul 11 = .ok (.ifCond .eq 32, 3) := by decide +kernel
theorem dX12_annul_14 : decode cX12_annul 14 = .ok (.aload_n 0, 1) := by decide +kernel
theorem dX12_annul_15 : decode cX12_annul 15 = .ok (.getfield 173, 3) := by decide +kernel
theorem dX12_annul_18 : decode cX12_annul 18 = .ok (.iload_n 1, 1) := by decide +kernel
theorem dX12_annul_19 : decode cX12_annul 19 = .ok (.iaload, 1) := by decide +kernel
theorem dX12_annul_20 : decode cX12_annul 20 = .ok (.ifCond .ne 23, 3) := by decide +kernel
theorem dX12_annul_23 : decode cX12_annul 23 = .ok (.aload_n 0, 1) := by decide +kernel
theorem dX12_annul_24 : decode cX12_annul 24 = .ok (.getfield 161, 3) := by decide +kernel
theorem dX12_annul_27 : decode cX12_annul 27 = .ok (.iload_n 1, 1) := by decide +kernel
theorem dX12_annul_28 : decode cX12_annul 28 = .ok (.iaload, 1) := by decide +kernel
theorem dX12_annul_29 : decode cX12_annul 29 = .ok (.iconst 3, 1) := by decide +kernel
theorem dX12_annul_30 : decode cX12_annul 30 = .ok (.if_icmp .eq 13, 3) := by decide +kernel
theorem dX12_annul_33 : decode cX12_annul 33 = .ok (.aload_n 0, 1) := by decide +kernel
theorem dX12_annul_34 : decode cX12_annul 34 = .ok (.getfield 424, 3) := by decide +kernel
theorem dX12_annul_37 : decode cX12_annul 37 = .ok (.sipush 200, 3) := by decide +kernel
theorem dX12_annul_40 : decode cX12_annul 40 = .ok (.if_icmp .ne 5, 3) := by decide +kernel
theorem dX12_annul_43 : decode cX12_annul 43 = .ok (.iconst (-1), 1) := by decide +kernel
theorem dX12_annul_44 : decode cX12_annul 44 = .ok (.ireturn, 1) := by decide +kernel
theorem dX12_annul_45 : decode cX12_annul 45 = .ok (.aload_n 0, 1) := by decide +kernel
theorem dX12_annul_46 : decode cX12_annul 46 = .ok (.getfield 173, 3) := by decide +kernel
theorem dX12_annul_49 : decode cX12_annul 49 = .ok (.iload_n 1, 1) := by decide +kernel
theorem dX12_annul_50 : decode cX12_annul 50 = .ok (.aload_n 0, 1) := by decide +kernel
theorem dX12_annul_51 : decode cX12_annul 51 = .ok (.getfield 424, 3) := by decide +kernel
theorem dX12_annul_54 : decode cX12_annul 54 = .ok (.iconst 1, 1) := by decide +kernel
theorem dX12_annul_55 : decode cX12_annul 55 = .ok (.iadd, 1) := by decide +kernel
theorem dX12_annul_56 : decode cX12_annul 56 = .ok (.iastore, 1) := by decide +kernel
theorem dX12_annul_57 : decode cX12_annul 57 = .ok (.aload_n 0, 1) := by decide +kernel
theorem dX12_annul_58 : decode cX12_annul 58 = .ok (.iconst 3, 1) := by decide +kernel
theorem dX12_annul_59 : decode cX12_annul 59 = .ok (.iconst 0, 1) := by decide +kernel
theorem dX12_annul_60 : decode cX12_annul 60 = .ok (.iconst 0, 1) := by decide +kernel
theorem dX12_annul_61 : decode cX12_annul 61 = .ok (.iload_n 1, 1) := by decide +kernel
theorem dX12_annul_62 : decode cX12_annul 62 = .ok (.invokevirtual 475, 3) := by decide +kernel
theorem dX12_annul_65 : decode cX12_annul 65 = .ok (.ireturn, 1) := by decide +kernel
theorem dX12_as_0 : decode cX12_as 0 = .ok (.iload_n 1, 1) := by decide +kernel
theorem dX12_as_1 : decode cX12_as 1 = .ok (.i2l, 1) := by decide +kernel
theorem dX12_as_2 : decode cX12_as 2 = .ok (.ldc2_w 487, 3) := by decide +kernel
theorem dX12_as_5 : decode cX12_as 5 = .ok (.aload_n 0, 1) := by decide +kernel
theorem dX12_as_6 : decode cX12_as 6 = .ok (.getfield 424, 3) := by decide +kernel
theorem dX12_as_9 : decode cX12_as 9 = .ok (.i2l, 1) := by decide +kernel
theorem dX12_as_10 : decode cX12_as 10 = .ok (.invokestatic 325, 3) := by decide +kernel
theorem dX12_as_13 : decode cX12_as 13 = .ok (.ifCond .ne 5, 3) := by decide +kernel
theorem dX12_as_16 : decode cX12_as 16 = .ok (.iconst 0, 1) := by decide +kernel
theorem dX12_as_17 : decode cX12_as 17 = .ok (.ireturn, 1) := by decide +kernel
theorem dX12_as_18 : decode cX12_as 18 = .ok (.aload_n 0, 1) := by decide +kernel
theorem dX12_as_19 : decode cX12_as 19 = .ok (.iload_n 1, 1) := by decide +kernel
theorem dX12_as_20 : decode cX12_as 20 = .ok (.putfield 176, 3) := by decide +kernel
theorem dX12_as_23 : decode cX12_as 23 = .ok (.iconst 1, 1) := by decide +kernel
theorem dX12_as_24 : decode cX12_as 24 = .ok (.ireturn, 1) := by decide +kernel
theorem dX12_now_0 : decode cX12_now 0 = .ok (.aload_n 0, 1) := by decide +kernel
theorem dX12_now_1 : decode cX12_now 1 = .ok (.getfield 176, 3) := by decide +kernel
theorem dX12_now_4 : decode cX12_now 4 = .ok (.iconst (-1), 1) := by decide +kernel
theorem dX12_now_5 : decode cX12_now 5 = .ok (.if_icmp .ne 10, 3) := by decide +kernel
theorem dX12_now_8 : decode cX12_now 8 = .ok (.aload_n 0, 1) := by decide +kernel
theorem dX12_now_9 : decode cX12_now 9 = .ok (.getfield 424, 3) := by decide +kernel
theorem dX12_now_12 : decode cX12_now 12 = .ok (.goto 7, 3) := by decide +kernel
theorem dX12_now_15 : decode cX12_now 15 = .ok (.aload_n 0, 1) := by decide +kernel
theorem dX12_now_16 : decode cX12_now 16 = .ok (.getfield 176, 3) := by decide +kernel
theorem dX12_now_19 : decode cX12_now 19 = .ok (.ireturn, 1) := by decide +kernel
theorem dX12_isKnown_0 : decode cX12_isKnown 0 = .ok (.iload_n 1, 1) := by decide +kernel
theorem dX12_isKnown_1 : decode cX12_isKnown 1 = .ok (.aload_n 0, 1) := by decide +kernel
theorem dX12_isKnown_2 : decode cX12_isKnown 2 = .ok (.invokevirtual 489, 3) := by decide +kernel
theorem dX12_isKnown_5 : decode cX12_isKnown 5 = .ok (.if_icmp .gt 29, 3) := by decide +kernel
theorem dX12_isKnown_8 : decode cX12_isKnown 8 = .ok (.aload_n 0, 1) := by decide +kernel
theorem dX12_isKnown_9 : decode cX12_isKnown 9 = .ok (.getfield 173, 3) := by decide +kernel
theorem dX12_isKnown_12 : decode cX12_isKnown 12 = .ok (.iload_n 1, 1) := by decide +kernel
theorem dX12_isKnown_13 : decode cX12_isKnown 13 = .ok (.iaload, 1) := by decide +kernel
theorem dX12_isKnown_14 : decode cX12_isKnown 14 = .ok (.ifCond .eq 16, 3) := by decide +kernel
theorem dX12_isKnown_17 : decode cX12_isKnown 17 = .ok (.aload_n 0, 1) := by decide +kernel
theorem dX12_isKnown_18 : decode cX12_isKnown 18 = .ok (.getfield 173, 3) := by decide +kernel
theorem dX12_isKnown_21 : decode cX12_isKnown 21 = .ok (.iload_n 1, 1) := by decide +kernel
theorem dX12_isKnown_22 : decode cX12_isKnown 22 = .ok (.iaload, 1) := by decide +kernel
theorem dX12_isKnown_23 : decode cX12_isKnown 23 = .ok (.aload_n 0, 1) := by decide +kernel
theorem dX12_isKnown_24 : decode cX12_isKnown 24 = .ok (.invokevirtual 489, 3) := by decide +kernel
theorem dX12_isKnown_27 : decode cX12_isKnown 27 = .ok (.if_icmp .le 7, 3) := by decide +kernel
theorem dX12_isKnown_30 : decode cX12_isKnown 30 = .ok (.iconst 1, 1) := by decide +kernel
theorem dX12_isKnown_31 : decode cX12_isKnown 31 = .ok (.goto 4, 3) := by decide +kernel
theorem dX12_isKnown_34 : decode cX12_isKnown 34 = .ok (.iconst 0, 1) := by decide +kernel
theorem dX12_isKnown_35 : decode cX12_isKnown 35 = .ok (.ireturn, 1) := by decide +kernel
theorem dX12_isPolicy_0 : decode cX12_isPolicy 0 = .ok (.iload_n 1, 1) := by decide +kernel
theorem dX12_isPolicy_1 : decode cX12_isPolicy 1 = .ok (.i2l, 1) := by decide +kernel
theorem dX12_isPolicy_2 : decode cX12_isPolicy 2 = .ok (.lconst 1, 1) := by decide +kernel
theorem dX12_isPolicy_3 : decode cX12_isPolicy 3 = .ok (.aload_n 0, 1) := by decide +kernel
theorem dX12_isPolicy_4 : decode cX12_isPolicy 4 = .ok (.getfield 424, 3) := by decide +kernel
theorem dX12_isPolicy_7 : decode cX12_isPolicy 7 = .ok (.i2l, 1) := by decide +kernel
theorem dX12_isPolicy_8 : decode cX12_isPolicy 8 = .ok (.invokestatic 325, 3) := by decide +kernel
theorem dX12_isPolicy_11 : decode cX12_isPolicy 11 = .ok (.ifCond .eq 25, 3) := by decide +kernel
theorem dX12_isPolicy_14 : decode cX12_isPolicy 14 = .ok (.aload_n 0, 1) := by decide +kernel
theorem dX12_isPolicy_15 : decode cX12_isPolicy 15 = .ok (.getfield 161, 3) := by decide +kernel
theorem dX12_isPolicy_18 : decode cX12_isPolicy 18 = .ok (.iload_n 1, 1) := by decide +kernel
theorem dX12_isPolicy_19 : decode cX12_isPolicy 19 = .ok (.iaload, 1) := by decide +kernel
theorem dX12_isPolicy_20 : decode cX12_isPolicy 20 = .ok (.iconst 2, 1) := by decide +kernel
theorem dX12_isPolicy_21 : decode cX12_isPolicy 21 = .ok (.if_icmp .ne 15, 3) := by decide +kernel
theorem dX12_isPolicy_24 : decode cX12_isPolicy 24 = .ok (.aload_n 0, 1) := by decide +kernel
theorem dX12_isPolicy_25 : decode cX12_isPolicy 25 = .ok (.iload_n 1, 1) := by decide +kernel
theorem dX12_isPolicy_26 : decode cX12_isPolicy 26 = .ok (.invokevirtual 492, 3) := by decide +kernel
theorem dX12_isPolicy_29 : decode cX12_isPolicy 29 = .ok (.ifCond .eq 7, 3) := by decide +kernel
theorem dX12_isPolicy_32 : decode cX12_isPolicy 32 = .ok (.iconst 1, 1) := by decide +kernel
theorem dX12_isPolicy_33 : decode cX12_isPolicy 33 = .ok (.goto 4, 3) := by decide +kernel
theorem dX12_isPolicy_36 : decode cX12_isPolicy 36 = .ok (.iconst 0, 1) := by decide +kernel
theorem dX12_isPolicy_37 : decode cX12_isPolicy 37 = .ok (.ireturn, 1) := by decide +kernel
theorem dX12_termsOf_0 : decode cX12_termsOf 0 = .ok (.iconst 0, 1) := by decide +kernel
theorem dX12_termsOf_1 : decode cX12_termsOf 1 = .ok (.istore_n 2, 1) := by decide +kernel
theorem dX12_termsOf_2 : decode cX12_termsOf 2 = .ok (.iconst 1, 1) := by decide +kernel
theorem dX12_termsOf_3 : decode cX12_termsOf 3 = .ok (.istore_n 3, 1) := by decide +kernel
theorem dX12_termsOf_4 : decode cX12_termsOf 4 = .ok (.iload_n 3, 1) := by decide +kernel
theorem dX12_termsOf_5 : decode cX12_termsOf 5 = .ok (.aload_n 0, 1) := by decide +kernel
theorem dX12_termsOf_6 : decode cX12_termsOf 6 = .ok (.getfield 424, 3) := by decide +kernel
theorem dX12_termsOf_9 : decode cX12_termsOf 9 = .ok (.if_icmp .gt 39, 3) := by decide +kernel
theorem dX12_termsOf_12 : decode cX12_termsOf 12 = .ok (.aload_n 0, 1) := by decide +kernel
theorem dX12_termsOf_13 : decode cX12_termsOf 13 = .ok (.getfield 161, 3) := by decide +kernel
theorem dX12_termsOf_16 : decode cX12_termsOf 16 = .ok (.iload_n 3, 1) := by decide +kernel
theorem dX12_termsOf_17 : decode cX12_termsOf 17 = .ok (.iaload, 1) := by decide +kernel
theorem dX12_termsOf_18 : decode cX12_termsOf 18 = .ok (.iconst 1, 1) := by decide +kernel
theorem dX12_termsOf_19 : decode cX12_termsOf 19 = .ok (.if_icmp .ne 23, 3) := by decide +kernel
theorem dX12_termsOf_22 : decode cX12_termsOf 22 = .ok (.aload_n 0, 1) := by decide +kernel
theorem dX12_termsOf_23 : decode cX12_termsOf 23 = .ok (.getfield 164, 3) := by decide +kernel
theorem dX12_termsOf_26 : decode cX12_termsOf 26 = .ok (.iload_n 3, 1) := by decide +kernel
theorem dX12_termsOf_27 : decode cX12_termsOf 27 = .ok (.iaload, 1) := by decide +kernel
theorem dX12_termsOf_28 : decode cX12_termsOf 28 = .ok (.iload_n 1, 1) := by decide +kernel
theorem dX12_termsOf_29 : decode cX12_termsOf 29 = .ok (.if_icmp .ne 13, 3) := by decide +kernel
theorem dX12_termsOf_32 : decode cX12_termsOf 32 = .ok (.aload_n 0, 1) := by decide +kernel
theorem dX12_termsOf_33 : decode cX12_termsOf 33 = .ok (.iload_n 3, 1) := by decide +kernel
theorem dX12_termsOf_34 : decode cX12_termsOf 34 = .ok (.invokevirtual 492, 3) := by decide +kernel
theorem dX12_termsOf_37 : decode cX12_termsOf 37 = .ok (.ifCond .eq 5, 3) := by decide +kernel
theorem dX12_termsOf_40 : decode cX12_termsOf 40 = .ok (.iload_n 3, 1) := by decide +kernel
theorem dX12_termsOf_41 : decode cX12_termsOf 41 = .ok (.istore_n 2, 1) := by decide +kernel
theorem dX12_termsOf_42 : decode cX12_termsOf 42 = .ok (.iinc 3 1, 3) := by decide +kernel
theorem dX12_termsOf_45 : decode cX12_termsOf 45 = .ok (.goto (-41), 3) := by decide +kernel
theorem dX12_termsOf_48 : decode cX12_termsOf 48 = .ok (.iload_n 2, 1) := by decide +kernel
theorem dX12_termsOf_49 : decode cX12_termsOf 49 = .ok (.ireturn, 1) := by decide +kernel
theorem dX12_force_0 : decode cX12_force 0 = .ok (.iload_n 1, 1) := by decide +kernel
theorem dX12_force_1 : decode cX12_force 1 = .ok (.invokestatic 451, 3) := by decide +kernel
theorem dX12_force_4 : decode cX12_force 4 = .ok (.ifCond .ne 5, 3) := by decide +kernel
theorem dX12_force_7 : decode cX12_force 7 = .ok (.iconst (-1), 1) := by decide +kernel
theorem dX12_force_8 : decode cX12_force 8 = .ok (.ireturn, 1) := by decide +kernel
theorem dX12_force_9 : decode cX12_force 9 = .ok (.aload_n 0, 1) := by decide +kernel
theorem dX12_force_10 : decode cX12_force 10 = .ok (.iload_n 1, 1) := by decide +kernel
theorem dX12_force_11 : decode cX12_force 11 = .ok (.invokevirtual 495, 3) := by decide +kernel
theorem dX12_force_14 : decode cX12_force 14 = .ok (.istore_n 2, 1) := by decide +kernel
theorem dX12_force_15 : decode cX12_force 15 = .ok (.iload_n 2, 1) := by decide +kernel
theorem dX12_force_16 : decode cX12_force 16 = .ok (.ifCond .ne 7, 3) := by decide +kernel
theorem dX12_force_19 : decode cX12_force 19 = .ok (.iconst (-1), 1) := by decide +kernel
theorem dX12_force_20 : decode cX12_force 20 = .ok (.goto 9, 3) := by decide +kernel
theorem dX12_force_23 : decode cX12_force 23 = .ok (.aload_n 0, 1) := by decide +kernel
theorem dX12_force_24 : decode cX12_force 24 = .ok (.getfield 87, 3) := by decide +kernel
theorem dX12_force_27 : decode cX12_force 27 = .ok (.iload_n 2, 1) := by decide +kernel
theorem dX12_force_28 : decode cX12_force 28 = .ok (.iaload, 1) := by decide +kernel
theorem dX12_force_29 : decode cX12_force 29 = .ok (.ireturn, 1) := by decide +kernel
theorem dX12_clip_0 : decode cX12_clip 0 = .ok (.lload_n 0, 1) := by decide +kernel
theorem dX12_clip_1 : decode cX12_clip 1 = .ok (.ldc2_w 498, 3) := by decide +kernel
theorem dX12_clip_4 : decode cX12_clip 4 = .ok (.lcmp, 1) := by decide +kernel
theorem dX12_clip_5 : decode cX12_clip 5 = .ok (.ifCond .le 9, 3) := by decide +kernel
theorem dX12_clip_8 : decode cX12_clip 8 = .ok (.ldc2_w 498, 3) := by decide +kernel
theorem dX12_clip_11 : decode cX12_clip 11 = .ok (.goto 18, 3) := by decide +kernel
theorem dX12_clip_14 : decode cX12_clip 14 = .ok (.lload_n 0, 1) := by decide +kernel
theorem dX12_clip_15 : decode cX12_clip 15 = .ok (.ldc2_w 500, 3) := by decide +kernel
theorem dX12_clip_18 : decode cX12_clip 18 = .ok (.lcmp, 1) := by decide +kernel
theorem dX12_clip_19 : decode cX12_clip 19 = .ok (.ifCond .ge 9, 3) := by decide +kernel
theorem dX12_clip_22 : decode cX12_clip 22 = .ok (.ldc2_w 500, 3) := by decide +kernel
theorem dX12_clip_25 : decode cX12_clip 25 = .ok (.goto 4, 3) := by decide +kernel
theorem dX12_clip_28 : decode cX12_clip 28 = .ok (.lload_n 0, 1) := by decide +kernel
theorem dX12_clip_29 : decode cX12_clip 29 = .ok (.lreturn, 1) := by decide +kernel
theorem dX12_floor_0 : decode cX12_floor 0 = .ok (.lload_n 2, 1) := by decide +kernel
theorem dX12_floor_1 : decode cX12_floor 1 = .ok (.lconst 0, 1) := by decide +kernel
theorem dX12_floor_2 : decode cX12_floor 2 = .ok (.lcmp, 1) := by decide +kernel
theorem dX12_floor_3 : decode cX12_floor 3 = .ok (.ifCond .ne 5, 3) := by decide +kernel
theorem dX12_floor_6 : decode cX12_floor 6 = .ok (.lconst 0, 1) := by decide +kernel
theorem dX12_floor_7 : decode cX12_floor 7 = .ok (.lreturn, 1) := by decide +kernel
theorem dX12_floor_8 : decode cX12_floor 8 = .ok (.lload_n 0, 1) := by decide +kernel
theorem dX12_floor_9 : decode cX12_floor 9 = .ok (.lload_n 2, 1) := by decide +kernel
theorem dX12_floor_10 : decode cX12_floor 10 = .ok (.ldiv, 1) := by decide +kernel
theorem dX12_floor_11 : decode cX12_floor 11 = .ok (.lstore 4, 2) := by decide +kernel
theorem dX12_floor_13 : decode cX12_floor 13 = .ok (.lload_n 0, 1) := by decide +kernel
theorem dX12_floor_14 : decode cX12_floor 14 = .ok (.lload_n 2, 1) := by decide +kernel
theorem dX12_floor_15 : decode cX12_floor 15 = .ok (.lrem, 1) := by decide +kernel
theorem dX12_floor_16 : decode cX12_floor 16 = .ok (.lconst 0, 1) := by decide +kernel
theorem dX12_floor_17 : decode cX12_floor 17 = .ok (.lcmp, 1) := by decide +kernel
theorem dX12_floor_18 : decode cX12_floor 18 = .ok (.ifCond .eq 35, 3) := by decide +kernel
theorem dX12_floor_21 : decode cX12_floor 21 = .ok (.lload_n 0, 1) := by decide +kernel
theorem dX12_floor_22 : decode cX12_floor 22 = .ok (.lconst 0, 1) := by decide +kernel
theorem dX12_floor_23 : decode cX12_floor 23 = .ok (.lcmp, 1) := by decide +kernel
theorem dX12_floor_24 : decode cX12_floor 24 = .ok (.ifCond .ge 7, 3) := by decide +kernel
theorem dX12_floor_27 : decode cX12_floor 27 = .ok (.iconst 1, 1) := by decide +kernel
theorem dX12_floor_28 : decode cX12_floor 28 = .ok (.goto 4, 3) := by decide +kernel
theorem dX12_floor_31 : decode cX12_floor 31 = .ok (.iconst 0, 1) := by decide +kernel
theorem dX12_floor_32 : decode cX12_floor 32 = .ok (.lload_n 2, 1) := by decide +kernel
theorem dX12_floor_33 : decode cX12_floor 33 = .ok (.lconst 0, 1) := by decide +kernel
theorem dX12_floor_34 : decode cX12_floor 34 = .ok (.lcmp, 1) := by decide +kernel
theorem dX12_floor_35 : decode cX12_floor 35 = .ok (.ifCond .ge 7, 3) := by decide +kernel
theorem dX12_floor_38 : decode cX12_floor 38 = .ok (.iconst 1, 1) := by decide +kernel
theorem dX12_floor_39 : decode cX12_floor 39 = .ok (.goto 4, 3) := by decide +kernel
theorem dX12_floor_42 : decode cX12_floor 42 = .ok (.iconst 0, 1) := by decide +kernel
theorem dX12_floor_43 : decode cX12_floor 43 = .ok (.if_icmp .eq 10, 3) := by decide +kernel
theorem dX12_floor_46 : decode cX12_floor 46 = .ok (.lload 4, 2) := by decide +kernel
theorem dX12_floor_48 : decode cX12_floor 48 = .ok (.lconst 1, 1) := by decide +kernel
theorem dX12_floor_49 : decode cX12_floor 49 = .ok (.lsub, 1) := by decide +kernel
theorem dX12_floor_50 : decode cX12_floor 50 = .ok (.goto 5, 3) := by decide +kernel
theorem dX12_floor_53 : decode cX12_floor 53 = .ok (.lload 4, 2) := by decide +kernel
theorem dX12_floor_55 : decode cX12_floor 55 = .ok (.lreturn, 1) := by decide +kernel
theorem dX12_puts_0 : decode cX12_puts 0 = .ok (.aload_n 0, 1) := by decide +kernel
theorem dX12_puts_1 : decode cX12_puts 1 = .ok (.getfield 179, 3) := by decide +kernel
theorem dX12_puts_4 : decode cX12_puts 4 = .ok (.aload_n 0, 1) := by decide +kernel
theorem dX12_puts_5 : decode cX12_puts 5 = .ok (.getfield 502, 3) := by decide +kernel
theorem dX12_puts_8 : decode cX12_puts 8 = .ok (.lload_n 1, 1) := by decide +kernel
theorem dX12_puts_9 : decode cX12_puts 9 = .ok (.lastore, 1) := by decide +kernel
theorem dX12_puts_10 : decode cX12_puts 10 = .ok (.aload_n 0, 1) := by decide +kernel
theorem dX12_puts_11 : decode cX12_puts 11 = .ok (.dup, 1) := by decide +kernel
theorem dX12_puts_12 : decode cX12_puts 12 = .ok (.getfield 502, 3) := by decide +kernel
theorem dX12_puts_15 : decode cX12_puts 15 = .ok (.iconst 1, 1) := by decide +kernel
theorem dX12_puts_16 : decode cX12_puts 16 = .ok (.iadd, 1) := by decide +kernel
theorem dX12_puts_17 : decode cX12_puts 17 = .ok (.putfield 502, 3) := by decide +kernel
theorem dX12_puts_20 : decode cX12_puts 20 = .ok (.return_, 1) := by decide +kernel
theorem dX12_joins_0 : decode cX12_joins 0 = .ok (.aload_n 0, 1) := by decide +kernel
theorem dX12_joins_1 : decode cX12_joins 1 = .ok (.getfield 179, 3) := by decide +kernel
theorem dX12_joins_4 : decode cX12_joins 4 = .ok (.aload_n 0, 1) := by decide +kernel
theorem dX12_joins_5 : decode cX12_joins 5 = .ok (.getfield 502, 3) := by decide +kernel
theorem dX12_joins_8 : decode cX12_joins 8 = .ok (.iconst 1, 1) := by decide +kernel
theorem dX12_joins_9 : decode cX12_joins 9 = .ok (.isub, 1) := by decide +kernel
theorem dX12_joins_10 : decode cX12_joins 10 = .ok (.laload, 1) := by decide +kernel
theorem dX12_joins_11 : decode cX12_joins 11 = .ok (.lstore_n 2, 1) := by decide +kernel
theorem dX12_joins_12 : decode cX12_joins 12 = .ok (.aload_n 0, 1) := by decide +kernel
theorem dX12_joins_13 : decode cX12_joins 13 = .ok (.getfield 179, 3) := by decide +kernel
theorem dX12_joins_16 : decode cX12_joins 16 = .ok (.aload_n 0, 1) := by decide +kernel
theorem dX12_joins_17 : decode cX12_joins 17 = .ok (.getfield 502, 3) := by decide +kernel
theorem dX12_joins_20 : decode cX12_joins 20 = .ok (.iconst 2, 1) := by decide +kernel
theorem dX12_joins_21 : decode cX12_joins 21 = .ok (.isub, 1) := by decide +kernel
theorem dX12_joins_22 : decode cX12_joins 22 = .ok (.laload, 1) := by decide +kernel
theorem dX12_joins_23 : decode cX12_joins 23 = .ok (.lstore 4, 2) := by decide +kernel
theorem dX12_joins_25 : decode cX12_joins 25 = .ok (.aload_n 0, 1) := by decide +kernel
theorem dX12_joins_26 : decode cX12_joins 26 = .ok (.dup, 1) := by decide +kernel
theorem dX12_joins_27 : decode cX12_joins 27 = .ok (.getfield 502, 3) := by decide +kernel
theorem dX12_joins_30 : decode cX12_joins 30 = .ok (.iconst 2, 1) := by decide +kernel
theorem dX12_joins_31 : decode cX12_joins 31 = .ok (.isub, 1) := by decide +kernel
theorem dX12_joins_32 : decode cX12_joins 32 = .ok (.putfield 502, 3) := by decide +kernel
theorem dX12_joins_35 : decode cX12_joins 35 = .ok (.iload_n 1, 1) := by decide +kernel
theorem dX12_joins_36 : decode cX12_joins 36 = .ok (.tableswitch 235 1 14 #[72, 86, 100, 114, 127, 147, 235, 235, 235, 235, 167, 186, 205, 224], 72) := by decide +kernel
theorem dX12_joins_108 : decode cX12_joins 108 = .ok (.aload_n 0, 1) := by decide +kernel
theorem dX12_joins_109 : decode cX12_joins 109 = .ok (.lload 4, 2) := by decide +kernel
theorem dX12_joins_111 : decode cX12_joins 111 = .ok (.lload_n 2, 1) := by decide +kernel
theorem dX12_joins_112 : decode cX12_joins 112 = .ok (.ladd, 1) := by decide +kernel
theorem dX12_joins_113 : decode cX12_joins 113 = .ok (.invokestatic 505, 3) := by decide +kernel
theorem dX12_joins_116 : decode cX12_joins 116 = .ok (.invokevirtual 509, 3) := by decide +kernel
theorem dX12_joins_119 : decode cX12_joins 119 = .ok (.goto 170, 3) := by decide +kernel
theorem dX12_joins_122 : decode cX12_joins 122 = .ok (.aload_n 0, 1) := by decide +kernel
theorem dX12_joins_123 : decode cX12_joins 123 = .ok (.lload 4, 2) := by decide +kernel
theorem dX12_joins_125 : decode cX12_joins 125 = .ok (.lload_n 2, 1) := by decide +kernel
theorem dX12_joins_126 : decode cX12_joins 126 = .ok (.lsub, 1) := by decide +kernel
theorem dX12_joins_127 : decode cX12_joins 127 = .ok (.invokestatic 505, 3) := by decide +kernel
theorem dX12_joins_130 : decode cX12_joins 130 = .ok (.invokevirtual 509, 3) := by decide +kernel
theorem dX12_joins_133 : decode cX12_joins 133 = .ok (.goto 156, 3) := by decide +kernel
theorem dX12_joins_136 : decode cX12_joins 136 = .ok (.aload_n 0, 1) := by decide +kernel
theorem dX12_joins_137 : decode cX12_joins 137 = .ok (.lload 4, 2) := by decide +kernel
theorem dX12_joins_139 : decode cX12_joins 139 = .ok (.lload_n 2, 1) := by decide +kernel
theorem dX12_joins_140 : decode cX12_joins 140 = .ok (.lmul, 1) := by decide +kernel
theorem dX12_joins_141 : decode cX12_joins 141 = .ok (.invokestatic 505, 3) := by decide +kernel
theorem dX12_joins_144 : decode cX12_joins 144 = .ok (.invokevirtual 509, 3) := by decide +kernel
theorem dX12_joins_147 : decode cX12_joins 147 = .ok (.goto 142, 3) := by decide +kernel
theorem dX12_joins_150 : decode cX12_joins 150 = .ok (.aload_n 0, 1) := by decide +kernel
theorem dX12_joins_151 : decode cX12_joins 151 = .ok (.lload 4, 2) := by decide +kernel
theorem dX12_joins_153 : decode cX12_joins 153 = .ok (.lload_n 2, 1) := by decide +kernel
theorem dX12_joins_154 : decode cX12_joins 154 = .ok (.invokestatic 513, 3) := by decide +kernel
theorem dX12_joins_157 : decode cX12_joins 157 = .ok (.invokevirtual 509, 3) := by decide +kernel
theorem dX12_joins_160 : decode cX12_joins 160 = .ok (.goto 129, 3) := by decide +kernel
theorem dX12_joins_163 : decode cX12_joins 163 = .ok (.aload_n 0, 1) := by decide +kernel
theorem dX12_joins_164 : decode cX12_joins 164 = .ok (.lload 4, 2) := by decide +kernel
theorem dX12_joins_166 : decode cX12_joins 166 = .ok (.lload_n 2, 1) := by decide +kernel
theorem dX12_joins_167 : decode cX12_joins 167 = .ok (.lcmp, 1) := by decide +kernel
theorem dX12_joins_168 : decode cX12_joins 168 = .ok (.ifCond .ge 8, 3) := by decide +kernel
theorem dX12_joins_171 : decode cX12_joins 171 = .ok (.lload 4, 2) := by decide +kernel
theorem dX12_joins_173 : decode cX12_joins 173 = .ok (.goto 4, 3) := by decide +kernel
theorem dX12_joins_176 : decode cX12_joins 176 = .ok (.lload_n 2, 1) := by decide +kernel
theorem dX12_joins_177 : decode cX12_joins 177 = .ok (.invokevirtual 509, 3) := by decide +kernel
theorem dX12_joins_180 : decode cX12_joins 180 = .ok (.goto 109, 3) := by decide +kernel
theorem dX12_joins_183 : decode cX12_joins 183 = .ok (.aload_n 0, 1) := by decide +kernel
theorem dX12_joins_184 : decode cX12_joins 184 = .ok (.lload 4, 2) := by decide +kernel
theorem dX12_joins_186 : decode cX12_joins 186 = .ok (.lload_n 2, 1) := by decide +kernel
theorem dX12_joins_187 : decode cX12_joins 187 = .ok (.lcmp, 1) := by decide +kernel
theorem dX12_joins_188 : decode cX12_joins 188 = .ok (.ifCond .le 8, 3) := by decide +kernel
theorem dX12_joins_191 : decode cX12_joins 191 = .ok (.lload 4, 2) := by decide +kernel
theorem dX12_joins_193 : decode cX12_joins 193 = .ok (.goto 4, 3) := by decide +kernel
theorem dX12_joins_196 : decode cX12_joins 196 = .ok (.lload_n 2, 1) := by decide +kernel
theorem dX12_joins_197 : decode cX12_joins 197 = .ok (.invokevirtual 509, 3) := by decide +kernel
theorem dX12_joins_200 : decode cX12_joins 200 = .ok (.goto 89, 3) := by decide +kernel
theorem dX12_joins_203 : decode cX12_joins 203 = .ok (.aload_n 0, 1) := by decide +kernel
theorem dX12_joins_204 : decode cX12_joins 204 = .ok (.lload 4, 2) := by decide +kernel
theorem dX12_joins_206 : decode cX12_joins 206 = .ok (.lload_n 2, 1) := by decide +kernel
theorem dX12_joins_207 : decode cX12_joins 207 = .ok (.lcmp, 1) := by decide +kernel
theorem dX12_joins_208 : decode cX12_joins 208 = .ok (.ifCond .ge 7, 3) := by decide +kernel
theorem dX12_joins_211 : decode cX12_joins 211 = .ok (.lconst 1, 1) := by decide +kernel
theorem dX12_joins_212 : decode cX12_joins 212 = .ok (.goto 4, 3) := by decide +kernel
theorem dX12_joins_215 : decode cX12_joins 215 = .ok (.lconst 0, 1) := by decide +kernel
theorem dX12_joins_216 : decode cX12_joins 216 = .ok (.invokevirtual 509, 3) := by decide +kernel
theorem dX12_joins_219 : decode cX12_joins 219 = .ok (.goto 70, 3) := by decide +kernel
theorem dX12_joins_222 : decode cX12_joins 222 = .ok (.aload_n 0, 1) := by decide +kernel
theorem dX12_joins_223 : decode cX12_joins 223 = .ok (.lload 4, 2) := by decide +kernel
theorem dX12_joins_225 : decode cX12_joins 225 = .ok (.lload_n 2, 1) := by decide +kernel
theorem dX12_joins_226 : decode cX12_joins 226 = .ok (.lcmp, 1) := by decide +kernel
theorem dX12_joins_227 : decode cX12_joins 227 = .ok (.ifCond .le 7, 3) := by decide +kernel
theorem dX12_joins_230 : decode cX12_joins 230 = .ok (.lconst 1, 1) := by decide +kernel
theorem dX12_joins_231 : decode cX12_joins 231 = .ok (.goto 4, 3) := by decide +kernel
theorem dX12_joins_234 : decode cX12_joins 234 = .ok (.lconst 0, 1) := by decide +kernel
theorem dX12_joins_235 : decode cX12_joins 235 = .ok (.invokevirtual 509, 3) := by decide +kernel
theorem dX12_joins_238 : decode cX12_joins 238 = .ok (.goto 51, 3) := by decide +kernel
theorem dX12_joins_241 : decode cX12_joins 241 = .ok (.aload_n 0, 1) := by decide +kernel
theorem dX12_joins_242 : decode cX12_joins 242 = .ok (.lload 4, 2) := by decide +kernel
theorem dX12_joins_244 : decode cX12_joins 244 = .ok (.lload_n 2, 1) := by decide +kernel
theorem dX12_joins_245 : decode cX12_joins 245 = .ok (.lcmp, 1) := by decide +kernel
theorem dX12_joins_246 : decode cX12_joins 246 = .ok (.ifCond .ne 7, 3) := by decide +kernel
theorem dX12_joins_249 : decode cX12_joins 249 = .ok (.lconst 1, 1) := by decide +kernel
theorem dX12_joins_250 : decode cX12_joins 250 = .ok (.goto 4, 3) := by decide +kernel
theorem dX12_joins_253 : decode cX12_joins 253 = .ok (.lconst 0, 1) := by decide +kernel
theorem dX12_joins_254 : decode cX12_joins 254 = .ok (.invokevirtual 509, 3) := by decide +kernel
theorem dX12_joins_257 : decode cX12_joins 257 = .ok (.goto 32, 3) := by decide +kernel
theorem dX12_joins_260 : decode cX12_joins 260 = .ok (.aload_n 0, 1) := by decide +kernel
theorem dX12_joins_261 : decode cX12_joins 261 = .ok (.lload 4, 2) := by decide +kernel
theorem dX12_joins_263 : decode cX12_joins 263 = .ok (.lload_n 2, 1) := by decide +kernel
theorem dX12_joins_264 : decode cX12_joins 264 = .ok (.lmul, 1) := by decide +kernel
theorem dX12_joins_265 : decode cX12_joins 265 = .ok (.invokevirtual 509, 3) := by decide +kernel
theorem dX12_joins_268 : decode cX12_joins 268 = .ok (.goto 21, 3) := by decide +kernel
theorem dX12_joins_271 : decode cX12_joins 271 = .ok (.aload_n 0, 1) := by decide +kernel
theorem dX12_joins_272 : decode cX12_joins 272 = .ok (.lload 4, 2) := by decide +kernel
theorem dX12_joins_274 : decode cX12_joins 274 = .ok (.lload_n 2, 1) := by decide +kernel
theorem dX12_joins_275 : decode cX12_joins 275 = .ok (.ladd, 1) := by decide +kernel
theorem dX12_joins_276 : decode cX12_joins 276 = .ok (.lconst 0, 1) := by decide +kernel
theorem dX12_joins_277 : decode cX12_joins 277 = .ok (.lcmp, 1) := by decide +kernel
theorem dX12_joins_278 : decode cX12_joins 278 = .ok (.ifCond .le 7, 3) := by decide +kernel
theorem dX12_joins_281 : decode cX12_joins 281 = .ok (.lconst 1, 1) := by decide +kernel
theorem dX12_joins_282 : decode cX12_joins 282 = .ok (.goto 4, 3) := by decide +kernel
theorem dX12_joins_285 : decode cX12_joins 285 = .ok (.lconst 0, 1) := by decide +kernel
theorem dX12_joins_286 : decode cX12_joins 286 = .ok (.invokevirtual 509, 3) := by decide +kernel
theorem dX12_joins_289 : decode cX12_joins 289 = .ok (.return_, 1) := by decide +kernel
theorem dX12_policiesOn_0 : decode cX12_policiesOn 0 = .ok (.iconst 0, 1) := by decide +kernel
theorem dX12_policiesOn_1 : decode cX12_policiesOn 1 = .ok (.istore_n 2, 1) := by decide +kernel
theorem dX12_policiesOn_2 : decode cX12_policiesOn 2 = .ok (.iconst 1, 1) := by decide +kernel
theorem dX12_policiesOn_3 : decode cX12_policiesOn 3 = .ok (.istore_n 3, 1) := by decide +kernel
theorem dX12_policiesOn_4 : decode cX12_policiesOn 4 = .ok (.iload_n 3, 1) := by decide +kernel
theorem dX12_policiesOn_5 : decode cX12_policiesOn 5 = .ok (.aload_n 0, 1) := by decide +kernel
theorem dX12_policiesOn_6 : decode cX12_policiesOn 6 = .ok (.getfield 424, 3) := by decide +kernel
theorem dX12_policiesOn_9 : decode cX12_policiesOn 9 = .ok (.if_icmp .gt 30, 3) := by decide +kernel
theorem dX12_policiesOn_12 : decode cX12_policiesOn 12 = .ok (.aload_n 0, 1) := by decide +kernel
theorem dX12_policiesOn_13 : decode cX12_policiesOn 13 = .ok (.iload_n 3, 1) := by decide +kernel
theorem dX12_policiesOn_14 : decode cX12_policiesOn 14 = .ok (.invokevirtual 517, 3) := by decide +kernel
theorem dX12_policiesOn_17 : decode cX12_policiesOn 17 = .ok (.ifCond .eq 16, 3) := by decide +kernel
theorem dX12_policiesOn_20 : decode cX12_policiesOn 20 = .ok (.aload_n 0, 1) := by decide +kernel
theorem dX12_policiesOn_21 : decode cX12_policiesOn 21 = .ok (.getfield 167, 3) := by decide +kernel
theorem dX12_policiesOn_24 : decode cX12_policiesOn 24 = .ok (.iload_n 3, 1) := by decide +kernel
theorem dX12_policiesOn_25 : decode cX12_policiesOn 25 = .ok (.iaload, 1) := by decide +kernel
theorem dX12_policiesOn_26 : decode cX12_policiesOn 26 = .ok (.iload_n 1, 1) := by decide +kernel
theorem dX12_policiesOn_27 : decode cX12_policiesOn 27 = .ok (.if_icmp .ne 6, 3) := by decide +kernel
theorem dX12_policiesOn_30 : decode cX12_policiesOn 30 = .ok (.iinc 2 1, 3) := by decide +kernel
theorem dX12_policiesOn_33 : decode cX12_policiesOn 33 = .ok (.iinc 3 1, 3) := by decide +kernel
theorem dX12_policiesOn_36 : decode cX12_policiesOn 36 = .ok (.goto (-32), 3) := by decide +kernel
theorem dX12_policiesOn_39 : decode cX12_policiesOn 39 = .ok (.iload_n 2, 1) := by decide +kernel
theorem dX12_policiesOn_40 : decode cX12_policiesOn 40 = .ok (.ireturn, 1) := by decide +kernel
theorem dX12_hasPolicy_0 : decode cX12_hasPolicy 0 = .ok (.iconst 1, 1) := by decide +kernel
theorem dX12_hasPolicy_1 : decode cX12_hasPolicy 1 = .ok (.istore_n 3, 1) := by decide +kernel
theorem dX12_hasPolicy_2 : decode cX12_hasPolicy 2 = .ok (.iload_n 3, 1) := by decide +kernel
theorem dX12_hasPolicy_3 : decode cX12_hasPolicy 3 = .ok (.aload_n 0, 1) := by decide +kernel
theorem dX12_hasPolicy_4 : decode cX12_hasPolicy 4 = .ok (.getfield 424, 3) := by decide +kernel
theorem dX12_hasPolicy_7 : decode cX12_hasPolicy 7 = .ok (.if_icmp .gt 39, 3) := by decide +kernel
theorem dX12_hasPolicy_10 : decode cX12_hasPolicy 10 = .ok (.aload_n 0, 1) := by decide +kernel
theorem dX12_hasPolicy_11 : decode cX12_hasPolicy 11 = .ok (.iload_n 3, 1) := by decide +kernel
theorem dX12_hasPolicy_12 : decode cX12_hasPolicy 12 = .ok (.invokevirtual 517, 3) := by decide +kernel
theorem dX12_hasPolicy_15 : decode cX12_hasPolicy 15 = .ok (.ifCond .eq 25, 3) := by decide +kernel
theorem dX12_hasPolicy_18 : decode cX12_hasPolicy 18 = .ok (.aload_n 0, 1) := by decide +kernel
theorem dX12_hasPolicy_19 : decode cX12_hasPolicy 19 = .ok (.getfield 167, 3) := by decide +kernel
theorem dX12_hasPolicy_22 : decode cX12_hasPolicy 22 = .ok (.iload_n 3, 1) := by decide +kernel
theorem dX12_hasPolicy_23 : decode cX12_hasPolicy 23 = .ok (.iaload, 1) := by decide +kernel
theorem dX12_hasPolicy_24 : decode cX12_hasPolicy 24 = .ok (.iload_n 2, 1) := by decide +kernel
theorem dX12_hasPolicy_25 : decode cX12_hasPolicy 25 = .ok (.if_icmp .ne 15, 3) := by decide +kernel
theorem dX12_hasPolicy_28 : decode cX12_hasPolicy 28 = .ok (.aload_n 0, 1) := by decide +kernel
theorem dX12_hasPolicy_29 : decode cX12_hasPolicy 29 = .ok (.getfield 164, 3) := by decide +kernel
theorem dX12_hasPolicy_32 : decode cX12_hasPolicy 32 = .ok (.iload_n 3, 1) := by decide +kernel
theorem dX12_hasPolicy_33 : decode cX12_hasPolicy 33 = .ok (.iaload, 1) := by decide +kernel
theorem dX12_hasPolicy_34 : decode cX12_hasPolicy 34 = .ok (.iload_n 1, 1) := by decide +kernel
theorem dX12_hasPolicy_35 : decode cX12_hasPolicy 35 = .ok (.if_icmp .ne 5, 3) := by decide +kernel
theorem dX12_hasPolicy_38 : decode cX12_hasPolicy 38 = .ok (.iconst 1, 1) := by decide +kernel
theorem dX12_hasPolicy_39 : decode cX12_hasPolicy 39 = .ok (.ireturn, 1) := by decide +kernel
theorem dX12_hasPolicy_40 : decode cX12_hasPolicy 40 = .ok (.iinc 3 1, 3) := by decide +kernel
theorem dX12_hasPolicy_43 : decode cX12_hasPolicy 43 = .ok (.goto (-41), 3) := by decide +kernel
theorem dX12_hasPolicy_46 : decode cX12_hasPolicy 46 = .ok (.iconst 0, 1) := by decide +kernel
theorem dX12_hasPolicy_47 : decode cX12_hasPolicy 47 = .ok (.ireturn, 1) := by decide +kernel
theorem dX12_near_0 : decode cX12_near 0 = .ok (.iconst 0, 1) := by decide +kernel
theorem dX12_near_1 : decode cX12_near 1 = .ok (.istore_n 2, 1) := by decide +kernel
theorem dX12_near_2 : decode cX12_near 2 = .ok (.iconst 0, 1) := by decide +kernel
theorem dX12_near_3 : decode cX12_near 3 = .ok (.istore_n 3, 1) := by decide +kernel
theorem dX12_near_4 : decode cX12_near 4 = .ok (.iload_n 3, 1) := by decide +kernel
theorem dX12_near_5 : decode cX12_near 5 = .ok (.bipush 8, 2) := by decide +kernel
theorem dX12_near_7 : decode cX12_near 7 = .ok (.if_icmp .ge 36, 3) := by decide +kernel
theorem dX12_near_10 : decode cX12_near 10 = .ok (.aload_n 0, 1) := by decide +kernel
theorem dX12_near_11 : decode cX12_near 11 = .ok (.iload_n 1, 1) := by decide +kernel
theorem dX12_near_12 : decode cX12_near 12 = .ok (.iload_n 3, 1) := by decide +kernel
theorem dX12_near_13 : decode cX12_near 13 = .ok (.invokevirtual 520, 3) := by decide +kernel
theorem dX12_near_16 : decode cX12_near 16 = .ok (.iconst (-1), 1) := by decide +kernel
theorem dX12_near_17 : decode cX12_near 17 = .ok (.if_icmp .eq 20, 3) := by decide +kernel
theorem dX12_near_20 : decode cX12_near 20 = .ok (.aload_n 0, 1) := by decide +kernel
theorem dX12_near_21 : decode cX12_near 21 = .ok (.getfield 121, 3) := by decide +kernel
theorem dX12_near_24 : decode cX12_near 24 = .ok (.aload_n 0, 1) := by decide +kernel
theorem dX12_near_25 : decode cX12_near 25 = .ok (.iload_n 1, 1) := by decide +kernel
theorem dX12_near_26 : decode cX12_near 26 = .ok (.iload_n 3, 1) := by decide +kernel
theorem dX12_near_27 : decode cX12_near 27 = .ok (.invokevirtual 520, 3) := by decide +kernel
theorem dX12_near_30 : decode cX12_near 30 = .ok (.baload, 1) := by decide +kernel
theorem dX12_near_31 : decode cX12_near 31 = .ok (.ifCond .eq 6, 3) := by decide +kernel
theorem dX12_near_34 : decode cX12_near 34 = .ok (.iinc 2 1, 3) := by decide +kernel
theorem dX12_near_37 : decode cX12_near 37 = .ok (.iinc 3 1, 3) := by decide +kernel
theorem dX12_near_40 : decode cX12_near 40 = .ok (.goto (-36), 3) := by decide +kernel
theorem dX12_near_43 : decode cX12_near 43 = .ok (.iload_n 2, 1) := by decide +kernel
theorem dX12_near_44 : decode cX12_near 44 = .ok (.ireturn, 1) := by decide +kernel
theorem dX12_asksOf_0 : decode cX12_asksOf 0 = .ok (.aload_n 0, 1) := by decide +kernel
theorem dX12_asksOf_1 : decode cX12_asksOf 1 = .ok (.iload_n 1, 1) := by decide +kernel
theorem dX12_asksOf_2 : decode cX12_asksOf 2 = .ok (.putfield 523, 3) := by decide +kernel
theorem dX12_asksOf_5 : decode cX12_asksOf 5 = .ok (.aload_n 0, 1) := by decide +kernel
theorem dX12_asksOf_6 : decode cX12_asksOf 6 = .ok (.iload_n 2, 1) := by decide +kernel
theorem dX12_asksOf_7 : decode cX12_asksOf 7 = .ok (.putfield 526, 3) := by decide +kernel
theorem dX12_asksOf_10 : decode cX12_asksOf 10 = .ok (.aload_n 0, 1) := by decide +kernel
theorem dX12_asksOf_11 : decode cX12_asksOf 11 = .ok (.iload_n 3, 1) := by decide +kernel
theorem dX12_asksOf_12 : decode cX12_asksOf 12 = .ok (.putfield 529, 3) := by decide +kernel
theorem dX12_asksOf_15 : decode cX12_asksOf 15 = .ok (.aload_n 0, 1) := by decide +kernel
theorem dX12_asksOf_16 : decode cX12_asksOf 16 = .ok (.iload 4, 2) := by decide +kernel
theorem dX12_asksOf_18 : decode cX12_asksOf 18 = .ok (.putfield 532, 3) := by decide +kernel
theorem dX12_asksOf_21 : decode cX12_asksOf 21 = .ok (.return_, 1) := by decide +kernel
theorem dX12_tells_0 : decode cX12_tells 0 = .ok (.aload_n 0, 1) := by decide +kernel
theorem dX12_tells_1 : decode cX12_tells 1 = .ok (.iconst 0, 1) := by decide +kernel
theorem dX12_tells_2 : decode cX12_tells 2 = .ok (.putfield 502, 3) := by decide +kernel
theorem dX12_tells_5 : decode cX12_tells 5 = .ok (.aload_n 0, 1) := by decide +kernel
theorem dX12_tells_6 : decode cX12_tells 6 = .ok (.getfield 93, 3) := by decide +kernel
theorem dX12_tells_9 : decode cX12_tells 9 = .ok (.iload_n 2, 1) := by decide +kernel
theorem dX12_tells_10 : decode cX12_tells 10 = .ok (.iaload, 1) := by decide +kernel
theorem dX12_tells_11 : decode cX12_tells 11 = .ok (.istore_n 3, 1) := by decide +kernel
theorem dX12_tells_12 : decode cX12_tells 12 = .ok (.iload_n 3, 1) := by decide +kernel
theorem dX12_tells_13 : decode cX12_tells 13 = .ok (.aload_n 0, 1) := by decide +kernel
theorem dX12_tells_14 : decode cX12_tells 14 = .ok (.getfield 96, 3) := by decide +kernel
theorem dX12_tells_17 : decode cX12_tells 17 = .ok (.iload_n 2, 1) := by decide +kernel
theorem dX12_tells_18 : decode cX12_tells 18 = .ok (.iaload, 1) := by decide +kernel
theorem dX12_tells_19 : decode cX12_tells 19 = .ok (.if_icmp .ge 287, 3) := by decide +kernel
theorem dX12_tells_22 : decode cX12_tells 22 = .ok (.aload_n 0, 1) := by decide +kernel
theorem dX12_tells_23 : decode cX12_tells 23 = .ok (.getfield 100, 3) := by decide +kernel
theorem dX12_tells_26 : decode cX12_tells 26 = .ok (.sipush 640, 3) := by decide +kernel
theorem dX12_tells_29 : decode cX12_tells 29 = .ok (.iload_n 1, 1) := by decide +kernel
theorem dX12_tells_30 : decode cX12_tells 30 = .ok (.imul, 1) := by decide +kernel
theorem dX12_tells_31 : decode cX12_tells 31 = .ok (.iload_n 3, 1) := by decide +kernel
theorem dX12_tells_32 : decode cX12_tells 32 = .ok (.iadd, 1) := by decide +kernel
theorem dX12_tells_33 : decode cX12_tells 33 = .ok (.iaload, 1) := by decide +kernel
theorem dX12_tells_34 : decode cX12_tells 34 = .ok (.istore 4, 2) := by decide +kernel
theorem dX12_tells_36 : decode cX12_tells 36 = .ok (.iload 4, 2) := by decide +kernel
theorem dX12_tells_38 : decode cX12_tells 38 = .ok (.sipush 1000, 3) := by decide +kernel
theorem dX12_tells_41 : decode cX12_tells 41 = .ok (.if_icmp .lt 17, 3) := by decide +kernel
theorem dX12_tells_44 : decode cX12_tells 44 = .ok (.aload_n 0, 1) := by decide +kernel
theorem dX12_tells_45 : decode cX12_tells 45 = .ok (.iload 4, 2) := by decide +kernel
theorem dX12_tells_47 : decode cX12_tells 47 = .ok (.sipush 1000, 3) := by decide +kernel
theorem dX12_tells_50 : decode cX12_tells 50 = .ok (.isub, 1) := by decide +kernel
theorem dX12_tells_51 : decode cX12_tells 51 = .ok (.i2l, 1) := by decide +kernel
theorem dX12_tells_52 : decode cX12_tells 52 = .ok (.invokevirtual 509, 3) := by decide +kernel
theorem dX12_tells_55 : decode cX12_tells 55 = .ok (.goto 245, 3) := by decide +kernel
theorem dX12_tells_58 : decode cX12_tells 58 = .ok (.iload 4, 2) := by decide +kernel
theorem dX12_tells_60 : decode cX12_tells 60 = .ok (.bipush 100, 2) := by decide +kernel
theorem dX12_tells_62 : decode cX12_tells 62 = .ok (.if_icmp .lt 31, 3) := by decide +kernel
theorem dX12_tells_65 : decode cX12_tells 65 = .ok (.aload_n 0, 1) := by decide +kernel
theorem dX12_tells_66 : decode cX12_tells 66 = .ok (.aload_n 0, 1) := by decide +kernel
theorem dX12_tells_67 : decode cX12_tells 67 = .ok (.iload 4, 2) := by decide +kernel
theorem dX12_tells_69 : decode cX12_tells 69 = .ok (.bipush 100, 2) := by decide +kernel
theorem dX12_tells_71 : decode cX12_tells 71 = .ok (.isub, 1) := by decide +kernel
theorem dX12_tells_72 : decode cX12_tells 72 = .ok (.aload_n 0, 1) := by decide +kernel
theorem dX12_tells_73 : decode cX12_tells 73 = .ok (.getfield 523, 3) := by decide +kernel
theorem dX12_tells_76 : decode cX12_tells 76 = .ok (.invokevirtual 535, 3) := by decide +kernel
theorem dX12_tells_79 : decode cX12_tells 79 = .ok (.ifCond .eq 7, 3) := by decide +kernel
theorem dX12_tells_82 : decode cX12_tells 82 = .ok (.lconst 1, 1) := by decide +kernel
theorem dX12_tells_83 : decode cX12_tells 83 = .ok (.goto 4, 3) := by decide +kernel
theorem dX12_tells_86 : decode cX12_tells 86 = .ok (.lconst 0, 1) := by decide +kernel
theorem dX12_tells_87 : decode cX12_tells 87 = .ok (.invokevirtual 509, 3) := by decide +kernel
theorem dX12_tells_90 : decode cX12_tells 90 = .ok (.goto 210, 3) := by decide +kernel
theorem dX12_tells_93 : decode cX12_tells 93 = .ok (.iload 4, 2) := by decide +kernel
theorem dX12_tells_95 : decode cX12_tells 95 = .ok (.bipush 7, 2) := by decide +kernel
theorem dX12_tells_97 : decode cX12_tells 97 = .ok (.if_icmp .ne 20, 3) := by decide +kernel
theorem dX12_tells_100 : decode cX12_tells 100 = .ok (.aload_n 0, 1) := by decide +kernel
theorem dX12_tells_101 : decode cX12_tells 101 = .ok (.aload_n 0, 1) := by decide +kernel
theorem dX12_tells_102 : decode cX12_tells 102 = .ok (.getfield 112, 3) := by decide +kernel
theorem dX12_tells_105 : decode cX12_tells 105 = .ok (.aload_n 0, 1) := by decide +kernel
theorem dX12_tells_106 : decode cX12_tells 106 = .ok (.getfield 523, 3) := by decide +kernel
theorem dX12_tells_109 : decode cX12_tells 109 = .ok (.iaload, 1) := by decide +kernel
theorem dX12_tells_110 : decode cX12_tells 110 = .ok (.i2l, 1) := by decide +kernel
theorem dX12_tells_111 : decode cX12_tells 111 = .ok (.invokevirtual 509, 3) := by decide +kernel
theorem dX12_tells_114 : decode cX12_tells 114 = .ok (.goto 186, 3) := by decide +kernel
theorem dX12_tells_117 : decode cX12_tells 117 = .ok (.iload 4, 2) := by decide +kernel
theorem dX12_tells_119 : decode cX12_tells 119 = .ok (.bipush 8, 2) := by decide +kernel
theorem dX12_tells_121 : decode cX12_tells 121 = .ok (.if_icmp .ne 20, 3) := by decide +kernel
theorem dX12_tells_124 : decode cX12_tells 124 = .ok (.aload_n 0, 1) := by decide +kernel
theorem dX12_tells_125 : decode cX12_tells 125 = .ok (.aload_n 0, 1) := by decide +kernel
theorem dX12_tells_126 : decode cX12_tells 126 = .ok (.getfield 115, 3) := by decide +kernel
theorem dX12_tells_129 : decode cX12_tells 129 = .ok (.aload_n 0, 1) := by decide +kernel
theorem dX12_tells_130 : decode cX12_tells 130 = .ok (.getfield 523, 3) := by decide +kernel
theorem dX12_tells_133 : decode cX12_tells 133 = .ok (.iaload, 1) := by decide +kernel
theorem dX12_tells_134 : decode cX12_tells 134 = .ok (.i2l, 1) := by decide +kernel
theorem dX12_tells_135 : decode cX12_tells 135 = .ok (.invokevirtual 509, 3) := by decide +kernel
theorem dX12_tells_138 : decode cX12_tells 138 = .ok (.goto 162, 3) := by decide +kernel
theorem dX12_tells_141 : decode cX12_tells 141 = .ok (.iload 4, 2) := by decide +kernel
theorem dX12_tells_143 : decode cX12_tells 143 = .ok (.bipush 9, 2) := by decide +kernel
theorem dX12_tells_145 : decode cX12_tells 145 = .ok (.if_icmp .ne 20, 3) := by decide +kernel
theorem dX12_tells_148 : decode cX12_tells 148 = .ok (.aload_n 0, 1) := by decide +kernel
theorem dX12_tells_149 : decode cX12_tells 149 = .ok (.aload_n 0, 1) := by decide +kernel
theorem dX12_tells_150 : decode cX12_tells 150 = .ok (.getfield 118, 3) := by decide +kernel
theorem dX12_tells_153 : decode cX12_tells 153 = .ok (.aload_n 0, 1) := by decide +kernel
theorem dX12_tells_154 : decode cX12_tells 154 = .ok (.getfield 523, 3) := by decide +kernel
theorem dX12_tells_157 : decode cX12_tells 157 = .ok (.iaload, 1) := by decide +kernel
theorem dX12_tells_158 : decode cX12_tells 158 = .ok (.i2l, 1) := by decide +kernel
theorem dX12_tells_159 : decode cX12_tells 159 = .ok (.invokevirtual 509, 3) := by decide +kernel
theorem dX12_tells_162 : decode cX12_tells 162 = .ok (.goto 138, 3) := by decide +kernel
theorem dX12_tells_165 : decode cX12_tells 165 = .ok (.iload 4, 2) := by decide +kernel
theorem dX12_tells_167 : decode cX12_tells 167 = .ok (.bipush 10, 2) := by decide +kernel
theorem dX12_tells_169 : decode cX12_tells 169 = .ok (.if_icmp .ne 15, 3) := by decide +kernel
theorem dX12_tells_172 : decode cX12_tells 172 = .ok (.aload_n 0, 1) := by decide +kernel
theorem dX12_tells_173 : decode cX12_tells 173 = .ok (.aload_n 0, 1) := by decide +kernel
theorem dX12_tells_174 : decode cX12_tells 174 = .ok (.getfield 526, 3) := by decide +kernel
theorem dX12_tells_177 : decode cX12_tells 177 = .ok (.i2l, 1) := by decide +kernel
theorem dX12_tells_178 : decode cX12_tells 178 = .ok (.invokevirtual 509, 3) := by decide +kernel
theorem dX12_tells_181 : decode cX12_tells 181 = .ok (.goto 119, 3) := by decide +kernel
theorem dX12_tells_184 : decode cX12_tells 184 = .ok (.iload 4, 2) := by decide +kernel
theorem dX12_tells_186 : decode cX12_tells 186 = .ok (.bipush 18, 2) := by decide +kernel
theorem dX12_tells_188 : decode cX12_tells 188 = .ok (.if_icmp .ne 15, 3) := by decide +kernel
theorem dX12_tells_191 : decode cX12_tells 191 = .ok (.aload_n 0, 1) := by decide +kernel
theorem dX12_tells_192 : decode cX12_tells 192 = .ok (.aload_n 0, 1) := by decide +kernel
theorem dX12_tells_193 : decode cX12_tells 193 = .ok (.getfield 532, 3) := by decide +kernel
theorem dX12_tells_196 : decode cX12_tells 196 = .ok (.i2l, 1) := by decide +kernel
theorem dX12_tells_197 : decode cX12_tells 197 = .ok (.invokevirtual 509, 3) := by decide +kernel
theorem dX12_tells_200 : decode cX12_tells 200 = .ok (.goto 100, 3) := by decide +kernel
theorem dX12_tells_203 : decode cX12_tells 203 = .ok (.iload 4, 2) := by decide +kernel
theorem dX12_tells_205 : decode cX12_tells 205 = .ok (.bipush 19, 2) := by decide +kernel
theorem dX12_tells_207 : decode cX12_tells 207 = .ok (.if_icmp .ne 15, 3) := by decide +kernel
theorem dX12_tells_210 : decode cX12_tells 210 = .ok (.aload_n 0, 1) := by decide +kernel
theorem dX12_tells_211 : decode cX12_tells 211 = .ok (.aload_n 0, 1) := by decide +kernel
theorem dX12_tells_212 : decode cX12_tells 212 = .ok (.getfield 529, 3) := by decide +kernel
theorem dX12_tells_215 : decode cX12_tells 215 = .ok (.i2l, 1) := by decide +kernel
theorem dX12_tells_216 : decode cX12_tells 216 = .ok (.invokevirtual 509, 3) := by decide +kernel
theorem dX12_tells_219 : decode cX12_tells 219 = .ok (.goto 81, 3) := by decide +kernel
theorem dX12_tells_222 : decode cX12_tells 222 = .ok (.iload 4, 2) := by decide +kernel
theorem dX12_tells_224 : decode cX12_tells 224 = .ok (.bipush 30, 2) := by decide +kernel
theorem dX12_tells_226 : decode cX12_tells 226 = .ok (.if_icmp .ne 19, 3) := by decide +kernel
theorem dX12_tells_229 : decode cX12_tells 229 = .ok (.aload_n 0, 1) := by decide +kernel
theorem dX12_tells_230 : decode cX12_tells 230 = .ok (.aload_n 0, 1) := by decide +kernel
theorem dX12_tells_231 : decode cX12_tells 231 = .ok (.aload_n 0, 1) := by decide +kernel
theorem dX12_tells_232 : decode cX12_tells 232 = .ok (.getfield 523, 3) := by decide +kernel
theorem dX12_tells_235 : decode cX12_tells 235 = .ok (.invokevirtual 539, 3) := by decide +kernel
theorem dX12_tells_238 : decode cX12_tells 238 = .ok (.i2l, 1) := by decide +kernel
theorem dX12_tells_239 : decode cX12_tells 239 = .ok (.invokevirtual 509, 3) := by decide +kernel
theorem dX12_tells_242 : decode cX12_tells 242 = .ok (.goto 58, 3) := by decide +kernel
theorem dX12_tells_245 : decode cX12_tells 245 = .ok (.iload 4, 2) := by decide +kernel
theorem dX12_tells_247 : decode cX12_tells 247 = .ok (.bipush 17, 2) := by decide +kernel
theorem dX12_tells_249 : decode cX12_tells 249 = .ok (.if_icmp .ne 11, 3) := by decide +kernel
theorem dX12_tells_252 : decode cX12_tells 252 = .ok (.aload_n 0, 1) := by decide +kernel
theorem dX12_tells_253 : decode cX12_tells 253 = .ok (.lconst 1, 1) := by decide +kernel
theorem dX12_tells_254 : decode cX12_tells 254 = .ok (.invokevirtual 509, 3) := by decide +kernel
theorem dX12_tells_257 : decode cX12_tells 257 = .ok (.goto 43, 3) := by decide +kernel
theorem dX12_tells_260 : decode cX12_tells 260 = .ok (.iload 4, 2) := by decide +kernel
theorem dX12_tells_262 : decode cX12_tells 262 = .ok (.bipush 16, 2) := by decide +kernel
theorem dX12_tells_264 : decode cX12_tells 264 = .ok (.if_icmp .ne 30, 3) := by decide +kernel
theorem dX12_tells_267 : decode cX12_tells 267 = .ok (.aload_n 0, 1) := by decide +kernel
theorem dX12_tells_268 : decode cX12_tells 268 = .ok (.getfield 179, 3) := by decide +kernel
theorem dX12_tells_271 : decode cX12_tells 271 = .ok (.aload_n 0, 1) := by decide +kernel
theorem dX12_tells_272 : decode cX12_tells 272 = .ok (.getfield 502, 3) := by decide +kernel
theorem dX12_tells_275 : decode cX12_tells 275 = .ok (.iconst 1, 1) := by decide +kernel
theorem dX12_tells_276 : decode cX12_tells 276 = .ok (.isub, 1) := by decide +kernel
theorem dX12_tells_277 : decode cX12_tells 277 = .ok (.lconst 1, 1) := by decide +kernel
theorem dX12_tells_278 : decode cX12_tells 278 = .ok (.aload_n 0, 1) := by decide +kernel
theorem dX12_tells_279 : decode cX12_tells 279 = .ok (.getfield 179, 3) := by decide +kernel
theorem dX12_tells_282 : decode cX12_tells 282 = .ok (.aload_n 0, 1) := by decide +kernel
theorem dX12_tells_283 : decode cX12_tells 283 = .ok (.getfield 502, 3) := by decide +kernel
theorem dX12_tells_286 : decode cX12_tells 286 = .ok (.iconst 1, 1) := by decide +kernel
theorem dX12_tells_287 : decode cX12_tells 287 = .ok (.isub, 1) := by decide +kernel
theorem dX12_tells_288 : decode cX12_tells 288 = .ok (.laload, 1) := by decide +kernel
theorem dX12_tells_289 : decode cX12_tells 289 = .ok (.lsub, 1) := by decide +kernel
theorem dX12_tells_290 : decode cX12_tells 290 = .ok (.lastore, 1) := by decide +kernel
theorem dX12_tells_291 : decode cX12_tells 291 = .ok (.goto 9, 3) := by decide +kernel
theorem dX12_tells_294 : decode cX12_tells 294 = .ok (.aload_n 0, 1) := by decide +kernel
theorem dX12_tells_295 : decode cX12_tells 295 = .ok (.iload 4, 2) := by decide +kernel
theorem dX12_tells_297 : decode cX12_tells 297 = .ok (.invokevirtual 542, 3) := by decide +kernel
theorem dX12_tells_300 : decode cX12_tells 300 = .ok (.iinc 3 1, 3) := by decide +kernel
theorem dX12_tells_303 : decode cX12_tells 303 = .ok (.goto (-291), 3) := by decide +kernel
theorem dX12_tells_306 : decode cX12_tells 306 = .ok (.aload_n 0, 1) := by decide +kernel
theorem dX12_tells_307 : decode cX12_tells 307 = .ok (.getfield 179, 3) := by decide +kernel
theorem dX12_tells_310 : decode cX12_tells 310 = .ok (.iconst 0, 1) := by decide +kernel
theorem dX12_tells_311 : decode cX12_tells 311 = .ok (.laload, 1) := by decide +kernel
theorem dX12_tells_312 : decode cX12_tells 312 = .ok (.lreturn, 1) := by decide +kernel
theorem dX12_holds_0 : decode cX12_holds 0 = .ok (.iconst 0, 1) := by decide +kernel
theorem dX12_holds_1 : decode cX12_holds 1 = .ok (.istore_n 3, 1) := by decide +kernel
theorem dX12_holds_2 : decode cX12_holds 2 = .ok (.iload_n 3, 1) := by decide +kernel
theorem dX12_holds_3 : decode cX12_holds 3 = .ok (.aload_n 0, 1) := by decide +kernel
theorem dX12_holds_4 : decode cX12_holds 4 = .ok (.getfield 87, 3) := by decide +kernel
theorem dX12_holds_7 : decode cX12_holds 7 = .ok (.iload_n 1, 1) := by decide +kernel
theorem dX12_holds_8 : decode cX12_holds 8 = .ok (.iaload, 1) := by decide +kernel
theorem dX12_holds_9 : decode cX12_holds 9 = .ok (.if_icmp .ge 42, 3) := by decide +kernel
theorem dX12_holds_12 : decode cX12_holds 12 = .ok (.aload_n 0, 1) := by decide +kernel
theorem dX12_holds_13 : decode cX12_holds 13 = .ok (.getfield 90, 3) := by decide +kernel
theorem dX12_holds_16 : decode cX12_holds 16 = .ok (.bipush 24, 2) := by decide +kernel
theorem dX12_holds_18 : decode cX12_holds 18 = .ok (.iload_n 1, 1) := by decide +kernel
theorem dX12_holds_19 : decode cX12_holds 19 = .ok (.imul, 1) := by decide +kernel
theorem dX12_holds_20 : decode cX12_holds 20 = .ok (.iload_n 3, 1) := by decide +kernel
theorem dX12_holds_21 : decode cX12_holds 21 = .ok (.iadd, 1) := by decide +kernel
theorem dX12_holds_22 : decode cX12_holds 22 = .ok (.iaload, 1) := by decide +kernel
theorem dX12_holds_23 : decode cX12_holds 23 = .ok (.iload_n 2, 1) := by decide +kernel
theorem dX12_holds_24 : decode cX12_holds 24 = .ok (.if_icmp .ne 21, 3) := by decide +kernel
theorem dX12_holds_27 : decode cX12_holds 27 = .ok (.aload_n 0, 1) := by decide +kernel
theorem dX12_holds_28 : decode cX12_holds 28 = .ok (.iload_n 1, 1) := by decide +kernel
theorem dX12_holds_29 : decode cX12_holds 29 = .ok (.bipush 24, 2) := by decide +kernel
theorem dX12_holds_31 : decode cX12_holds 31 = .ok (.iload_n 1, 1) := by decide +kernel
theorem dX12_holds_32 : decode cX12_holds 32 = .ok (.imul, 1) := by decide +kernel
theorem dX12_holds_33 : decode cX12_holds 33 = .ok (.iload_n 3, 1) := by decide +kernel
theorem dX12_holds_34 : decode cX12_holds 34 = .ok (.iadd, 1) := by decide +kernel
theorem dX12_holds_35 : decode cX12_holds 35 = .ok (.invokevirtual 545, 3) := by decide +kernel
theorem dX12_holds_38 : decode cX12_holds 38 = .ok (.lconst 1, 1) := by decide +kernel
theorem dX12_holds_39 : decode cX12_holds 39 = .ok (.lcmp, 1) := by decide +kernel
theorem dX12_holds_40 : decode cX12_holds 40 = .ok (.ifCond .ne 5, 3) := by decide +kernel
theorem dX12_holds_43 : decode cX12_holds 43 = .ok (.iconst 1, 1) := by decide +kernel
theorem dX12_holds_44 : decode cX12_holds 44 = .ok (.ireturn, 1) := by decide +kernel
theorem dX12_holds_45 : decode cX12_holds 45 = .ok (.iinc 3 1, 3) := by decide +kernel
theorem dX12_holds_48 : decode cX12_holds 48 = .ok (.goto (-46), 3) := by decide +kernel
theorem dX12_holds_51 : decode cX12_holds 51 = .ok (.iconst 0, 1) := by decide +kernel
theorem dX12_holds_52 : decode cX12_holds 52 = .ok (.ireturn, 1) := by decide +kernel
theorem dX12_lastOf_0 : decode cX12_lastOf 0 = .ok (.iconst (-1), 1) := by decide +kernel
theorem dX12_lastOf_1 : decode cX12_lastOf 1 = .ok (.istore_n 3, 1) := by decide +kernel
theorem dX12_lastOf_2 : decode cX12_lastOf 2 = .ok (.iconst 0, 1) := by decide +kernel
theorem dX12_lastOf_3 : decode cX12_lastOf 3 = .ok (.istore 4, 2) := by decide +kernel
theorem dX12_lastOf_5 : decode cX12_lastOf 5 = .ok (.iload 4, 2) := by decide +kernel
theorem dX12_lastOf_7 : decode cX12_lastOf 7 = .ok (.aload_n 0, 1) := by decide +kernel
theorem dX12_lastOf_8 : decode cX12_lastOf 8 = .ok (.getfield 87, 3) := by decide +kernel
theorem dX12_lastOf_11 : decode cX12_lastOf 11 = .ok (.iload_n 1, 1) := by decide +kernel
theorem dX12_lastOf_12 : decode cX12_lastOf 12 = .ok (.iaload, 1) := by decide +kernel
theorem dX12_lastOf_13 : decode cX12_lastOf 13 = .ok (.if_icmp .ge 33, 3) := by decide +kernel
theorem dX12_lastOf_16 : decode cX12_lastOf 16 = .ok (.aload_n 0, 1) := by decide +kernel
theorem dX12_lastOf_17 : decode cX12_lastOf 17 = .ok (.getfield 90, 3) := by decide +kernel
theorem dX12_lastOf_20 : decode cX12_lastOf 20 = .ok (.bipush 24, 2) := by decide +kernel
theorem dX12_lastOf_22 : decode cX12_lastOf 22 = .ok (.iload_n 1, 1) := by decide +kernel
theorem dX12_lastOf_23 : decode cX12_lastOf 23 = .ok (.imul, 1) := by decide +kernel
theorem dX12_lastOf_24 : decode cX12_lastOf 24 = .ok (.iload 4, 2) := by decide +kernel
theorem dX12_lastOf_26 : decode cX12_lastOf 26 = .ok (.iadd, 1) := by decide +kernel
theorem dX12_lastOf_27 : decode cX12_lastOf 27 = .ok (.iaload, 1) := by decide +kernel
theorem dX12_lastOf_28 : decode cX12_lastOf 28 = .ok (.iload_n 2, 1) := by decide +kernel
theorem dX12_lastOf_29 : decode cX12_lastOf 29 = .ok (.if_icmp .ne 11, 3) := by decide +kernel
theorem dX12_lastOf_32 : decode cX12_lastOf 32 = .ok (.bipush 24, 2) := by decide +kernel
theorem dX12_lastOf_34 : decode cX12_lastOf 34 = .ok (.iload_n 1, 1) := by decide +kernel
theorem dX12_lastOf_35 : decode cX12_lastOf 35 = .ok (.imul, 1) := by decide +kernel
theorem dX12_lastOf_36 : decode cX12_lastOf 36 = .ok (.iload 4, 2) := by decide +kernel
theorem dX12_lastOf_38 : decode cX12_lastOf 38 = .ok (.iadd, 1) := by decide +kernel
theorem dX12_lastOf_39 : decode cX12_lastOf 39 = .ok (.istore_n 3, 1) := by decide +kernel
theorem dX12_lastOf_40 : decode cX12_lastOf 40 = .ok (.iinc 4 1, 3) := by decide +kernel
theorem dX12_lastOf_43 : decode cX12_lastOf 43 = .ok (.goto (-38), 3) := by decide +kernel
theorem dX12_lastOf_46 : decode cX12_lastOf 46 = .ok (.iload_n 3, 1) := by decide +kernel
theorem dX12_lastOf_47 : decode cX12_lastOf 47 = .ok (.ireturn, 1) := by decide +kernel
theorem dX12_premium_0 : decode cX12_premium 0 = .ok (.aload_n 0, 1) := by decide +kernel
theorem dX12_premium_1 : decode cX12_premium 1 = .ok (.iload_n 1, 1) := by decide +kernel
theorem dX12_premium_2 : decode cX12_premium 2 = .ok (.invokevirtual 517, 3) := by decide +kernel
theorem dX12_premium_5 : decode cX12_premium 5 = .ok (.ifCond .ne 5, 3) := by decide +kernel
theorem dX12_premium_8 : decode cX12_premium 8 = .ok (.iconst (-1), 1) := by decide +kernel
theorem dX12_premium_9 : decode cX12_premium 9 = .ok (.ireturn, 1) := by decide +kernel
theorem dX12_premium_10 : decode cX12_premium 10 = .ok (.aload_n 0, 1) := by decide +kernel
theorem dX12_premium_11 : decode cX12_premium 11 = .ok (.aload_n 0, 1) := by decide +kernel
theorem dX12_premium_12 : decode cX12_premium 12 = .ok (.getfield 164, 3) := by decide +kernel
theorem dX12_premium_15 : decode cX12_premium 15 = .ok (.iload_n 1, 1) := by decide +kernel
theorem dX12_premium_16 : decode cX12_premium 16 = .ok (.iaload, 1) := by decide +kernel
theorem dX12_premium_17 : decode cX12_premium 17 = .ok (.invokevirtual 495, 3) := by decide +kernel
theorem dX12_premium_20 : decode cX12_premium 20 = .ok (.istore_n 2, 1) := by decide +kernel
theorem dX12_premium_21 : decode cX12_premium 21 = .ok (.iload_n 2, 1) := by decide +kernel
theorem dX12_premium_22 : decode cX12_premium 22 = .ok (.ifCond .ne 7, 3) := by decide +kernel
theorem dX12_premium_25 : decode cX12_premium 25 = .ok (.iconst (-1), 1) := by decide +kernel
theorem dX12_premium_26 : decode cX12_premium 26 = .ok (.goto 9, 3) := by decide +kernel
theorem dX12_premium_29 : decode cX12_premium 29 = .ok (.aload_n 0, 1) := by decide +kernel
theorem dX12_premium_30 : decode cX12_premium 30 = .ok (.iload_n 2, 1) := by decide +kernel
theorem dX12_premium_31 : decode cX12_premium 31 = .ok (.iconst 4, 1) := by decide +kernel
theorem dX12_premium_32 : decode cX12_premium 32 = .ok (.invokevirtual 549, 3) := by decide +kernel
theorem dX12_premium_35 : decode cX12_premium 35 = .ok (.istore_n 3, 1) := by decide +kernel
theorem dX12_premium_36 : decode cX12_premium 36 = .ok (.iload_n 3, 1) := by decide +kernel
theorem dX12_premium_37 : decode cX12_premium 37 = .ok (.iconst (-1), 1) := by decide +kernel
theorem dX12_premium_38 : decode cX12_premium 38 = .ok (.if_icmp .ne 5, 3) := by decide +kernel
theorem dX12_premium_41 : decode cX12_premium 41 = .ok (.iconst 0, 1) := by decide +kernel
theorem dX12_premium_42 : decode cX12_premium 42 = .ok (.ireturn, 1) := by decide +kernel
theorem dX12_premium_43 : decode cX12_premium 43 = .ok (.aload_n 0, 1) := by decide +kernel
theorem dX12_premium_44 : decode cX12_premium 44 = .ok (.aload_n 0, 1) := by decide +kernel
theorem dX12_premium_45 : decode cX12_premium 45 = .ok (.getfield 167, 3) := by decide +kernel
theorem dX12_premium_48 : decode cX12_premium 48 = .ok (.iload_n 1, 1) := by decide +kernel
theorem dX12_premium_49 : decode cX12_premium 49 = .ok (.iaload, 1) := by decide +kernel
theorem dX12_premium_50 : decode cX12_premium 50 = .ok (.aload_n 0, 1) := by decide +kernel
theorem dX12_premium_51 : decode cX12_premium 51 = .ok (.getfield 170, 3) := by decide +kernel
theorem dX12_premium_54 : decode cX12_premium 54 = .ok (.iload_n 1, 1) := by decide +kernel
theorem dX12_premium_55 : decode cX12_premium 55 = .ok (.iaload, 1) := by decide +kernel
theorem dX12_premium_56 : decode cX12_premium 56 = .ok (.aload_n 0, 1) := by decide +kernel
theorem dX12_premium_57 : decode cX12_premium 57 = .ok (.aload_n 0, 1) := by decide +kernel
theorem dX12_premium_58 : decode cX12_premium 58 = .ok (.getfield 167, 3) := by decide +kernel
theorem dX12_premium_61 : decode cX12_premium 61 = .ok (.iload_n 1, 1) := by decide +kernel
theorem dX12_premium_62 : decode cX12_premium 62 = .ok (.iaload, 1) := by decide +kernel
theorem dX12_premium_63 : decode cX12_premium 63 = .ok (.invokevirtual 552, 3) := by decide +kernel
theorem dX12_premium_66 : decode cX12_premium 66 = .ok (.iconst 1, 1) := by decide +kernel
theorem dX12_premium_67 : decode cX12_premium 67 = .ok (.isub, 1) := by decide +kernel
theorem dX12_premium_68 : decode cX12_premium 68 = .ok (.iconst 0, 1) := by decide +kernel
theorem dX12_premium_69 : decode cX12_premium 69 = .ok (.invokevirtual 555, 3) := by decide +kernel
theorem dX12_premium_72 : decode cX12_premium 72 = .ok (.aload_n 0, 1) := by decide +kernel
theorem dX12_premium_73 : decode cX12_premium 73 = .ok (.iload_n 2, 1) := by decide +kernel
theorem dX12_premium_74 : decode cX12_premium 74 = .ok (.iload_n 3, 1) := by decide +kernel
theorem dX12_premium_75 : decode cX12_premium 75 = .ok (.invokevirtual 545, 3) := by decide +kernel
theorem dX12_premium_78 : decode cX12_premium 78 = .ok (.lstore 4, 2) := by decide +kernel
theorem dX12_premium_80 : decode cX12_premium 80 = .ok (.lload 4, 2) := by decide +kernel
theorem dX12_premium_82 : decode cX12_premium 82 = .ok (.lconst 0, 1) := by decide +kernel
theorem dX12_premium_83 : decode cX12_premium 83 = .ok (.lcmp, 1) := by decide +kernel
theorem dX12_premium_84 : decode cX12_premium 84 = .ok (.ifCond .ge 7, 3) := by decide +kernel
theorem dX12_premium_87 : decode cX12_premium 87 = .ok (.iconst 0, 1) := by decide +kernel
theorem dX12_premium_88 : decode cX12_premium 88 = .ok (.goto 6, 3) := by decide +kernel
theorem dX12_premium_91 : decode cX12_premium 91 = .ok (.lload 4, 2) := by decide +kernel
theorem dX12_premium_93 : decode cX12_premium 93 = .ok (.l2i, 1) := by decide +kernel
theorem dX12_premium_94 : decode cX12_premium 94 = .ok (.ireturn, 1) := by decide +kernel
theorem dX12_helpsAt_0 : decode cX12_helpsAt 0 = .ok (.aload_n 0, 1) := by decide +kernel
theorem dX12_helpsAt_1 : decode cX12_helpsAt 1 = .ok (.iload_n 1, 1) := by decide +kernel
theorem dX12_helpsAt_2 : decode cX12_helpsAt 2 = .ok (.iload_n 2, 1) := by decide +kernel
theorem dX12_helpsAt_3 : decode cX12_helpsAt 3 = .ok (.invokevirtual 535, 3) := by decide +kernel
theorem dX12_helpsAt_6 : decode cX12_helpsAt 6 = .ok (.ifCond .eq 5, 3) := by decide +kernel
theorem dX12_helpsAt_9 : decode cX12_helpsAt 9 = .ok (.iconst 1, 1) := by decide +kernel
theorem dX12_helpsAt_10 : decode cX12_helpsAt 10 = .ok (.ireturn, 1) := by decide +kernel
theorem dX12_helpsAt_11 : decode cX12_helpsAt 11 = .ok (.aload_n 0, 1) := by decide +kernel
theorem dX12_helpsAt_12 : decode cX12_helpsAt 12 = .ok (.iload_n 1, 1) := by decide +kernel
theorem dX12_helpsAt_13 : decode cX12_helpsAt 13 = .ok (.invokevirtual 495, 3) := by decide +kernel
theorem dX12_helpsAt_16 : decode cX12_helpsAt 16 = .ok (.istore_n 3, 1) := by decide +kernel
theorem dX12_helpsAt_17 : decode cX12_helpsAt 17 = .ok (.iload_n 3, 1) := by decide +kernel
theorem dX12_helpsAt_18 : decode cX12_helpsAt 18 = .ok (.ifCond .ne 5, 3) := by decide +kernel
theorem dX12_helpsAt_21 : decode cX12_helpsAt 21 = .ok (.iconst 0, 1) := by decide +kernel
theorem dX12_helpsAt_22 : decode cX12_helpsAt 22 = .ok (.ireturn, 1) := by decide +kernel
theorem dX12_helpsAt_23 : decode cX12_helpsAt 23 = .ok (.aload_n 0, 1) := by decide +kernel
theorem dX12_helpsAt_24 : decode cX12_helpsAt 24 = .ok (.iload_n 2, 1) := by decide +kernel
theorem dX12_helpsAt_25 : decode cX12_helpsAt 25 = .ok (.iconst 0, 1) := by decide +kernel
theorem dX12_helpsAt_26 : decode cX12_helpsAt 26 = .ok (.aload_n 0, 1) := by decide +kernel
theorem dX12_helpsAt_27 : decode cX12_helpsAt 27 = .ok (.iload_n 2, 1) := by decide +kernel
theorem dX12_helpsAt_28 : decode cX12_helpsAt 28 = .ok (.invokevirtual 552, 3) := by decide +kernel
theorem dX12_helpsAt_31 : decode cX12_helpsAt 31 = .ok (.iconst 0, 1) := by decide +kernel
theorem dX12_helpsAt_32 : decode cX12_helpsAt 32 = .ok (.invokevirtual 555, 3) := by decide +kernel
theorem dX12_helpsAt_35 : decode cX12_helpsAt 35 = .ok (.aload_n 0, 1) := by decide +kernel
theorem dX12_helpsAt_36 : decode cX12_helpsAt 36 = .ok (.iload_n 3, 1) := by decide +kernel
theorem dX12_helpsAt_37 : decode cX12_helpsAt 37 = .ok (.iconst 2, 1) := by decide +kernel
theorem dX12_helpsAt_38 : decode cX12_helpsAt 38 = .ok (.invokevirtual 559, 3) := by decide +kernel
theorem dX12_helpsAt_41 : decode cX12_helpsAt 41 = .ok (.ireturn, 1) := by decide +kernel
theorem dX12_helps_0 : decode cX12_helps 0 = .ok (.aload_n 0, 1) := by decide +kernel
theorem dX12_helps_1 : decode cX12_helps 1 = .ok (.iload_n 1, 1) := by decide +kernel
theorem dX12_helps_2 : decode cX12_helps 2 = .ok (.invokevirtual 482, 3) := by decide +kernel
theorem dX12_helps_5 : decode cX12_helps 5 = .ok (.ifCond .ne 5, 3) := by decide +kernel
theorem dX12_helps_8 : decode cX12_helps 8 = .ok (.iconst (-1), 1) := by decide +kernel
theorem dX12_helps_9 : decode cX12_helps 9 = .ok (.ireturn, 1) := by decide +kernel
theorem dX12_helps_10 : decode cX12_helps 10 = .ok (.iconst 0, 1) := by decide +kernel
theorem dX12_helps_11 : decode cX12_helps 11 = .ok (.istore_n 2, 1) := by decide +kernel
theorem dX12_helps_12 : decode cX12_helps 12 = .ok (.iconst 0, 1) := by decide +kernel
theorem dX12_helps_13 : decode cX12_helps 13 = .ok (.istore_n 3, 1) := by decide +kernel
theorem dX12_helps_14 : decode cX12_helps 14 = .ok (.iload_n 3, 1) := by decide +kernel
theorem dX12_helps_15 : decode cX12_helps 15 = .ok (.bipush 9, 2) := by decide +kernel
theorem dX12_helps_17 : decode cX12_helps 17 = .ok (.if_icmp .ge 24, 3) := by decide +kernel
theorem dX12_helps_20 : decode cX12_helps 20 = .ok (.aload_n 0, 1) := by decide +kernel
theorem dX12_helps_21 : decode cX12_helps 21 = .ok (.iload_n 3, 1) := by decide +kernel
theorem dX12_helps_22 : decode cX12_helps 22 = .ok (.iload_n 1, 1) := by decide +kernel
theorem dX12_helps_23 : decode cX12_helps 23 = .ok (.invokevirtual 562, 3) := by decide +kernel
theorem dX12_helps_26 : decode cX12_helps 26 = .ok (.ifCond .eq 9, 3) := by decide +kernel
theorem dX12_helps_29 : decode cX12_helps 29 = .ok (.iload_n 2, 1) := by decide +kernel
theorem dX12_helps_30 : decode cX12_helps 30 = .ok (.iconst 1, 1) := by decide +kernel
theorem dX12_helps_31 : decode cX12_helps 31 = .ok (.iload_n 3, 1) := by decide +kernel
theorem dX12_helps_32 : decode cX12_helps 32 = .ok (.ishl, 1) := by decide +kernel
theorem dX12_helps_33 : decode cX12_helps 33 = .ok (.ior, 1) := by decide +kernel
theorem dX12_helps_34 : decode cX12_helps 34 = .ok (.istore_n 2, 1) := by decide +kernel
theorem dX12_helps_35 : decode cX12_helps 35 = .ok (.iinc 3 1, 3) := by decide +kernel
theorem dX12_helps_38 : decode cX12_helps 38 = .ok (.goto (-24), 3) := by decide +kernel
theorem dX12_helps_41 : decode cX12_helps 41 = .ok (.iload_n 2, 1) := by decide +kernel
theorem dX12_helps_42 : decode cX12_helps 42 = .ok (.ireturn, 1) := by decide +kernel
theorem dX12_resist_0 : decode cX12_resist 0 = .ok (.iload_n 0, 1) := by decide +kernel
theorem dX12_resist_1 : decode cX12_resist 1 = .ok (.ifCond .ne 8, 3) := by decide +kernel
theorem dX12_resist_4 : decode cX12_resist 4 = .ok (.bipush 40, 2) := by decide +kernel
theorem dX12_resist_6 : decode cX12_resist 6 = .ok (.goto 26, 3) := by decide +kernel
theorem dX12_resist_9 : decode cX12_resist 9 = .ok (.iload_n 0, 1) := by decide +kernel
theorem dX12_resist_10 : decode cX12_resist 10 = .ok (.iconst 1, 1) := by decide +kernel
theorem dX12_resist_11 : decode cX12_resist 11 = .ok (.if_icmp .ne 8, 3) := by decide +kernel
theorem dX12_resist_14 : decode cX12_resist 14 = .ok (.bipush 60, 2) := by decide +kernel
theorem dX12_resist_16 : decode cX12_resist 16 = .ok (.goto 16, 3) := by decide +kernel
theorem dX12_resist_19 : decode cX12_resist 19 = .ok (.iload_n 0, 1) := by decide +kernel
theorem dX12_resist_20 : decode cX12_resist 20 = .ok (.iconst 2, 1) := by decide +kernel
theorem dX12_resist_21 : decode cX12_resist 21 = .ok (.if_icmp .ne 8, 3) := by decide +kernel
theorem dX12_resist_24 : decode cX12_resist 24 = .ok (.bipush 100, 2) := by decide +kernel
theorem dX12_resist_26 : decode cX12_resist 26 = .ok (.goto 6, 3) := by decide +kernel
theorem dX12_resist_29 : decode cX12_resist 29 = .ok (.sipush 160, 3) := by decide +kernel
theorem dX12_resist_32 : decode cX12_resist 32 = .ok (.ireturn, 1) := by decide +kernel
theorem dX12_fuel_0 : decode cX12_fuel 0 = .ok (.iload_n 0, 1) := by decide +kernel
theorem dX12_fuel_1 : decode cX12_fuel 1 = .ok (.ifCond .ne 8, 3) := by decide +kernel
theorem dX12_fuel_4 : decode cX12_fuel 4 = .ok (.bipush 15, 2) := by decide +kernel
theorem dX12_fuel_6 : decode cX12_fuel 6 = .ok (.goto 25, 3) := by decide +kernel
theorem dX12_fuel_9 : decode cX12_fuel 9 = .ok (.iload_n 0, 1) := by decide +kernel
theorem dX12_fuel_10 : decode cX12_fuel 10 = .ok (.iconst 1, 1) := by decide +kernel
theorem dX12_fuel_11 : decode cX12_fuel 11 = .ok (.if_icmp .ne 8, 3) := by decide +kernel
theorem dX12_fuel_14 : decode cX12_fuel 14 = .ok (.bipush 25, 2) := by decide +kernel
theorem dX12_fuel_16 : decode cX12_fuel 16 = .ok (.goto 15, 3) := by decide +kernel
theorem dX12_fuel_19 : decode cX12_fuel 19 = .ok (.iload_n 0, 1) := by decide +kernel
theorem dX12_fuel_20 : decode cX12_fuel 20 = .ok (.iconst 2, 1) := by decide +kernel
theorem dX12_fuel_21 : decode cX12_fuel 21 = .ok (.if_icmp .ne 8, 3) := by decide +kernel
theorem dX12_fuel_24 : decode cX12_fuel 24 = .ok (.bipush 40, 2) := by decide +kernel
theorem dX12_fuel_26 : decode cX12_fuel 26 = .ok (.goto 5, 3) := by decide +kernel
theorem dX12_fuel_29 : decode cX12_fuel 29 = .ok (.bipush 60, 2) := by decide +kernel
theorem dX12_fuel_31 : decode cX12_fuel 31 = .ok (.ireturn, 1) := by decide +kernel
theorem dX12_windOf_0 : decode cX12_windOf 0 = .ok (.iload_n 1, 1) := by decide +kernel
theorem dX12_windOf_1 : decode cX12_windOf 1 = .ok (.istore_n 2, 1) := by decide +kernel
theorem dX12_windOf_2 : decode cX12_windOf 2 = .ok (.iload_n 2, 1) := by decide +kernel
theorem dX12_windOf_3 : decode cX12_windOf 3 = .ok (.ifCond .le 18, 3) := by decide +kernel
theorem dX12_windOf_6 : decode cX12_windOf 6 = .ok (.aload_n 0, 1) := by decide +kernel
theorem dX12_windOf_7 : decode cX12_windOf 7 = .ok (.getfield 137, 3) := by decide +kernel
theorem dX12_windOf_10 : decode cX12_windOf 10 = .ok (.iload_n 2, 1) := by decide +kernel
theorem dX12_windOf_11 : decode cX12_windOf 11 = .ok (.baload, 1) := by decide +kernel
theorem dX12_windOf_12 : decode cX12_windOf 12 = .ok (.ifCond .ne 9, 3) := by decide +kernel
theorem dX12_windOf_15 : decode cX12_windOf 15 = .ok (.iinc 2 (-1), 3) := by decide +kernel
theorem dX12_windOf_18 : decode cX12_windOf 18 = .ok (.goto (-16), 3) := by decide +kernel
theorem dX12_windOf_21 : decode cX12_windOf 21 = .ok (.iload_n 2, 1) := by decide +kernel
theorem dX12_windOf_22 : decode cX12_windOf 22 = .ok (.ireturn, 1) := by decide +kernel
theorem dX12_goes_0 : decode cX12_goes 0 = .ok (.iconst 0, 1) := by decide +kernel
theorem dX12_goes_1 : decode cX12_goes 1 = .ok (.istore_n 3, 1) := by decide +kernel
theorem dX12_goes_2 : decode cX12_goes 2 = .ok (.iload_n 3, 1) := by decide +kernel
theorem dX12_goes_3 : decode cX12_goes 3 = .ok (.bipush 120, 2) := by decide +kernel
theorem dX12_goes_5 : decode cX12_goes 5 = .ok (.if_icmp .ge 67, 3) := by decide +kernel
theorem dX12_goes_8 : decode cX12_goes 8 = .ok (.aload_n 0, 1) := by decide +kernel
theorem dX12_goes_9 : decode cX12_goes 9 = .ok (.getfield 183, 3) := by decide +kernel
theorem dX12_goes_12 : decode cX12_goes 12 = .ok (.iload_n 3, 1) := by decide +kernel
theorem dX12_goes_13 : decode cX12_goes 13 = .ok (.iconst 0, 1) := by decide +kernel
theorem dX12_goes_14 : decode cX12_goes 14 = .ok (.iastore, 1) := by decide +kernel
theorem dX12_goes_15 : decode cX12_goes 15 = .ok (.aload_n 0, 1) := by decide +kernel
theorem dX12_goes_16 : decode cX12_goes 16 = .ok (.getfield 186, 3) := by decide +kernel
theorem dX12_goes_19 : decode cX12_goes 19 = .ok (.iload_n 3, 1) := by decide +kernel
theorem dX12_goes_20 : decode cX12_goes 20 = .ok (.iconst 0, 1) := by decide +kernel
theorem dX12_goes_21 : decode cX12_goes 21 = .ok (.iastore, 1) := by decide +kernel
theorem dX12_goes_22 : decode cX12_goes 22 = .ok (.aload_n 0, 1) := by decide +kernel
theorem dX12_goes_23 : decode cX12_goes 23 = .ok (.getfield 189, 3) := by decide +kernel
theorem dX12_goes_26 : decode cX12_goes 26 = .ok (.iload_n 3, 1) := by decide +kernel
theorem dX12_goes_27 : decode cX12_goes 27 = .ok (.iconst 0, 1) := by decide +kernel
theorem dX12_goes_28 : decode cX12_goes 28 = .ok (.iastore, 1) := by decide +kernel
theorem dX12_goes_29 : decode cX12_goes 29 = .ok (.aload_n 0, 1) := by decide +kernel
theorem dX12_goes_30 : decode cX12_goes 30 = .ok (.getfield 192, 3) := by decide +kernel
theorem dX12_goes_33 : decode cX12_goes 33 = .ok (.iload_n 3, 1) := by decide +kernel
theorem dX12_goes_34 : decode cX12_goes 34 = .ok (.iconst 0, 1) := by decide +kernel
theorem dX12_goes_35 : decode cX12_goes 35 = .ok (.iastore, 1) := by decide +kernel
theorem dX12_goes_36 : decode cX12_goes 36 = .ok (.aload_n 0, 1) := by decide +kernel
theorem dX12_goes_37 : decode cX12_goes 37 = .ok (.getfield 195, 3) := by decide +kernel
theorem dX12_goes_40 : decode cX12_goes 40 = .ok (.iload_n 3, 1) := by decide +kernel
theorem dX12_goes_41 : decode cX12_goes 41 = .ok (.iconst (-1), 1) := by decide +kernel
theorem dX12_goes_42 : decode cX12_goes 42 = .ok (.iastore, 1) := by decide +kernel
theorem dX12_goes_43 : decode cX12_goes 43 = .ok (.aload_n 0, 1) := by decide +kernel
theorem dX12_goes_44 : decode cX12_goes 44 = .ok (.getfield 201, 3) := by decide +kernel
theorem dX12_goes_47 : decode cX12_goes 47 = .ok (.iload_n 3, 1) := by decide +kernel
theorem dX12_goes_48 : decode cX12_goes 48 = .ok (.aload_n 0, 1) := by decide +kernel
theorem dX12_goes_49 : decode cX12_goes 49 = .ok (.iload_n 3, 1) := by decide +kernel
theorem dX12_goes_50 : decode cX12_goes 50 = .ok (.invokevirtual 482, 3) := by decide +kernel
theorem dX12_goes_53 : decode cX12_goes 53 = .ok (.ifCond .eq 11, 3) := by decide +kernel
theorem dX12_goes_56 : decode cX12_goes 56 = .ok (.aload_n 0, 1) := by decide +kernel
theorem dX12_goes_57 : decode cX12_goes 57 = .ok (.iload_n 3, 1) := by decide +kernel
theorem dX12_goes_58 : decode cX12_goes 58 = .ok (.invokevirtual 565, 3) := by decide +kernel
theorem dX12_goes_61 : decode cX12_goes 61 = .ok (.goto 4, 3) := by decide +kernel
theorem dX12_goes_64 : decode cX12_goes 64 = .ok (.iconst 0, 1) := by decide +kernel
theorem dX12_goes_65 : decode cX12_goes 65 = .ok (.iastore, 1) := by decide +kernel
theorem dX12_goes_66 : decode cX12_goes 66 = .ok (.iinc 3 1, 3) := by decide +kernel
theorem dX12_goes_69 : decode cX12_goes 69 = .ok (.goto (-67), 3) := by decide +kernel
theorem dX12_goes_72 : decode cX12_goes 72 = .ok (.aload_n 0, 1) := by decide +kernel
theorem dX12_goes_73 : decode cX12_goes 73 = .ok (.getfield 183, 3) := by decide +kernel
theorem dX12_goes_76 : decode cX12_goes 76 = .ok (.iload_n 1, 1) := by decide +kernel
theorem dX12_goes_77 : decode cX12_goes 77 = .ok (.iconst 1, 1) := by decide +kernel
theorem dX12_goes_78 : decode cX12_goes 78 = .ok (.iastore, 1) := by decide +kernel
theorem dX12_goes_79 : decode cX12_goes 79 = .ok (.aload_n 0, 1) := by decide +kernel
theorem dX12_goes_80 : decode cX12_goes 80 = .ok (.getfield 189, 3) := by decide +kernel
theorem dX12_goes_83 : decode cX12_goes 83 = .ok (.iload_n 1, 1) := by decide +kernel
theorem dX12_goes_84 : decode cX12_goes 84 = .ok (.iconst 1, 1) := by decide +kernel
theorem dX12_goes_85 : decode cX12_goes 85 = .ok (.iastore, 1) := by decide +kernel
theorem dX12_goes_86 : decode cX12_goes 86 = .ok (.aload_n 0, 1) := by decide +kernel
theorem dX12_goes_87 : decode cX12_goes 87 = .ok (.getfield 195, 3) := by decide +kernel
theorem dX12_goes_90 : decode cX12_goes 90 = .ok (.iload_n 1, 1) := by decide +kernel
theorem dX12_goes_91 : decode cX12_goes 91 = .ok (.iconst 0, 1) := by decide +kernel
theorem dX12_goes_92 : decode cX12_goes 92 = .ok (.iastore, 1) := by decide +kernel
theorem dX12_goes_93 : decode cX12_goes 93 = .ok (.iconst 0, 1) := by decide +kernel
theorem dX12_goes_94 : decode cX12_goes 94 = .ok (.istore_n 3, 1) := by decide +kernel
theorem dX12_goes_95 : decode cX12_goes 95 = .ok (.iload_n 3, 1) := by decide +kernel
theorem dX12_goes_96 : decode cX12_goes 96 = .ok (.aload_n 0, 1) := by decide +kernel
theorem dX12_goes_97 : decode cX12_goes 97 = .ok (.getfield 421, 3) := by decide +kernel
theorem dX12_goes_100 : decode cX12_goes 100 = .ok (.if_icmp .ge 35, 3) := by decide +kernel
theorem dX12_goes_103 : decode cX12_goes 103 = .ok (.aload_n 0, 1) := by decide +kernel
theorem dX12_goes_104 : decode cX12_goes 104 = .ok (.getfield 204, 3) := by decide +kernel
theorem dX12_goes_107 : decode cX12_goes 107 = .ok (.iload_n 3, 1) := by decide +kernel
theorem dX12_goes_108 : decode cX12_goes 108 = .ok (.aload_n 0, 1) := by decide +kernel
theorem dX12_goes_109 : decode cX12_goes 109 = .ok (.getfield 146, 3) := by decide +kernel
theorem dX12_goes_112 : decode cX12_goes 112 = .ok (.iload_n 3, 1) := by decide +kernel
theorem dX12_goes_113 : decode cX12_goes 113 = .ok (.iaload, 1) := by decide +kernel
theorem dX12_goes_114 : decode cX12_goes 114 = .ok (.iastore, 1) := by decide +kernel
theorem dX12_goes_115 : decode cX12_goes 115 = .ok (.aload_n 0, 1) := by decide +kernel
theorem dX12_goes_116 : decode cX12_goes 116 = .ok (.getfield 207, 3) := by decide +kernel
theorem dX12_goes_119 : decode cX12_goes 119 = .ok (.iload_n 3, 1) := by decide +kernel
theorem dX12_goes_120 : decode cX12_goes 120 = .ok (.iconst (-1), 1) := by decide +kernel
theorem dX12_goes_121 : decode cX12_goes 121 = .ok (.iastore, 1) := by decide +kernel
theorem dX12_goes_122 : decode cX12_goes 122 = .ok (.aload_n 0, 1) := by decide +kernel
theorem dX12_goes_123 : decode cX12_goes 123 = .ok (.getfield 210, 3) := by decide +kernel
theorem dX12_goes_126 : decode cX12_goes 126 = .ok (.iload_n 3, 1) := by decide +kernel
theorem dX12_goes_127 : decode cX12_goes 127 = .ok (.iconst (-1), 1) := by decide +kernel
theorem dX12_goes_128 : decode cX12_goes 128 = .ok (.iastore, 1) := by decide +kernel
theorem dX12_goes_129 : decode cX12_goes 129 = .ok (.iinc 3 1, 3) := by decide +kernel
theorem dX12_goes_132 : decode cX12_goes 132 = .ok (.goto (-37), 3) := by decide +kernel
theorem dX12_goes_135 : decode cX12_goes 135 = .ok (.iconst 1, 1) := by decide +kernel
theorem dX12_goes_136 : decode cX12_goes 136 = .ok (.istore_n 3, 1) := by decide +kernel
theorem dX12_goes_137 : decode cX12_goes 137 = .ok (.iload_n 3, 1) := by decide +kernel
theorem dX12_goes_138 : decode cX12_goes 138 = .ok (.iload_n 2, 1) := by decide +kernel
theorem dX12_goes_139 : decode cX12_goes 139 = .ok (.if_icmp .gt 48, 3) := by decide +kernel
theorem dX12_goes_142 : decode cX12_goes 142 = .ok (.aload_n 0, 1) := by decide +kernel
theorem dX12_goes_143 : decode cX12_goes 143 = .ok (.invokevirtual 568, 3) := by decide +kernel
theorem dX12_goes_146 : decode cX12_goes 146 = .ok (.aload_n 0, 1) := by decide +kernel
theorem dX12_goes_147 : decode cX12_goes 147 = .ok (.iload_n 3, 1) := by decide +kernel
theorem dX12_goes_148 : decode cX12_goes 148 = .ok (.invokevirtual 571, 3) := by decide +kernel
theorem dX12_goes_151 : decode cX12_goes 151 = .ok (.iload_n 3, 1) := by decide +kernel
theorem dX12_goes_152 : decode cX12_goes 152 = .ok (.iconst 3, 1) := by decide +kernel
theorem dX12_goes_153 : decode cX12_goes 153 = .ok (.if_icmp .lt 28, 3) := by decide +kernel
theorem dX12_goes_156 : decode cX12_goes 156 = .ok (.iconst 0, 1) := by decide +kernel
theorem dX12_goes_157 : decode cX12_goes 157 = .ok (.istore 4, 2) := by decide +kernel
theorem dX12_goes_159 : decode cX12_goes 159 = .ok (.iload 4, 2) := by decide +kernel
theorem dX12_goes_161 : decode cX12_goes 161 = .ok (.aload_n 0, 1) := by decide +kernel
theorem dX12_goes_162 : decode cX12_goes 162 = .ok (.getfield 421, 3) := by decide +kernel
theorem dX12_goes_165 : decode cX12_goes 165 = .ok (.if_icmp .ge 16, 3) := by decide +kernel
theorem dX12_goes_168 : decode cX12_goes 168 = .ok (.aload_n 0, 1) := by decide +kernel
theorem dX12_goes_169 : decode cX12_goes 169 = .ok (.iload 4, 2) := by decide +kernel
theorem dX12_goes_171 : decode cX12_goes 171 = .ok (.iload_n 3, 1) := by decide +kernel
theorem dX12_goes_172 : decode cX12_goes 172 = .ok (.invokevirtual 574, 3) := by decide +kernel
theorem dX12_goes_175 : decode cX12_goes 175 = .ok (.iinc 4 1, 3) := by decide +kernel
theorem dX12_goes_178 : decode cX12_goes 178 = .ok (.goto (-19), 3) := by decide +kernel
theorem dX12_goes_181 : decode cX12_goes 181 = .ok (.iinc 3 1, 3) := by decide +kernel
theorem dX12_goes_184 : decode cX12_goes 184 = .ok (.goto (-47), 3) := by decide +kernel
theorem dX12_goes_187 : decode cX12_goes 187 = .ok (.return_, 1) := by decide +kernel
theorem dX12_grows_0 : decode cX12_grows 0 = .ok (.iconst 0, 1) := by decide +kernel
theorem dX12_grows_1 : decode cX12_grows 1 = .ok (.istore_n 1, 1) := by decide +kernel
theorem dX12_grows_2 : decode cX12_grows 2 = .ok (.iload_n 1, 1) := by decide +kernel
theorem dX12_grows_3 : decode cX12_grows 3 = .ok (.aload_n 0, 1) := by decide +kernel
theorem dX12_grows_4 : decode cX12_grows 4 = .ok (.invokevirtual 409, 3) := by decide +kernel
theorem dX12_grows_7 : decode cX12_grows 7 = .ok (.if_icmp .ge 88, 3) := by decide +kernel
theorem dX12_grows_10 : decode cX12_grows 10 = .ok (.aload_n 0, 1) := by decide +kernel
theorem dX12_grows_11 : decode cX12_grows 11 = .ok (.getfield 183, 3) := by decide +kernel
theorem dX12_grows_14 : decode cX12_grows 14 = .ok (.iload_n 1, 1) := by decide +kernel
theorem dX12_grows_15 : decode cX12_grows 15 = .ok (.iaload, 1) := by decide +kernel
theorem dX12_grows_16 : decode cX12_grows 16 = .ok (.iconst 1, 1) := by decide +kernel
theorem dX12_grows_17 : decode cX12_grows 17 = .ok (.if_icmp .eq 6, 3) := by decide +kernel
theorem dX12_grows_20 : decode cX12_grows 20 = .ok (.goto 69, 3) := by decide +kernel
theorem dX12_grows_23 : decode cX12_grows 23 = .ok (.aload_n 0, 1) := by decide +kernel
theorem dX12_grows_24 : decode cX12_grows 24 = .ok (.getfield 189, 3) := by decide +kernel
theorem dX12_grows_27 : decode cX12_grows 27 = .ok (.iload_n 1, 1) := by decide +kernel
theorem dX12_grows_28 : decode cX12_grows 28 = .ok (.iaload, 1) := by decide +kernel
theorem dX12_grows_29 : decode cX12_grows 29 = .ok (.bipush 9, 2) := by decide +kernel
theorem dX12_grows_31 : decode cX12_grows 31 = .ok (.if_icmp .ge 13, 3) := by decide +kernel
theorem dX12_grows_34 : decode cX12_grows 34 = .ok (.aload_n 0, 1) := by decide +kernel
theorem dX12_grows_35 : decode cX12_grows 35 = .ok (.getfield 189, 3) := by decide +kernel
theorem dX12_grows_38 : decode cX12_grows 38 = .ok (.iload_n 1, 1) := by decide +kernel
theorem dX12_grows_39 : decode cX12_grows 39 = .ok (.dup2, 1) := by decide +kernel
theorem dX12_grows_40 : decode cX12_grows 40 = .ok (.iaload, 1) := by decide +kernel
theorem dX12_grows_41 : decode cX12_grows 41 = .ok (.iconst 1, 1) := by decide +kernel
theorem dX12_grows_42 : decode cX12_grows 42 = .ok (.iadd, 1) := by decide +kernel
theorem dX12_grows_43 : decode cX12_grows 43 = .ok (.iastore, 1) := by decide +kernel
theorem dX12_grows_44 : decode cX12_grows 44 = .ok (.aload_n 0, 1) := by decide +kernel
theorem dX12_grows_45 : decode cX12_grows 45 = .ok (.getfield 192, 3) := by decide +kernel
theorem dX12_grows_48 : decode cX12_grows 48 = .ok (.iload_n 1, 1) := by decide +kernel
theorem dX12_grows_49 : decode cX12_grows 49 = .ok (.dup2, 1) := by decide +kernel
theorem dX12_grows_50 : decode cX12_grows 50 = .ok (.iaload, 1) := by decide +kernel
theorem dX12_grows_51 : decode cX12_grows 51 = .ok (.iconst 1, 1) := by decide +kernel
theorem dX12_grows_52 : decode cX12_grows 52 = .ok (.iadd, 1) := by decide +kernel
theorem dX12_grows_53 : decode cX12_grows 53 = .ok (.iastore, 1) := by decide +kernel
theorem dX12_grows_54 : decode cX12_grows 54 = .ok (.aload_n 0, 1) := by decide +kernel
theorem dX12_grows_55 : decode cX12_grows 55 = .ok (.getfield 192, 3) := by decide +kernel
theorem dX12_grows_58 : decode cX12_grows 58 = .ok (.iload_n 1, 1) := by decide +kernel
theorem dX12_grows_59 : decode cX12_grows 59 = .ok (.iaload, 1) := by decide +kernel
theorem dX12_grows_60 : decode cX12_grows 60 = .ok (.aload_n 0, 1) := by decide +kernel
theorem dX12_grows_61 : decode cX12_grows 61 = .ok (.getfield 112, 3) := by decide +kernel
theorem dX12_grows_64 : decode cX12_grows 64 = .ok (.iload_n 1, 1) := by decide +kernel
theorem dX12_grows_65 : decode cX12_grows 65 = .ok (.iaload, 1) := by decide +kernel
theorem dX12_grows_66 : decode cX12_grows 66 = .ok (.invokestatic 577, 3) := by decide +kernel
theorem dX12_grows_69 : decode cX12_grows 69 = .ok (.if_icmp .ge 6, 3) := by decide +kernel
theorem dX12_grows_72 : decode cX12_grows 72 = .ok (.goto 17, 3) := by decide +kernel
theorem dX12_grows_75 : decode cX12_grows 75 = .ok (.aload_n 0, 1) := by decide +kernel
theorem dX12_grows_76 : decode cX12_grows 76 = .ok (.getfield 183, 3) := by decide +kernel
theorem dX12_grows_79 : decode cX12_grows 79 = .ok (.iload_n 1, 1) := by decide +kernel
theorem dX12_grows_80 : decode cX12_grows 80 = .ok (.iconst 2, 1) := by decide +kernel
theorem dX12_grows_81 : decode cX12_grows 81 = .ok (.iastore, 1) := by decide +kernel
theorem dX12_grows_82 : decode cX12_grows 82 = .ok (.aload_n 0, 1) := by decide +kernel
theorem dX12_grows_83 : decode cX12_grows 83 = .ok (.getfield 189, 3) := by decide +kernel
theorem dX12_grows_86 : decode cX12_grows 86 = .ok (.iload_n 1, 1) := by decide +kernel
theorem dX12_grows_87 : decode cX12_grows 87 = .ok (.iconst 0, 1) := by decide +kernel
theorem dX12_grows_88 : decode cX12_grows 88 = .ok (.iastore, 1) := by decide +kernel
theorem dX12_grows_89 : decode cX12_grows 89 = .ok (.iinc 1 1, 3) := by decide +kernel
theorem dX12_grows_92 : decode cX12_grows 92 = .ok (.goto (-90), 3) := by decide +kernel
theorem dX12_grows_95 : decode cX12_grows 95 = .ok (.return_, 1) := by decide +kernel
theorem dX12_spreads_0 : decode cX12_spreads 0 = .ok (.aload_n 0, 1) := by decide +kernel
theorem dX12_spreads_1 : decode cX12_spreads 1 = .ok (.iload_n 1, 1) := by decide +kernel
theorem dX12_spreads_2 : decode cX12_spreads 2 = .ok (.invokevirtual 580, 3) := by decide +kernel
theorem dX12_spreads_5 : decode cX12_spreads 5 = .ok (.istore_n 2, 1) := by decide +kernel
theorem dX12_spreads_6 : decode cX12_spreads 6 = .ok (.iconst 0, 1) := by decide +kernel
theorem dX12_spreads_7 : decode cX12_spreads 7 = .ok (.istore_n 3, 1) := by decide +kernel
theorem dX12_spreads_8 : decode cX12_spreads 8 = .ok (.iload_n 3, 1) := by decide +kernel
theorem dX12_spreads_9 : decode cX12_spreads 9 = .ok (.aload_n 0, 1) := by decide +kernel
theorem dX12_spreads_10 : decode cX12_spreads 10 = .ok (.invokevirtual 409, 3) := by decide +kernel
theorem dX12_spreads_13 : decode cX12_spreads 13 = .ok (.if_icmp .ge 209, 3) := by decide +kernel
theorem dX12_spreads_16 : decode cX12_spreads 16 = .ok (.aload_n 0, 1) := by decide +kernel
theorem dX12_spreads_17 : decode cX12_spreads 17 = .ok (.getfield 198, 3) := by decide +kernel
theorem dX12_spreads_20 : decode cX12_spreads 20 = .ok (.iload_n 3, 1) := by decide +kernel
theorem dX12_spreads_21 : decode cX12_spreads 21 = .ok (.iconst 0, 1) := by decide +kernel
theorem dX12_spreads_22 : decode cX12_spreads 22 = .ok (.bastore, 1) := by decide +kernel
theorem dX12_spreads_23 : decode cX12_spreads 23 = .ok (.aload_n 0, 1) := by decide +kernel
theorem dX12_spreads_24 : decode cX12_spreads 24 = .ok (.getfield 121, 3) := by decide +kernel
theorem dX12_spreads_27 : decode cX12_spreads 27 = .ok (.iload_n 3, 1) := by decide +kernel
theorem dX12_spreads_28 : decode cX12_spreads 28 = .ok (.baload, 1) := by decide +kernel
theorem dX12_spreads_29 : decode cX12_spreads 29 = .ok (.ifCond .eq 187, 3) := by decide +kernel
theorem dX12_spreads_32 : decode cX12_spreads 32 = .ok (.aload_n 0, 1) := by decide +kernel
theorem dX12_spreads_33 : decode cX12_spreads 33 = .ok (.getfield 183, 3) := by decide +kernel
theorem dX12_spreads_36 : decode cX12_spreads 36 = .ok (.iload_n 3, 1) := by decide +kernel
theorem dX12_spreads_37 : decode cX12_spreads 37 = .ok (.iaload, 1) := by decide +kernel
theorem dX12_spreads_38 : decode cX12_spreads 38 = .ok (.ifCond .eq 6, 3) := by decide +kernel
theorem dX12_spreads_41 : decode cX12_spreads 41 = .ok (.goto 175, 3) := by decide +kernel
theorem dX12_spreads_44 : decode cX12_spreads 44 = .ok (.aload_n 0, 1) := by decide +kernel
theorem dX12_spreads_45 : decode cX12_spreads 45 = .ok (.getfield 186, 3) := by decide +kernel
theorem dX12_spreads_48 : decode cX12_spreads 48 = .ok (.iload_n 3, 1) := by decide +kernel
theorem dX12_spreads_49 : decode cX12_spreads 49 = .ok (.aload_n 0, 1) := by decide +kernel
theorem dX12_spreads_50 : decode cX12_spreads 50 = .ok (.getfield 186, 3) := by decide +kernel
theorem dX12_spreads_53 : decode cX12_spreads 53 = .ok (.iload_n 3, 1) := by decide +kernel
theorem dX12_spreads_54 : decode cX12_spreads 54 = .ok (.iaload, 1) := by decide +kernel
theorem dX12_spreads_55 : decode cX12_spreads 55 = .ok (.iconst 2, 1) := by decide +kernel
theorem dX12_spreads_56 : decode cX12_spreads 56 = .ok (.if_icmp .ge 7, 3) := by decide +kernel
theorem dX12_spreads_59 : decode cX12_spreads 59 = .ok (.iconst 0, 1) := by decide +kernel
theorem dX12_spreads_60 : decode cX12_spreads 60 = .ok (.goto 11, 3) := by decide +kernel
theorem dX12_spreads_63 : decode cX12_spreads 63 = .ok (.aload_n 0, 1) := by decide +kernel
theorem dX12_spreads_64 : decode cX12_spreads 64 = .ok (.getfield 186, 3) := by decide +kernel
theorem dX12_spreads_67 : decode cX12_spreads 67 = .ok (.iload_n 3, 1) := by decide +kernel
theorem dX12_spreads_68 : decode cX12_spreads 68 = .ok (.iaload, 1) := by decide +kernel
theorem dX12_spreads_69 : decode cX12_spreads 69 = .ok (.iconst 2, 1) := by decide +kernel
theorem dX12_spreads_70 : decode cX12_spreads 70 = .ok (.isub, 1) := by decide +kernel
theorem dX12_spreads_71 : decode cX12_spreads 71 = .ok (.iastore, 1) := by decide +kernel
theorem dX12_spreads_72 : decode cX12_spreads 72 = .ok (.iconst 0, 1) := by decide +kernel
theorem dX12_spreads_73 : decode cX12_spreads 73 = .ok (.istore 4, 2) := by decide +kernel
theorem dX12_spreads_75 : decode cX12_spreads 75 = .ok (.iload 4, 2) := by decide +kernel
theorem dX12_spreads_77 : decode cX12_spreads 77 = .ok (.bipush 8, 2) := by decide +kernel
theorem dX12_spreads_79 : decode cX12_spreads 79 = .ok (.if_icmp .ge 108, 3) := by decide +kernel
theorem dX12_spreads_82 : decode cX12_spreads 82 = .ok (.aload_n 0, 1) := by decide +kernel
theorem dX12_spreads_83 : decode cX12_spreads 83 = .ok (.iload_n 3, 1) := by decide +kernel
theorem dX12_spreads_84 : decode cX12_spreads 84 = .ok (.iload 4, 2) := by decide +kernel
theorem dX12_spreads_86 : decode cX12_spreads 86 = .ok (.iconst 4, 1) := by decide +kernel
theorem dX12_spreads_87 : decode cX12_spreads 87 = .ok (.iadd, 1) := by decide +kernel
theorem dX12_spreads_88 : decode cX12_spreads 88 = .ok (.bipush 8, 2) := by decide +kernel
theorem dX12_spreads_90 : decode cX12_spreads 90 = .ok (.irem, 1) := by decide +kernel
theorem dX12_spreads_91 : decode cX12_spreads 91 = .ok (.invokevirtual 520, 3) := by decide +kernel
theorem dX12_spreads_94 : decode cX12_spreads 94 = .ok (.istore 5, 2) := by decide +kernel
theorem dX12_spreads_96 : decode cX12_spreads 96 = .ok (.iload 5, 2) := by decide +kernel
theorem dX12_spreads_98 : decode cX12_spreads 98 = .ok (.iconst (-1), 1) := by decide +kernel
theorem dX12_spreads_99 : decode cX12_spreads 99 = .ok (.if_icmp .eq 82, 3) := by decide +kernel
theorem dX12_spreads_102 : decode cX12_spreads 102 = .ok (.aload_n 0, 1) := by decide +kernel
theorem dX12_spreads_103 : decode cX12_spreads 103 = .ok (.getfield 121, 3) := by decide +kernel
theorem dX12_spreads_106 : decode cX12_spreads 106 = .ok (.iload 5, 2) := by decide +kernel
theorem dX12_spreads_108 : decode cX12_spreads 108 = .ok (.baload, 1) := by decide +kernel
theorem dX12_spreads_109 : decode cX12_spreads 109 = .ok (.ifCond .eq 72, 3) := by decide +kernel
theorem dX12_spreads_112 : decode cX12_spreads 112 = .ok (.aload_n 0, 1) := by decide +kernel
theorem dX12_spreads_113 : decode cX12_spreads 113 = .ok (.getfield 183, 3) := by decide +kernel
theorem dX12_spreads_116 : decode cX12_spreads 116 = .ok (.iload 5, 2) := by decide +kernel
theorem dX12_spreads_118 : decode cX12_spreads 118 = .ok (.iaload, 1) := by decide +kernel
theorem dX12_spreads_119 : decode cX12_spreads 119 = .ok (.iconst 1, 1) := by decide +kernel
theorem dX12_spreads_120 : decode cX12_spreads 120 = .ok (.if_icmp .eq 6, 3) := by decide +kernel
theorem dX12_spreads_123 : decode cX12_spreads 123 = .ok (.goto 58, 3) := by decide +kernel
theorem dX12_spreads_126 : decode cX12_spreads 126 = .ok (.aload_n 0, 1) := by decide +kernel
theorem dX12_spreads_127 : decode cX12_spreads 127 = .ok (.getfield 186, 3) := by decide +kernel
theorem dX12_spreads_130 : decode cX12_spreads 130 = .ok (.iload_n 3, 1) := by decide +kernel
theorem dX12_spreads_131 : decode cX12_spreads 131 = .ok (.dup2, 1) := by decide +kernel
theorem dX12_spreads_132 : decode cX12_spreads 132 = .ok (.iaload, 1) := by decide +kernel
theorem dX12_spreads_133 : decode cX12_spreads 133 = .ok (.aload_n 0, 1) := by decide +kernel
theorem dX12_spreads_134 : decode cX12_spreads 134 = .ok (.getfield 189, 3) := by decide +kernel
theorem dX12_spreads_137 : decode cX12_spreads 137 = .ok (.iload 5, 2) := by decide +kernel
theorem dX12_spreads_139 : decode cX12_spreads 139 = .ok (.iaload, 1) := by decide +kernel
theorem dX12_spreads_140 : decode cX12_spreads 140 = .ok (.aload_n 0, 1) := by decide +kernel
theorem dX12_spreads_141 : decode cX12_spreads 141 = .ok (.getfield 128, 3) := by decide +kernel
theorem dX12_spreads_144 : decode cX12_spreads 144 = .ok (.aload_n 0, 1) := by decide +kernel
theorem dX12_spreads_145 : decode cX12_spreads 145 = .ok (.getfield 115, 3) := by decide +kernel
theorem dX12_spreads_148 : decode cX12_spreads 148 = .ok (.iload 5, 2) := by decide +kernel
theorem dX12_spreads_150 : decode cX12_spreads 150 = .ok (.iaload, 1) := by decide +kernel
theorem dX12_spreads_151 : decode cX12_spreads 151 = .ok (.iaload, 1) := by decide +kernel
theorem dX12_spreads_152 : decode cX12_spreads 152 = .ok (.iadd, 1) := by decide +kernel
theorem dX12_spreads_153 : decode cX12_spreads 153 = .ok (.iload_n 2, 1) := by decide +kernel
theorem dX12_spreads_154 : decode cX12_spreads 154 = .ok (.ifCond .le 23, 3) := by decide +kernel
theorem dX12_spreads_157 : decode cX12_spreads 157 = .ok (.aload_n 0, 1) := by decide +kernel
theorem dX12_spreads_158 : decode cX12_spreads 158 = .ok (.getfield 131, 3) := by decide +kernel
theorem dX12_spreads_161 : decode cX12_spreads 161 = .ok (.iload_n 2, 1) := by decide +kernel
theorem dX12_spreads_162 : decode cX12_spreads 162 = .ok (.iaload, 1) := by decide +kernel
theorem dX12_spreads_163 : decode cX12_spreads 163 = .ok (.iload 4, 2) := by decide +kernel
theorem dX12_spreads_165 : decode cX12_spreads 165 = .ok (.if_icmp .ne 12, 3) := by decide +kernel
theorem dX12_spreads_168 : decode cX12_spreads 168 = .ok (.aload_n 0, 1) := by decide +kernel
theorem dX12_spreads_169 : decode cX12_spreads 169 = .ok (.getfield 134, 3) := by decide +kernel
theorem dX12_spreads_172 : decode cX12_spreads 172 = .ok (.iload_n 2, 1) := by decide +kernel
theorem dX12_spreads_173 : decode cX12_spreads 173 = .ok (.iaload, 1) := by decide +kernel
theorem dX12_spreads_174 : decode cX12_spreads 174 = .ok (.goto 4, 3) := by decide +kernel
theorem dX12_spreads_177 : decode cX12_spreads 177 = .ok (.iconst 0, 1) := by decide +kernel
theorem dX12_spreads_178 : decode cX12_spreads 178 = .ok (.iadd, 1) := by decide +kernel
theorem dX12_spreads_179 : decode cX12_spreads 179 = .ok (.iadd, 1) := by decide +kernel
theorem dX12_spreads_180 : decode cX12_spreads 180 = .ok (.iastore, 1) := by decide +kernel
theorem dX12_spreads_181 : decode cX12_spreads 181 = .ok (.iinc 4 1, 3) := by decide +kernel
theorem dX12_spreads_184 : decode cX12_spreads 184 = .ok (.goto (-109), 3) := by decide +kernel
theorem dX12_spreads_187 : decode cX12_spreads 187 = .ok (.aload_n 0, 1) := by decide +kernel
theorem dX12_spreads_188 : decode cX12_spreads 188 = .ok (.getfield 198, 3) := by decide +kernel
theorem dX12_spreads_191 : decode cX12_spreads 191 = .ok (.iload_n 3, 1) := by decide +kernel
theorem dX12_spreads_192 : decode cX12_spreads 192 = .ok (.aload_n 0, 1) := by decide +kernel
theorem dX12_spreads_193 : decode cX12_spreads 193 = .ok (.getfield 186, 3) := by decide +kernel
theorem dX12_spreads_196 : decode cX12_spreads 196 = .ok (.iload_n 3, 1) := by decide +kernel
theorem dX12_spreads_197 : decode cX12_spreads 197 = .ok (.iaload, 1) := by decide +kernel
theorem dX12_spreads_198 : decode cX12_spreads 198 = .ok (.aload_n 0, 1) := by decide +kernel
theorem dX12_spreads_199 : decode cX12_spreads 199 = .ok (.getfield 112, 3) := by decide +kernel
theorem dX12_spreads_202 : decode cX12_spreads 202 = .ok (.iload_n 3, 1) := by decide +kernel
theorem dX12_spreads_203 : decode cX12_spreads 203 = .ok (.iaload, 1) := by decide +kernel
theorem dX12_spreads_204 : decode cX12_spreads 204 = .ok (.invokestatic 583, 3) := by decide +kernel
theorem dX12_spreads_207 : decode cX12_spreads 207 = .ok (.if_icmp .lt 7, 3) := by decide +kernel
theorem dX12_spreads_210 : decode cX12_spreads 210 = .ok (.iconst 1, 1) := by decide +kernel
theorem dX12_spreads_211 : decode cX12_spreads 211 = .ok (.goto 4, 3) := by decide +kernel
theorem dX12_spreads_214 : decode cX12_spreads 214 = .ok (.iconst 0, 1) := by decide +kernel
theorem dX12_spreads_215 : decode cX12_spreads 215 = .ok (.bastore, 1) := by decide +kernel
theorem dX12_spreads_216 : decode cX12_spreads 216 = .ok (.iinc 3 1, 3) := by decide +kernel
theorem dX12_spreads_219 : decode cX12_spreads 219 = .ok (.goto (-211), 3) := by decide +kernel
theorem dX12_spreads_222 : decode cX12_spreads 222 = .ok (.iconst 0, 1) := by decide +kernel
theorem dX12_spreads_223 : decode cX12_spreads 223 = .ok (.istore_n 3, 1) := by decide +kernel
theorem dX12_spreads_224 : decode cX12_spreads 224 = .ok (.iload_n 3, 1) := by decide +kernel
theorem dX12_spreads_225 : decode cX12_spreads 225 = .ok (.aload_n 0, 1) := by decide +kernel
theorem dX12_spreads_226 : decode cX12_spreads 226 = .ok (.invokevirtual 409, 3) := by decide +kernel
theorem dX12_spreads_229 : decode cX12_spreads 229 = .ok (.if_icmp .ge 52, 3) := by decide +kernel
theorem dX12_spreads_232 : decode cX12_spreads 232 = .ok (.aload_n 0, 1) := by decide +kernel
theorem dX12_spreads_233 : decode cX12_spreads 233 = .ok (.getfield 198, 3) := by decide +kernel
theorem dX12_spreads_236 : decode cX12_spreads 236 = .ok (.iload_n 3, 1) := by decide +kernel
theorem dX12_spreads_237 : decode cX12_spreads 237 = .ok (.baload, 1) := by decide +kernel
theorem dX12_spreads_238 : decode cX12_spreads 238 = .ok (.ifCond .ne 6, 3) := by decide +kernel
theorem dX12_spreads_241 : decode cX12_spreads 241 = .ok (.goto 34, 3) := by decide +kernel
theorem dX12_spreads_244 : decode cX12_spreads 244 = .ok (.aload_n 0, 1) := by decide +kernel
theorem dX12_spreads_245 : decode cX12_spreads 245 = .ok (.getfield 183, 3) := by decide +kernel
theorem dX12_spreads_248 : decode cX12_spreads 248 = .ok (.iload_n 3, 1) := by decide +kernel
theorem dX12_spreads_249 : decode cX12_spreads 249 = .ok (.iconst 1, 1) := by decide +kernel
theorem dX12_spreads_250 : decode cX12_spreads 250 = .ok (.iastore, 1) := by decide +kernel
theorem dX12_spreads_251 : decode cX12_spreads 251 = .ok (.aload_n 0, 1) := by decide +kernel
theorem dX12_spreads_252 : decode cX12_spreads 252 = .ok (.getfield 189, 3) := by decide +kernel
theorem dX12_spreads_255 : decode cX12_spreads 255 = .ok (.iload_n 3, 1) := by decide +kernel
theorem dX12_spreads_256 : decode cX12_spreads 256 = .ok (.iconst 1, 1) := by decide +kernel
theorem dX12_spreads_257 : decode cX12_spreads 257 = .ok (.iastore, 1) := by decide +kernel
theorem dX12_spreads_258 : decode cX12_spreads 258 = .ok (.aload_n 0, 1) := by decide +kernel
theorem dX12_spreads_259 : decode cX12_spreads 259 = .ok (.getfield 195, 3) := by decide +kernel
theorem dX12_spreads_262 : decode cX12_spreads 262 = .ok (.iload_n 3, 1) := by decide +kernel
theorem dX12_spreads_263 : decode cX12_spreads 263 = .ok (.iaload, 1) := by decide +kernel
theorem dX12_spreads_264 : decode cX12_spreads 264 = .ok (.iconst (-1), 1) := by decide +kernel
theorem dX12_spreads_265 : decode cX12_spreads 265 = .ok (.if_icmp .ne 10, 3) := by decide +kernel
theorem dX12_spreads_268 : decode cX12_spreads 268 = .ok (.aload_n 0, 1) := by decide +kernel
theorem dX12_spreads_269 : decode cX12_spreads 269 = .ok (.getfield 195, 3) := by decide +kernel
theorem dX12_spreads_272 : decode cX12_spreads 272 = .ok (.iload_n 3, 1) := by decide +kernel
theorem dX12_spreads_273 : decode cX12_spreads 273 = .ok (.iload_n 1, 1) := by decide +kernel
theorem dX12_spreads_274 : decode cX12_spreads 274 = .ok (.iastore, 1) := by decide +kernel
theorem dX12_spreads_275 : decode cX12_spreads 275 = .ok (.iinc 3 1, 3) := by decide +kernel
theorem dX12_spreads_278 : decode cX12_spreads 278 = .ok (.goto (-54), 3) := by decide +kernel
theorem dX12_spreads_281 : decode cX12_spreads 281 = .ok (.return_, 1) := by decide +kernel
theorem dX12_hasPlugNear_0 : decode cX12_hasPlugNear 0 = .ok (.iconst 0, 1) := by decide +kernel
theorem dX12_hasPlugNear_1 : decode cX12_hasPlugNear 1 = .ok (.istore_n 2, 1) := by decide +kernel
theorem dX12_hasPlugNear_2 : decode cX12_hasPlugNear 2 = .ok (.iload_n 2, 1) := by decide +kernel
theorem dX12_hasPlugNear_3 : decode cX12_hasPlugNear 3 = .ok (.aload_n 0, 1) := by decide +kernel
theorem dX12_hasPlugNear_4 : decode cX12_hasPlugNear 4 = .ok (.invokevirtual 409, 3) := by decide +kernel
theorem dX12_hasPlugNear_7 : decode cX12_hasPlugNear 7 = .ok (.if_icmp .ge 30, 3) := by decide +kernel
theorem dX12_hasPlugNear_10 : decode cX12_hasPlugNear 10 = .ok (.aload_n 0, 1) := by decide +kernel
theorem dX12_hasPlugNear_11 : decode cX12_hasPlugNear 11 = .ok (.getfield 125, 3) := by decide +kernel
theorem dX12_hasPlugNear_14 : decode cX12_hasPlugNear 14 = .ok (.iload_n 2, 1) := by decide +kernel
theorem dX12_hasPlugNear_15 : decode cX12_hasPlugNear 15 = .ok (.baload, 1) := by decide +kernel
theorem dX12_hasPlugNear_16 : decode cX12_hasPlugNear 16 = .ok (.ifCond .eq 15, 3) := by decide +kernel
theorem dX12_hasPlugNear_19 : decode cX12_hasPlugNear 19 = .ok (.aload_n 0, 1) := by decide +kernel
theorem dX12_hasPlugNear_20 : decode cX12_hasPlugNear 20 = .ok (.iload_n 1, 1) := by decide +kernel
theorem dX12_hasPlugNear_21 : decode cX12_hasPlugNear 21 = .ok (.iload_n 2, 1) := by decide +kernel
theorem dX12_hasPlugNear_22 : decode cX12_hasPlugNear 22 = .ok (.invokevirtual 586, 3) := by decide +kernel
theorem dX12_hasPlugNear_25 : decode cX12_hasPlugNear 25 = .ok (.iconst 3, 1) := by decide +kernel
theorem dX12_hasPlugNear_26 : decode cX12_hasPlugNear 26 = .ok (.if_icmp .gt 5, 3) := by decide +kernel
theorem dX12_hasPlugNear_29 : decode cX12_hasPlugNear 29 = .ok (.iconst 1, 1) := by decide +kernel
theorem dX12_hasPlugNear_30 : decode cX12_hasPlugNear 30 = .ok (.ireturn, 1) := by decide +kernel
theorem dX12_hasPlugNear_31 : decode cX12_hasPlugNear 31 = .ok (.iinc 2 1, 3) := by decide +kernel
theorem dX12_hasPlugNear_34 : decode cX12_hasPlugNear 34 = .ok (.goto (-32), 3) := by decide +kernel
theorem dX12_hasPlugNear_37 : decode cX12_hasPlugNear 37 = .ok (.iconst 0, 1) := by decide +kernel
theorem dX12_hasPlugNear_38 : decode cX12_hasPlugNear 38 = .ok (.ireturn, 1) := by decide +kernel
theorem dX12_drives_0 : decode cX12_drives 0 = .ok (.aload_n 0, 1) := by decide +kernel
theorem dX12_drives_1 : decode cX12_drives 1 = .ok (.getfield 207, 3) := by decide +kernel
theorem dX12_drives_4 : decode cX12_drives 4 = .ok (.iload_n 1, 1) := by decide +kernel
theorem dX12_drives_5 : decode cX12_drives 5 = .ok (.iaload, 1) := by decide +kernel
theorem dX12_drives_6 : decode cX12_drives 6 = .ok (.iconst (-1), 1) := by decide +kernel
theorem dX12_drives_7 : decode cX12_drives 7 = .ok (.if_icmp .eq 18, 3) := by decide +kernel
theorem dX12_drives_10 : decode cX12_drives 10 = .ok (.aload_n 0, 1) := by decide +kernel
theorem dX12_drives_11 : decode cX12_drives 11 = .ok (.getfield 183, 3) := by decide +kernel
theorem dX12_drives_14 : decode cX12_drives 14 = .ok (.aload_n 0, 1) := by decide +kernel
theorem dX12_drives_15 : decode cX12_drives 15 = .ok (.getfield 207, 3) := by decide +kernel
theorem dX12_drives_18 : decode cX12_drives 18 = .ok (.iload_n 1, 1) := by decide +kernel
theorem dX12_drives_19 : decode cX12_drives 19 = .ok (.iaload, 1) := by decide +kernel
theorem dX12_drives_20 : decode cX12_drives 20 = .ok (.iaload, 1) := by decide +kernel
theorem dX12_drives_21 : decode cX12_drives 21 = .ok (.iconst 1, 1) := by decide +kernel
theorem dX12_drives_22 : decode cX12_drives 22 = .ok (.if_icmp .eq 113, 3) := by decide +kernel
theorem dX12_drives_25 : decode cX12_drives 25 = .ok (.aload_n 0, 1) := by decide +kernel
theorem dX12_drives_26 : decode cX12_drives 26 = .ok (.getfield 207, 3) := by decide +kernel
theorem dX12_drives_29 : decode cX12_drives 29 = .ok (.iload_n 1, 1) := by decide +kernel
theorem dX12_drives_30 : decode cX12_drives 30 = .ok (.iconst (-1), 1) := by decide +kernel
theorem dX12_drives_31 : decode cX12_drives 31 = .ok (.iastore, 1) := by decide +kernel
theorem dX12_drives_32 : decode cX12_drives 32 = .ok (.iconst 0, 1) := by decide +kernel
theorem dX12_drives_33 : decode cX12_drives 33 = .ok (.istore_n 3, 1) := by decide +kernel
theorem dX12_drives_34 : decode cX12_drives 34 = .ok (.iload_n 3, 1) := by decide +kernel
theorem dX12_drives_35 : decode cX12_drives 35 = .ok (.aload_n 0, 1) := by decide +kernel
theorem dX12_drives_36 : decode cX12_drives 36 = .ok (.invokevirtual 409, 3) := by decide +kernel
theorem dX12_drives_39 : decode cX12_drives 39 = .ok (.if_icmp .ge 96, 3) := by decide +kernel
theorem dX12_drives_42 : decode cX12_drives 42 = .ok (.aload_n 0, 1) := by decide +kernel
theorem dX12_drives_43 : decode cX12_drives 43 = .ok (.getfield 121, 3) := by decide +kernel
theorem dX12_drives_46 : decode cX12_drives 46 = .ok (.iload_n 3, 1) := by decide +kernel
theorem dX12_drives_47 : decode cX12_drives 47 = .ok (.baload, 1) := by decide +kernel
theorem dX12_drives_48 : decode cX12_drives 48 = .ok (.ifCond .eq 81, 3) := by decide +kernel
theorem dX12_drives_51 : decode cX12_drives 51 = .ok (.aload_n 0, 1) := by decide +kernel
theorem dX12_drives_52 : decode cX12_drives 52 = .ok (.getfield 183, 3) := by decide +kernel
theorem dX12_drives_55 : decode cX12_drives 55 = .ok (.iload_n 3, 1) := by decide +kernel
theorem dX12_drives_56 : decode cX12_drives 56 = .ok (.iaload, 1) := by decide +kernel
theorem dX12_drives_57 : decode cX12_drives 57 = .ok (.iconst 1, 1) := by decide +kernel
theorem dX12_drives_58 : decode cX12_drives 58 = .ok (.if_icmp .ne 71, 3) := by decide +kernel
theorem dX12_drives_61 : decode cX12_drives 61 = .ok (.aload_n 0, 1) := by decide +kernel
theorem dX12_drives_62 : decode cX12_drives 62 = .ok (.getfield 201, 3) := by decide +kernel
theorem dX12_drives_65 : decode cX12_drives 65 = .ok (.iload_n 3, 1) := by decide +kernel
theorem dX12_drives_66 : decode cX12_drives 66 = .ok (.iaload, 1) := by decide +kernel
theorem dX12_drives_67 : decode cX12_drives 67 = .ok (.aload_n 0, 1) := by decide +kernel
theorem dX12_drives_68 : decode cX12_drives 68 = .ok (.getfield 143, 3) := by decide +kernel
theorem dX12_drives_71 : decode cX12_drives 71 = .ok (.iload_n 1, 1) := by decide +kernel
theorem dX12_drives_72 : decode cX12_drives 72 = .ok (.iaload, 1) := by decide +kernel
theorem dX12_drives_73 : decode cX12_drives 73 = .ok (.ishr, 1) := by decide +kernel
theorem dX12_drives_74 : decode cX12_drives 74 = .ok (.iconst 1, 1) := by decide +kernel
theorem dX12_drives_75 : decode cX12_drives 75 = .ok (.iand, 1) := by decide +kernel
theorem dX12_drives_76 : decode cX12_drives 76 = .ok (.ifCond .ne 6, 3) := by decide +kernel
theorem dX12_drives_79 : decode cX12_drives 79 = .ok (.goto 50, 3) := by decide +kernel
theorem dX12_drives_82 : decode cX12_drives 82 = .ok (.aload_n 0, 1) := by decide +kernel
theorem dX12_drives_83 : decode cX12_drives 83 = .ok (.getfield 207, 3) := by decide +kernel
theorem dX12_drives_86 : decode cX12_drives 86 = .ok (.iload_n 1, 1) := by decide +kernel
theorem dX12_drives_87 : decode cX12_drives 87 = .ok (.iaload, 1) := by decide +kernel
theorem dX12_drives_88 : decode cX12_drives 88 = .ok (.iconst (-1), 1) := by decide +kernel
theorem dX12_drives_89 : decode cX12_drives 89 = .ok (.if_icmp .eq 33, 3) := by decide +kernel
theorem dX12_drives_92 : decode cX12_drives 92 = .ok (.aload_n 0, 1) := by decide +kernel
theorem dX12_drives_93 : decode cX12_drives 93 = .ok (.aload_n 0, 1) := by decide +kernel
theorem dX12_drives_94 : decode cX12_drives 94 = .ok (.getfield 204, 3) := by decide +kernel
theorem dX12_drives_97 : decode cX12_drives 97 = .ok (.iload_n 1, 1) := by decide +kernel
theorem dX12_drives_98 : decode cX12_drives 98 = .ok (.iaload, 1) := by decide +kernel
theorem dX12_drives_99 : decode cX12_drives 99 = .ok (.iload_n 3, 1) := by decide +kernel
theorem dX12_drives_100 : decode cX12_drives 100 = .ok (.invokevirtual 586, 3) := by decide +kernel
theorem dX12_drives_103 : decode cX12_drives 103 = .ok (.aload_n 0, 1) := by decide +kernel
theorem dX12_drives_104 : decode cX12_drives 104 = .ok (.aload_n 0, 1) := by decide +kernel
theorem dX12_drives_105 : decode cX12_drives 105 = .ok (.getfield 204, 3) := by decide +kernel
theorem dX12_drives_108 : decode cX12_drives 108 = .ok (.iload_n 1, 1) := by decide +kernel
theorem dX12_drives_109 : decode cX12_drives 109 = .ok (.iaload, 1) := by decide +kernel
theorem dX12_drives_110 : decode cX12_drives 110 = .ok (.aload_n 0, 1) := by decide +kernel
theorem dX12_drives_111 : decode cX12_drives 111 = .ok (.getfield 207, 3) := by decide +kernel
theorem dX12_drives_114 : decode cX12_drives 114 = .ok (.iload_n 1, 1) := by decide +kernel
theorem dX12_drives_115 : decode cX12_drives 115 = .ok (.iaload, 1) := by decide +kernel
theorem dX12_drives_116 : decode cX12_drives 116 = .ok (.invokevirtual 586, 3) := by decide +kernel
theorem dX12_drives_119 : decode cX12_drives 119 = .ok (.if_icmp .ge 10, 3) := by decide +kernel
theorem dX12_drives_122 : decode cX12_drives 122 = .ok (.aload_n 0, 1) := by decide +kernel
theorem dX12_drives_123 : decode cX12_drives 123 = .ok (.getfield 207, 3) := by decide +kernel
theorem dX12_drives_126 : decode cX12_drives 126 = .ok (.iload_n 1, 1) := by decide +kernel
theorem dX12_drives_127 : decode cX12_drives 127 = .ok (.iload_n 3, 1) := by decide +kernel
theorem dX12_drives_128 : decode cX12_drives 128 = .ok (.iastore, 1) := by decide +kernel
theorem dX12_drives_129 : decode cX12_drives 129 = .ok (.iinc 3 1, 3) := by decide +kernel
theorem dX12_drives_132 : decode cX12_drives 132 = .ok (.goto (-98), 3) := by decide +kernel
theorem dX12_drives_135 : decode cX12_drives 135 = .ok (.aload_n 0, 1) := by decide +kernel
theorem dX12_drives_136 : decode cX12_drives 136 = .ok (.getfield 207, 3) := by decide +kernel
theorem dX12_drives_139 : decode cX12_drives 139 = .ok (.iload_n 1, 1) := by decide +kernel
theorem dX12_drives_140 : decode cX12_drives 140 = .ok (.iaload, 1) := by decide +kernel
theorem dX12_drives_141 : decode cX12_drives 141 = .ok (.iconst (-1), 1) := by decide +kernel
theorem dX12_drives_142 : decode cX12_drives 142 = .ok (.if_icmp .ne 4, 3) := by decide +kernel
theorem dX12_drives_145 : decode cX12_drives 145 = .ok (.return_, 1) := by decide +kernel
theorem dX12_drives_146 : decode cX12_drives 146 = .ok (.aload_n 0, 1) := by decide +kernel
theorem dX12_drives_147 : decode cX12_drives 147 = .ok (.getfield 149, 3) := by decide +kernel
theorem dX12_drives_150 : decode cX12_drives 150 = .ok (.iload_n 1, 1) := by decide +kernel
theorem dX12_drives_151 : decode cX12_drives 151 = .ok (.iaload, 1) := by decide +kernel
theorem dX12_drives_152 : decode cX12_drives 152 = .ok (.istore_n 3, 1) := by decide +kernel
theorem dX12_drives_153 : decode cX12_drives 153 = .ok (.aload_n 0, 1) := by decide +kernel
theorem dX12_drives_154 : decode cX12_drives 154 = .ok (.getfield 204, 3) := by decide +kernel
theorem dX12_drives_157 : decode cX12_drives 157 = .ok (.iload_n 1, 1) := by decide +kernel
theorem dX12_drives_158 : decode cX12_drives 158 = .ok (.iaload, 1) := by decide +kernel
theorem dX12_drives_159 : decode cX12_drives 159 = .ok (.aload_n 0, 1) := by decide +kernel
theorem dX12_drives_160 : decode cX12_drives 160 = .ok (.getfield 106, 3) := by decide +kernel
theorem dX12_drives_163 : decode cX12_drives 163 = .ok (.irem, 1) := by decide +kernel
theorem dX12_drives_164 : decode cX12_drives 164 = .ok (.istore 4, 2) := by decide +kernel
theorem dX12_drives_166 : decode cX12_drives 166 = .ok (.aload_n 0, 1) := by decide +kernel
theorem dX12_drives_167 : decode cX12_drives 167 = .ok (.getfield 204, 3) := by decide +kernel
theorem dX12_drives_170 : decode cX12_drives 170 = .ok (.iload_n 1, 1) := by decide +kernel
theorem dX12_drives_171 : decode cX12_drives 171 = .ok (.iaload, 1) := by decide +kernel
theorem dX12_drives_172 : decode cX12_drives 172 = .ok (.aload_n 0, 1) := by decide +kernel
theorem dX12_drives_173 : decode cX12_drives 173 = .ok (.getfield 106, 3) := by decide +kernel
theorem dX12_drives_176 : decode cX12_drives 176 = .ok (.idiv, 1) := by decide +kernel
theorem dX12_drives_177 : decode cX12_drives 177 = .ok (.istore 5, 2) := by decide +kernel
theorem dX12_drives_179 : decode cX12_drives 179 = .ok (.aload_n 0, 1) := by decide +kernel
theorem dX12_drives_180 : decode cX12_drives 180 = .ok (.getfield 207, 3) := by decide +kernel
theorem dX12_drives_183 : decode cX12_drives 183 = .ok (.iload_n 1, 1) := by decide +kernel
theorem dX12_drives_184 : decode cX12_drives 184 = .ok (.iaload, 1) := by decide +kernel
theorem dX12_drives_185 : decode cX12_drives 185 = .ok (.aload_n 0, 1) := by decide +kernel
theorem dX12_drives_186 : decode cX12_drives 186 = .ok (.getfield 106, 3) := by decide +kernel
theorem dX12_drives_189 : decode cX12_drives 189 = .ok (.irem, 1) := by decide +kernel
theorem dX12_drives_190 : decode cX12_drives 190 = .ok (.istore 6, 2) := by decide +kernel
theorem dX12_drives_192 : decode cX12_drives 192 = .ok (.aload_n 0, 1) := by decide +kernel
theorem dX12_drives_193 : decode cX12_drives 193 = .ok (.getfield 207, 3) := by decide +kernel
theorem dX12_drives_196 : decode cX12_drives 196 = .ok (.iload_n 1, 1) := by decide +kernel
theorem dX12_drives_197 : decode cX12_drives 197 = .ok (.iaload, 1) := by decide +kernel
theorem dX12_drives_198 : decode cX12_drives 198 = .ok (.aload_n 0, 1) := by decide +kernel
theorem dX12_drives_199 : decode cX12_drives 199 = .ok (.getfield 106, 3) := by decide +kernel
theorem dX12_drives_202 : decode cX12_drives 202 = .ok (.idiv, 1) := by decide +kernel
theorem dX12_drives_203 : decode cX12_drives 203 = .ok (.istore 7, 2) := by decide +kernel
theorem dX12_drives_205 : decode cX12_drives 205 = .ok (.iload_n 3, 1) := by decide +kernel
theorem dX12_drives_206 : decode cX12_drives 206 = .ok (.ifCond .le 33, 3) := by decide +kernel
theorem dX12_drives_209 : decode cX12_drives 209 = .ok (.iload 4, 2) := by decide +kernel
theorem dX12_drives_211 : decode cX12_drives 211 = .ok (.iload 6, 2) := by decide +kernel
theorem dX12_drives_213 : decode cX12_drives 213 = .ok (.if_icmp .eq 26, 3) := by decide +kernel
theorem dX12_drives_216 : decode cX12_drives 216 = .ok (.iload 4, 2) := by decide +kernel
theorem dX12_drives_218 : decode cX12_drives 218 = .ok (.iload 4, 2) := by decide +kernel
theorem dX12_drives_220 : decode cX12_drives 220 = .ok (.iload 6, 2) := by decide +kernel
theorem dX12_drives_222 : decode cX12_drives 222 = .ok (.if_icmp .ge 7, 3) := by decide +kernel
theorem dX12_drives_225 : decode cX12_drives 225 = .ok (.iconst 1, 1) := by decide +kernel
theorem dX12_drives_226 : decode cX12_drives 226 = .ok (.goto 4, 3) := by decide +kernel
theorem dX12_drives_229 : decode cX12_drives 229 = .ok (.iconst (-1), 1) := by decide +kernel
theorem dX12_drives_230 : decode cX12_drives 230 = .ok (.iadd, 1) := by decide +kernel
theorem dX12_drives_231 : decode cX12_drives 231 = .ok (.istore 4, 2) := by decide +kernel
theorem dX12_drives_233 : decode cX12_drives 233 = .ok (.iinc 3 (-1), 3) := by decide +kernel
theorem dX12_drives_236 : decode cX12_drives 236 = .ok (.goto (-31), 3) := by decide +kernel
theorem dX12_drives_239 : decode cX12_drives 239 = .ok (.iload_n 3, 1) := by decide +kernel
theorem dX12_drives_240 : decode cX12_drives 240 = .ok (.ifCond .le 33, 3) := by decide +kernel
theorem dX12_drives_243 : decode cX12_drives 243 = .ok (.iload 5, 2) := by decide +kernel
theorem dX12_drives_245 : decode cX12_drives 245 = .ok (.iload 7, 2) := by decide +kernel
theorem dX12_drives_247 : decode cX12_drives 247 = .ok (.if_icmp .eq 26, 3) := by decide +kernel
theorem dX12_drives_250 : decode cX12_drives 250 = .ok (.iload 5, 2) := by decide +kernel
theorem dX12_drives_252 : decode cX12_drives 252 = .ok (.iload 5, 2) := by decide +kernel
theorem dX12_drives_254 : decode cX12_drives 254 = .ok (.iload 7, 2) := by decide +kernel
theorem dX12_drives_256 : decode cX12_drives 256 = .ok (.if_icmp .ge 7, 3) := by decide +kernel
theorem dX12_drives_259 : decode cX12_drives 259 = .ok (.iconst 1, 1) := by decide +kernel
theorem dX12_drives_260 : decode cX12_drives 260 = .ok (.goto 4, 3) := by decide +kernel
theorem dX12_drives_263 : decode cX12_drives 263 = .ok (.iconst (-1), 1) := by decide +kernel
theorem dX12_drives_264 : decode cX12_drives 264 = .ok (.iadd, 1) := by decide +kernel
theorem dX12_drives_265 : decode cX12_drives 265 = .ok (.istore 5, 2) := by decide +kernel
theorem dX12_drives_267 : decode cX12_drives 267 = .ok (.iinc 3 (-1), 3) := by decide +kernel
theorem dX12_drives_270 : decode cX12_drives 270 = .ok (.goto (-31), 3) := by decide +kernel
theorem dX12_drives_273 : decode cX12_drives 273 = .ok (.aload_n 0, 1) := by decide +kernel
theorem dX12_drives_274 : decode cX12_drives 274 = .ok (.getfield 204, 3) := by decide +kernel
theorem dX12_drives_277 : decode cX12_drives 277 = .ok (.iload_n 1, 1) := by decide +kernel
theorem dX12_drives_278 : decode cX12_drives 278 = .ok (.iload 5, 2) := by decide +kernel
theorem dX12_drives_280 : decode cX12_drives 280 = .ok (.aload_n 0, 1) := by decide +kernel
theorem dX12_drives_281 : decode cX12_drives 281 = .ok (.getfield 106, 3) := by decide +kernel
theorem dX12_drives_284 : decode cX12_drives 284 = .ok (.imul, 1) := by decide +kernel
theorem dX12_drives_285 : decode cX12_drives 285 = .ok (.iload 4, 2) := by decide +kernel
theorem dX12_drives_287 : decode cX12_drives 287 = .ok (.iadd, 1) := by decide +kernel
theorem dX12_drives_288 : decode cX12_drives 288 = .ok (.iastore, 1) := by decide +kernel
theorem dX12_drives_289 : decode cX12_drives 289 = .ok (.aload_n 0, 1) := by decide +kernel
theorem dX12_drives_290 : decode cX12_drives 290 = .ok (.getfield 204, 3) := by decide +kernel
theorem dX12_drives_293 : decode cX12_drives 293 = .ok (.iload_n 1, 1) := by decide +kernel
theorem dX12_drives_294 : decode cX12_drives 294 = .ok (.iaload, 1) := by decide +kernel
theorem dX12_drives_295 : decode cX12_drives 295 = .ok (.aload_n 0, 1) := by decide +kernel
theorem dX12_drives_296 : decode cX12_drives 296 = .ok (.getfield 207, 3) := by decide +kernel
theorem dX12_drives_299 : decode cX12_drives 299 = .ok (.iload_n 1, 1) := by decide +kernel
theorem dX12_drives_300 : decode cX12_drives 300 = .ok (.iaload, 1) := by decide +kernel
theorem dX12_drives_301 : decode cX12_drives 301 = .ok (.if_icmp .ne 9, 3) := by decide +kernel
theorem dX12_drives_304 : decode cX12_drives 304 = .ok (.aload_n 0, 1) := by decide +kernel
theorem dX12_drives_305 : decode cX12_drives 305 = .ok (.iload_n 1, 1) := by decide +kernel
theorem dX12_drives_306 : decode cX12_drives 306 = .ok (.iload_n 2, 1) := by decide +kernel
theorem dX12_drives_307 : decode cX12_drives 307 = .ok (.invokevirtual 589, 3) := by decide +kernel
theorem dX12_drives_310 : decode cX12_drives 310 = .ok (.return_, 1) := by decide +kernel
theorem dX12_pours_0 : decode cX12_pours 0 = .ok (.aload_n 0, 1) := by decide +kernel
theorem dX12_pours_1 : decode cX12_pours 1 = .ok (.getfield 207, 3) := by decide +kernel
theorem dX12_pours_4 : decode cX12_pours 4 = .ok (.iload_n 1, 1) := by decide +kernel
theorem dX12_pours_5 : decode cX12_pours 5 = .ok (.iaload, 1) := by decide +kernel
theorem dX12_pours_6 : decode cX12_pours 6 = .ok (.istore_n 3, 1) := by decide +kernel
theorem dX12_pours_7 : decode cX12_pours 7 = .ok (.aload_n 0, 1) := by decide +kernel
theorem dX12_pours_8 : decode cX12_pours 8 = .ok (.getfield 210, 3) := by decide +kernel
theorem dX12_pours_11 : decode cX12_pours 11 = .ok (.iload_n 1, 1) := by decide +kernel
theorem dX12_pours_12 : decode cX12_pours 12 = .ok (.iaload, 1) := by decide +kernel
theorem dX12_pours_13 : decode cX12_pours 13 = .ok (.iconst (-1), 1) := by decide +kernel
theorem dX12_pours_14 : decode cX12_pours 14 = .ok (.if_icmp .ne 10, 3) := by decide +kernel
theorem dX12_pours_17 : decode cX12_pours 17 = .ok (.aload_n 0, 1) := by decide +kernel
theorem dX12_pours_18 : decode cX12_pours 18 = .ok (.getfield 210, 3) := by decide +kernel
theorem dX12_pours_21 : decode cX12_pours 21 = .ok (.iload_n 1, 1) := by decide +kernel
theorem dX12_pours_22 : decode cX12_pours 22 = .ok (.iload_n 2, 1) := by decide +kernel
theorem dX12_pours_23 : decode cX12_pours 23 = .ok (.iastore, 1) := by decide +kernel
theorem dX12_pours_24 : decode cX12_pours 24 = .ok (.aload_n 0, 1) := by decide +kernel
theorem dX12_pours_25 : decode cX12_pours 25 = .ok (.getfield 189, 3) := by decide +kernel
theorem dX12_pours_28 : decode cX12_pours 28 = .ok (.iload_n 3, 1) := by decide +kernel
theorem dX12_pours_29 : decode cX12_pours 29 = .ok (.dup2, 1) := by decide +kernel
theorem dX12_pours_30 : decode cX12_pours 30 = .ok (.iaload, 1) := by decide +kernel
theorem dX12_pours_31 : decode cX12_pours 31 = .ok (.aload_n 0, 1) := by decide +kernel
theorem dX12_pours_32 : decode cX12_pours 32 = .ok (.iload_n 3, 1) := by decide +kernel
theorem dX12_pours_33 : decode cX12_pours 33 = .ok (.invokevirtual 592, 3) := by decide +kernel
theorem dX12_pours_36 : decode cX12_pours 36 = .ok (.ifCond .eq 12, 3) := by decide +kernel
theorem dX12_pours_39 : decode cX12_pours 39 = .ok (.aload_n 0, 1) := by decide +kernel
theorem dX12_pours_40 : decode cX12_pours 40 = .ok (.getfield 152, 3) := by decide +kernel
theorem dX12_pours_43 : decode cX12_pours 43 = .ok (.iload_n 1, 1) := by decide +kernel
theorem dX12_pours_44 : decode cX12_pours 44 = .ok (.iaload, 1) := by decide +kernel
theorem dX12_pours_45 : decode cX12_pours 45 = .ok (.goto 11, 3) := by decide +kernel
theorem dX12_pours_48 : decode cX12_pours 48 = .ok (.aload_n 0, 1) := by decide +kernel
theorem dX12_pours_49 : decode cX12_pours 49 = .ok (.getfield 152, 3) := by decide +kernel
theorem dX12_pours_52 : decode cX12_pours 52 = .ok (.iload_n 1, 1) := by decide +kernel
theorem dX12_pours_53 : decode cX12_pours 53 = .ok (.iaload, 1) := by decide +kernel
theorem dX12_pours_54 : decode cX12_pours 54 = .ok (.iconst 2, 1) := by decide +kernel
theorem dX12_pours_55 : decode cX12_pours 55 = .ok (.idiv, 1) := by decide +kernel
theorem dX12_pours_56 : decode cX12_pours 56 = .ok (.isub, 1) := by decide +kernel
theorem dX12_pours_57 : decode cX12_pours 57 = .ok (.iastore, 1) := by decide +kernel
theorem dX12_pours_58 : decode cX12_pours 58 = .ok (.aload_n 0, 1) := by decide +kernel
theorem dX12_pours_59 : decode cX12_pours 59 = .ok (.getfield 189, 3) := by decide +kernel
theorem dX12_pours_62 : decode cX12_pours 62 = .ok (.iload_n 3, 1) := by decide +kernel
theorem dX12_pours_63 : decode cX12_pours 63 = .ok (.iaload, 1) := by decide +kernel
theorem dX12_pours_64 : decode cX12_pours 64 = .ok (.ifCond .le 4, 3) := by decide +kernel
theorem dX12_pours_67 : decode cX12_pours 67 = .ok (.return_, 1) := by decide +kernel
theorem dX12_pours_68 : decode cX12_pours 68 = .ok (.aload_n 0, 1) := by decide +kernel
theorem dX12_pours_69 : decode cX12_pours 69 = .ok (.getfield 183, 3) := by decide +kernel
theorem dX12_pours_72 : decode cX12_pours 72 = .ok (.iload_n 3, 1) := by decide +kernel
theorem dX12_pours_73 : decode cX12_pours 73 = .ok (.iconst 0, 1) := by decide +kernel
theorem dX12_pours_74 : decode cX12_pours 74 = .ok (.iastore, 1) := by decide +kernel
theorem dX12_pours_75 : decode cX12_pours 75 = .ok (.aload_n 0, 1) := by decide +kernel
theorem dX12_pours_76 : decode cX12_pours 76 = .ok (.getfield 189, 3) := by decide +kernel
theorem dX12_pours_79 : decode cX12_pours 79 = .ok (.iload_n 3, 1) := by decide +kernel
theorem dX12_pours_80 : decode cX12_pours 80 = .ok (.iconst 0, 1) := by decide +kernel
theorem dX12_pours_81 : decode cX12_pours 81 = .ok (.iastore, 1) := by decide +kernel
theorem dX12_pours_82 : decode cX12_pours 82 = .ok (.aload_n 0, 1) := by decide +kernel
theorem dX12_pours_83 : decode cX12_pours 83 = .ok (.getfield 186, 3) := by decide +kernel
theorem dX12_pours_86 : decode cX12_pours 86 = .ok (.iload_n 3, 1) := by decide +kernel
theorem dX12_pours_87 : decode cX12_pours 87 = .ok (.iconst 0, 1) := by decide +kernel
theorem dX12_pours_88 : decode cX12_pours 88 = .ok (.iastore, 1) := by decide +kernel
theorem dX12_pours_89 : decode cX12_pours 89 = .ok (.return_, 1) := by decide +kernel
theorem dX12_lossOf_0 : decode cX12_lossOf 0 = .ok (.aload_n 0, 1) := by decide +kernel
theorem dX12_lossOf_1 : decode cX12_lossOf 1 = .ok (.iload_n 1, 1) := by decide +kernel
theorem dX12_lossOf_2 : decode cX12_lossOf 2 = .ok (.invokevirtual 482, 3) := by decide +kernel
theorem dX12_lossOf_5 : decode cX12_lossOf 5 = .ok (.ifCond .eq 29, 3) := by decide +kernel
theorem dX12_lossOf_8 : decode cX12_lossOf 8 = .ok (.aload_n 0, 1) := by decide +kernel
theorem dX12_lossOf_9 : decode cX12_lossOf 9 = .ok (.getfield 118, 3) := by decide +kernel
theorem dX12_lossOf_12 : decode cX12_lossOf 12 = .ok (.iload_n 1, 1) := by decide +kernel
theorem dX12_lossOf_13 : decode cX12_lossOf 13 = .ok (.iaload, 1) := by decide +kernel
theorem dX12_lossOf_14 : decode cX12_lossOf 14 = .ok (.aload_n 0, 1) := by decide +kernel
theorem dX12_lossOf_15 : decode cX12_lossOf 15 = .ok (.getfield 192, 3) := by decide +kernel
theorem dX12_lossOf_18 : decode cX12_lossOf 18 = .ok (.iload_n 1, 1) := by decide +kernel
theorem dX12_lossOf_19 : decode cX12_lossOf 19 = .ok (.iaload, 1) := by decide +kernel
theorem dX12_lossOf_20 : decode cX12_lossOf 20 = .ok (.imul, 1) := by decide +kernel
theorem dX12_lossOf_21 : decode cX12_lossOf 21 = .ok (.aload_n 0, 1) := by decide +kernel
theorem dX12_lossOf_22 : decode cX12_lossOf 22 = .ok (.getfield 112, 3) := by decide +kernel
theorem dX12_lossOf_25 : decode cX12_lossOf 25 = .ok (.iload_n 1, 1) := by decide +kernel
theorem dX12_lossOf_26 : decode cX12_lossOf 26 = .ok (.iaload, 1) := by decide +kernel
theorem dX12_lossOf_27 : decode cX12_lossOf 27 = .ok (.invokestatic 577, 3) := by decide +kernel
theorem dX12_lossOf_30 : decode cX12_lossOf 30 = .ok (.idiv, 1) := by decide +kernel
theorem dX12_lossOf_31 : decode cX12_lossOf 31 = .ok (.goto 4, 3) := by decide +kernel
theorem dX12_lossOf_34 : decode cX12_lossOf 34 = .ok (.iconst 0, 1) := by decide +kernel
theorem dX12_lossOf_35 : decode cX12_lossOf 35 = .ok (.ireturn, 1) := by decide +kernel
theorem dX12_lossOfAll_0 : decode cX12_lossOfAll 0 = .ok (.iconst 0, 1) := by decide +kernel
theorem dX12_lossOfAll_1 : decode cX12_lossOfAll 1 = .ok (.istore_n 1, 1) := by decide +kernel
theorem dX12_lossOfAll_2 : decode cX12_lossOfAll 2 = .ok (.iconst 0, 1) := by decide +kernel
theorem dX12_lossOfAll_3 : decode cX12_lossOfAll 3 = .ok (.istore_n 2, 1) := by decide +kernel
theorem dX12_lossOfAll_4 : decode cX12_lossOfAll 4 = .ok (.iload_n 2, 1) := by decide +kernel
theorem dX12_lossOfAll_5 : decode cX12_lossOfAll 5 = .ok (.aload_n 0, 1) := by decide +kernel
theorem dX12_lossOfAll_6 : decode cX12_lossOfAll 6 = .ok (.invokevirtual 409, 3) := by decide +kernel
theorem dX12_lossOfAll_9 : decode cX12_lossOfAll 9 = .ok (.if_icmp .ge 17, 3) := by decide +kernel
theorem dX12_lossOfAll_12 : decode cX12_lossOfAll 12 = .ok (.iload_n 1, 1) := by decide +kernel
theorem dX12_lossOfAll_13 : decode cX12_lossOfAll 13 = .ok (.aload_n 0, 1) := by decide +kernel
theorem dX12_lossOfAll_14 : decode cX12_lossOfAll 14 = .ok (.iload_n 2, 1) := by decide +kernel
theorem dX12_lossOfAll_15 : decode cX12_lossOfAll 15 = .ok (.invokevirtual 595, 3) := by decide +kernel
theorem dX12_lossOfAll_18 : decode cX12_lossOfAll 18 = .ok (.iadd, 1) := by decide +kernel
theorem dX12_lossOfAll_19 : decode cX12_lossOfAll 19 = .ok (.istore_n 1, 1) := by decide +kernel
theorem dX12_lossOfAll_20 : decode cX12_lossOfAll 20 = .ok (.iinc 2 1, 3) := by decide +kernel
theorem dX12_lossOfAll_23 : decode cX12_lossOfAll 23 = .ok (.goto (-19), 3) := by decide +kernel
theorem dX12_lossOfAll_26 : decode cX12_lossOfAll 26 = .ok (.iload_n 1, 1) := by decide +kernel
theorem dX12_lossOfAll_27 : decode cX12_lossOfAll 27 = .ok (.ireturn, 1) := by decide +kernel
theorem dX12_askOf_0 : decode cX12_askOf 0 = .ok (.aload_n 0, 1) := by decide +kernel
theorem dX12_askOf_1 : decode cX12_askOf 1 = .ok (.aload_n 0, 1) := by decide +kernel
theorem dX12_askOf_2 : decode cX12_askOf 2 = .ok (.getfield 167, 3) := by decide +kernel
theorem dX12_askOf_5 : decode cX12_askOf 5 = .ok (.iload_n 1, 1) := by decide +kernel
theorem dX12_askOf_6 : decode cX12_askOf 6 = .ok (.iaload, 1) := by decide +kernel
theorem dX12_askOf_7 : decode cX12_askOf 7 = .ok (.invokevirtual 595, 3) := by decide +kernel
theorem dX12_askOf_10 : decode cX12_askOf 10 = .ok (.istore_n 2, 1) := by decide +kernel
theorem dX12_askOf_11 : decode cX12_askOf 11 = .ok (.aload_n 0, 1) := by decide +kernel
theorem dX12_askOf_12 : decode cX12_askOf 12 = .ok (.aload_n 0, 1) := by decide +kernel
theorem dX12_askOf_13 : decode cX12_askOf 13 = .ok (.getfield 164, 3) := by decide +kernel
theorem dX12_askOf_16 : decode cX12_askOf 16 = .ok (.iload_n 1, 1) := by decide +kernel
theorem dX12_askOf_17 : decode cX12_askOf 17 = .ok (.iaload, 1) := by decide +kernel
theorem dX12_askOf_18 : decode cX12_askOf 18 = .ok (.invokevirtual 495, 3) := by decide +kernel
theorem dX12_askOf_21 : decode cX12_askOf 21 = .ok (.istore_n 3, 1) := by decide +kernel
theorem dX12_askOf_22 : decode cX12_askOf 22 = .ok (.iload_n 2, 1) := by decide +kernel
theorem dX12_askOf_23 : decode cX12_askOf 23 = .ok (.ifCond .eq 7, 3) := by decide +kernel
theorem dX12_askOf_26 : decode cX12_askOf 26 = .ok (.iload_n 3, 1) := by decide +kernel
theorem dX12_askOf_27 : decode cX12_askOf 27 = .ok (.ifCond .ne 5, 3) := by decide +kernel
theorem dX12_askOf_30 : decode cX12_askOf 30 = .ok (.iconst 0, 1) := by decide +kernel
theorem dX12_askOf_31 : decode cX12_askOf 31 = .ok (.ireturn, 1) := by decide +kernel
theorem dX12_askOf_32 : decode cX12_askOf 32 = .ok (.aload_n 0, 1) := by decide +kernel
theorem dX12_askOf_33 : decode cX12_askOf 33 = .ok (.aload_n 0, 1) := by decide +kernel
theorem dX12_askOf_34 : decode cX12_askOf 34 = .ok (.getfield 167, 3) := by decide +kernel
theorem dX12_askOf_37 : decode cX12_askOf 37 = .ok (.iload_n 1, 1) := by decide +kernel
theorem dX12_askOf_38 : decode cX12_askOf 38 = .ok (.iaload, 1) := by decide +kernel
theorem dX12_askOf_39 : decode cX12_askOf 39 = .ok (.aload_n 0, 1) := by decide +kernel
theorem dX12_askOf_40 : decode cX12_askOf 40 = .ok (.getfield 170, 3) := by decide +kernel
theorem dX12_askOf_43 : decode cX12_askOf 43 = .ok (.iload_n 1, 1) := by decide +kernel
theorem dX12_askOf_44 : decode cX12_askOf 44 = .ok (.iaload, 1) := by decide +kernel
theorem dX12_askOf_45 : decode cX12_askOf 45 = .ok (.aload_n 0, 1) := by decide +kernel
theorem dX12_askOf_46 : decode cX12_askOf 46 = .ok (.aload_n 0, 1) := by decide +kernel
theorem dX12_askOf_47 : decode cX12_askOf 47 = .ok (.getfield 167, 3) := by decide +kernel
theorem dX12_askOf_50 : decode cX12_askOf 50 = .ok (.iload_n 1, 1) := by decide +kernel
theorem dX12_askOf_51 : decode cX12_askOf 51 = .ok (.iaload, 1) := by decide +kernel
theorem dX12_askOf_52 : decode cX12_askOf 52 = .ok (.invokevirtual 552, 3) := by decide +kernel
theorem dX12_askOf_55 : decode cX12_askOf 55 = .ok (.iconst 1, 1) := by decide +kernel
theorem dX12_askOf_56 : decode cX12_askOf 56 = .ok (.isub, 1) := by decide +kernel
theorem dX12_askOf_57 : decode cX12_askOf 57 = .ok (.iload_n 2, 1) := by decide +kernel
theorem dX12_askOf_58 : decode cX12_askOf 58 = .ok (.invokevirtual 555, 3) := by decide +kernel
theorem dX12_askOf_61 : decode cX12_askOf 61 = .ok (.aload_n 0, 1) := by decide +kernel
theorem dX12_askOf_62 : decode cX12_askOf 62 = .ok (.iload_n 3, 1) := by decide +kernel
theorem dX12_askOf_63 : decode cX12_askOf 63 = .ok (.iconst 1, 1) := by decide +kernel
theorem dX12_askOf_64 : decode cX12_askOf 64 = .ok (.invokevirtual 559, 3) := by decide +kernel
theorem dX12_askOf_67 : decode cX12_askOf 67 = .ok (.ifCond .ne 12, 3) := by decide +kernel
theorem dX12_askOf_70 : decode cX12_askOf 70 = .ok (.aload_n 0, 1) := by decide +kernel
theorem dX12_askOf_71 : decode cX12_askOf 71 = .ok (.iload_n 3, 1) := by decide +kernel
theorem dX12_askOf_72 : decode cX12_askOf 72 = .ok (.iconst 0, 1) := by decide +kernel
theorem dX12_askOf_73 : decode cX12_askOf 73 = .ok (.invokevirtual 559, 3) := by decide +kernel
theorem dX12_askOf_76 : decode cX12_askOf 76 = .ok (.ifCond .ne 5, 3) := by decide +kernel
theorem dX12_askOf_79 : decode cX12_askOf 79 = .ok (.iconst 0, 1) := by decide +kernel
theorem dX12_askOf_80 : decode cX12_askOf 80 = .ok (.ireturn, 1) := by decide +kernel
theorem dX12_askOf_81 : decode cX12_askOf 81 = .ok (.aload_n 0, 1) := by decide +kernel
theorem dX12_askOf_82 : decode cX12_askOf 82 = .ok (.iload_n 3, 1) := by decide +kernel
theorem dX12_askOf_83 : decode cX12_askOf 83 = .ok (.iconst 3, 1) := by decide +kernel
theorem dX12_askOf_84 : decode cX12_askOf 84 = .ok (.invokevirtual 549, 3) := by decide +kernel
theorem dX12_askOf_87 : decode cX12_askOf 87 = .ok (.istore 4, 2) := by decide +kernel
theorem dX12_askOf_89 : decode cX12_askOf 89 = .ok (.iload 4, 2) := by decide +kernel
theorem dX12_askOf_91 : decode cX12_askOf 91 = .ok (.iconst (-1), 1) := by decide +kernel
theorem dX12_askOf_92 : decode cX12_askOf 92 = .ok (.if_icmp .ne 8, 3) := by decide +kernel
theorem dX12_askOf_95 : decode cX12_askOf 95 = .ok (.iload_n 2, 1) := by decide +kernel
theorem dX12_askOf_96 : decode cX12_askOf 96 = .ok (.i2l, 1) := by decide +kernel
theorem dX12_askOf_97 : decode cX12_askOf 97 = .ok (.goto 10, 3) := by decide +kernel
theorem dX12_askOf_100 : decode cX12_askOf 100 = .ok (.aload_n 0, 1) := by decide +kernel
theorem dX12_askOf_101 : decode cX12_askOf 101 = .ok (.iload_n 3, 1) := by decide +kernel
theorem dX12_askOf_102 : decode cX12_askOf 102 = .ok (.iload 4, 2) := by decide +kernel
theorem dX12_askOf_104 : decode cX12_askOf 104 = .ok (.invokevirtual 545, 3) := by decide +kernel
theorem dX12_askOf_107 : decode cX12_askOf 107 = .ok (.lstore 5, 2) := by decide +kernel
theorem dX12_askOf_109 : decode cX12_askOf 109 = .ok (.lload 5, 2) := by decide +kernel
theorem dX12_askOf_111 : decode cX12_askOf 111 = .ok (.lconst 0, 1) := by decide +kernel
theorem dX12_askOf_112 : decode cX12_askOf 112 = .ok (.lcmp, 1) := by decide +kernel
theorem dX12_askOf_113 : decode cX12_askOf 113 = .ok (.ifCond .ge 7, 3) := by decide +kernel
theorem dX12_askOf_116 : decode cX12_askOf 116 = .ok (.lconst 0, 1) := by decide +kernel
theorem dX12_askOf_117 : decode cX12_askOf 117 = .ok (.goto 5, 3) := by decide +kernel
theorem dX12_askOf_120 : decode cX12_askOf 120 = .ok (.lload 5, 2) := by decide +kernel
theorem dX12_askOf_122 : decode cX12_askOf 122 = .ok (.lstore 5, 2) := by decide +kernel
theorem dX12_askOf_124 : decode cX12_askOf 124 = .ok (.lload 5, 2) := by decide +kernel
theorem dX12_askOf_126 : decode cX12_askOf 126 = .ok (.aload_n 0, 1) := by decide +kernel
theorem dX12_askOf_127 : decode cX12_askOf 127 = .ok (.getfield 170, 3) := by decide +kernel
theorem dX12_askOf_130 : decode cX12_askOf 130 = .ok (.iload_n 1, 1) := by decide +kernel
theorem dX12_askOf_131 : decode cX12_askOf 131 = .ok (.iaload, 1) := by decide +kernel
theorem dX12_askOf_132 : decode cX12_askOf 132 = .ok (.i2l, 1) := by decide +kernel
theorem dX12_askOf_133 : decode cX12_askOf 133 = .ok (.lcmp, 1) := by decide +kernel
theorem dX12_askOf_134 : decode cX12_askOf 134 = .ok (.ifCond .ge 8, 3) := by decide +kernel
theorem dX12_askOf_137 : decode cX12_askOf 137 = .ok (.lload 5, 2) := by decide +kernel
theorem dX12_askOf_139 : decode cX12_askOf 139 = .ok (.goto 10, 3) := by decide +kernel
theorem dX12_askOf_142 : decode cX12_askOf 142 = .ok (.aload_n 0, 1) := by decide +kernel
theorem dX12_askOf_143 : decode cX12_askOf 143 = .ok (.getfield 170, 3) := by decide +kernel
theorem dX12_askOf_146 : decode cX12_askOf 146 = .ok (.iload_n 1, 1) := by decide +kernel
theorem dX12_askOf_147 : decode cX12_askOf 147 = .ok (.iaload, 1) := by decide +kernel
theorem dX12_askOf_148 : decode cX12_askOf 148 = .ok (.i2l, 1) := by decide +kernel
theorem dX12_askOf_149 : decode cX12_askOf 149 = .ok (.l2i, 1) := by decide +kernel
theorem dX12_askOf_150 : decode cX12_askOf 150 = .ok (.ireturn, 1) := by decide +kernel
theorem dX12_mannerOf_0 : decode cX12_mannerOf 0 = .ok (.aload_n 0, 1) := by decide +kernel
theorem dX12_mannerOf_1 : decode cX12_mannerOf 1 = .ok (.aload_n 0, 1) := by decide +kernel
theorem dX12_mannerOf_2 : decode cX12_mannerOf 2 = .ok (.getfield 164, 3) := by decide +kernel
theorem dX12_mannerOf_5 : decode cX12_mannerOf 5 = .ok (.iload_n 1, 1) := by decide +kernel
theorem dX12_mannerOf_6 : decode cX12_mannerOf 6 = .ok (.iaload, 1) := by decide +kernel
theorem dX12_mannerOf_7 : decode cX12_mannerOf 7 = .ok (.invokevirtual 495, 3) := by decide +kernel
theorem dX12_mannerOf_10 : decode cX12_mannerOf 10 = .ok (.istore_n 2, 1) := by decide +kernel
theorem dX12_mannerOf_11 : decode cX12_mannerOf 11 = .ok (.iload_n 2, 1) := by decide +kernel
theorem dX12_mannerOf_12 : decode cX12_mannerOf 12 = .ok (.ifCond .ne 7, 3) := by decide +kernel
theorem dX12_mannerOf_15 : decode cX12_mannerOf 15 = .ok (.iconst (-1), 1) := by decide +kernel
theorem dX12_mannerOf_16 : decode cX12_mannerOf 16 = .ok (.goto 9, 3) := by decide +kernel
theorem dX12_mannerOf_19 : decode cX12_mannerOf 19 = .ok (.aload_n 0, 1) := by decide +kernel
theorem dX12_mannerOf_20 : decode cX12_mannerOf 20 = .ok (.iload_n 2, 1) := by decide +kernel
theorem dX12_mannerOf_21 : decode cX12_mannerOf 21 = .ok (.iconst 5, 1) := by decide +kernel
theorem dX12_mannerOf_22 : decode cX12_mannerOf 22 = .ok (.invokevirtual 549, 3) := by decide +kernel
theorem dX12_mannerOf_25 : decode cX12_mannerOf 25 = .ok (.istore_n 3, 1) := by decide +kernel
theorem dX12_mannerOf_26 : decode cX12_mannerOf 26 = .ok (.iload_n 3, 1) := by decide +kernel
theorem dX12_mannerOf_27 : decode cX12_mannerOf 27 = .ok (.iconst (-1), 1) := by decide +kernel
theorem dX12_mannerOf_28 : decode cX12_mannerOf 28 = .ok (.if_icmp .ne 7, 3) := by decide +kernel
theorem dX12_mannerOf_31 : decode cX12_mannerOf 31 = .ok (.iconst 1, 1) := by decide +kernel
theorem dX12_mannerOf_32 : decode cX12_mannerOf 32 = .ok (.goto 9, 3) := by decide +kernel
theorem dX12_mannerOf_35 : decode cX12_mannerOf 35 = .ok (.aload_n 0, 1) := by decide +kernel
theorem dX12_mannerOf_36 : decode cX12_mannerOf 36 = .ok (.getfield 96, 3) := by decide +kernel
theorem dX12_mannerOf_39 : decode cX12_mannerOf 39 = .ok (.iload_n 3, 1) := by decide +kernel
theorem dX12_mannerOf_40 : decode cX12_mannerOf 40 = .ok (.iaload, 1) := by decide +kernel
theorem dX12_mannerOf_41 : decode cX12_mannerOf 41 = .ok (.ireturn, 1) := by decide +kernel
theorem dX12_inRow_0 : decode cX12_inRow 0 = .ok (.iload_n 3, 1) := by decide +kernel
theorem dX12_inRow_1 : decode cX12_inRow 1 = .ok (.istore 4, 2) := by decide +kernel
theorem dX12_inRow_3 : decode cX12_inRow 3 = .ok (.iconst 1, 1) := by decide +kernel
theorem dX12_inRow_4 : decode cX12_inRow 4 = .ok (.istore 5, 2) := by decide +kernel
theorem dX12_inRow_6 : decode cX12_inRow 6 = .ok (.iload 5, 2) := by decide +kernel
theorem dX12_inRow_8 : decode cX12_inRow 8 = .ok (.aload_n 0, 1) := by decide +kernel
theorem dX12_inRow_9 : decode cX12_inRow 9 = .ok (.getfield 424, 3) := by decide +kernel
theorem dX12_inRow_12 : decode cX12_inRow 12 = .ok (.if_icmp .gt 87, 3) := by decide +kernel
theorem dX12_inRow_15 : decode cX12_inRow 15 = .ok (.aload_n 0, 1) := by decide +kernel
theorem dX12_inRow_16 : decode cX12_inRow 16 = .ok (.getfield 222, 3) := by decide +kernel
theorem dX12_inRow_19 : decode cX12_inRow 19 = .ok (.iload 5, 2) := by decide +kernel
theorem dX12_inRow_21 : decode cX12_inRow 21 = .ok (.baload, 1) := by decide +kernel
theorem dX12_inRow_22 : decode cX12_inRow 22 = .ok (.ifCond .eq 71, 3) := by decide +kernel
theorem dX12_inRow_25 : decode cX12_inRow 25 = .ok (.aload_n 0, 1) := by decide +kernel
theorem dX12_inRow_26 : decode cX12_inRow 26 = .ok (.getfield 167, 3) := by decide +kernel
theorem dX12_inRow_29 : decode cX12_inRow 29 = .ok (.iload 5, 2) := by decide +kernel
theorem dX12_inRow_31 : decode cX12_inRow 31 = .ok (.iaload, 1) := by decide +kernel
theorem dX12_inRow_32 : decode cX12_inRow 32 = .ok (.iload_n 1, 1) := by decide +kernel
theorem dX12_inRow_33 : decode cX12_inRow 33 = .ok (.if_icmp .ne 60, 3) := by decide +kernel
theorem dX12_inRow_36 : decode cX12_inRow 36 = .ok (.aload_n 0, 1) := by decide +kernel
theorem dX12_inRow_37 : decode cX12_inRow 37 = .ok (.getfield 219, 3) := by decide +kernel
theorem dX12_inRow_40 : decode cX12_inRow 40 = .ok (.iload 5, 2) := by decide +kernel
theorem dX12_inRow_42 : decode cX12_inRow 42 = .ok (.iaload, 1) := by decide +kernel
theorem dX12_inRow_43 : decode cX12_inRow 43 = .ok (.iload_n 2, 1) := by decide +kernel
theorem dX12_inRow_44 : decode cX12_inRow 44 = .ok (.if_icmp .eq 6, 3) := by decide +kernel
theorem dX12_inRow_47 : decode cX12_inRow 47 = .ok (.goto 46, 3) := by decide +kernel
theorem dX12_inRow_50 : decode cX12_inRow 50 = .ok (.aload_n 0, 1) := by decide +kernel
theorem dX12_inRow_51 : decode cX12_inRow 51 = .ok (.getfield 216, 3) := by decide +kernel
theorem dX12_inRow_54 : decode cX12_inRow 54 = .ok (.iload 5, 2) := by decide +kernel
theorem dX12_inRow_56 : decode cX12_inRow 56 = .ok (.aload_n 0, 1) := by decide +kernel
theorem dX12_inRow_57 : decode cX12_inRow 57 = .ok (.getfield 213, 3) := by decide +kernel
theorem dX12_inRow_60 : decode cX12_inRow 60 = .ok (.iload 5, 2) := by decide +kernel
theorem dX12_inRow_62 : decode cX12_inRow 62 = .ok (.iaload, 1) := by decide +kernel
theorem dX12_inRow_63 : decode cX12_inRow 63 = .ok (.iload 4, 2) := by decide +kernel
theorem dX12_inRow_65 : decode cX12_inRow 65 = .ok (.if_icmp .ge 13, 3) := by decide +kernel
theorem dX12_inRow_68 : decode cX12_inRow 68 = .ok (.aload_n 0, 1) := by decide +kernel
theorem dX12_inRow_69 : decode cX12_inRow 69 = .ok (.getfield 213, 3) := by decide +kernel
theorem dX12_inRow_72 : decode cX12_inRow 72 = .ok (.iload 5, 2) := by decide +kernel
theorem dX12_inRow_74 : decode cX12_inRow 74 = .ok (.iaload, 1) := by decide +kernel
theorem dX12_inRow_75 : decode cX12_inRow 75 = .ok (.goto 5, 3) := by decide +kernel
theorem dX12_inRow_78 : decode cX12_inRow 78 = .ok (.iload 4, 2) := by decide +kernel
theorem dX12_inRow_80 : decode cX12_inRow 80 = .ok (.iastore, 1) := by decide +kernel
theorem dX12_inRow_81 : decode cX12_inRow 81 = .ok (.iload 4, 2) := by decide +kernel
theorem dX12_inRow_83 : decode cX12_inRow 83 = .ok (.aload_n 0, 1) := by decide +kernel
theorem dX12_inRow_84 : decode cX12_inRow 84 = .ok (.getfield 216, 3) := by decide +kernel
theorem dX12_inRow_87 : decode cX12_inRow 87 = .ok (.iload 5, 2) := by decide +kernel
theorem dX12_inRow_89 : decode cX12_inRow 89 = .ok (.iaload, 1) := by decide +kernel
theorem dX12_inRow_90 : decode cX12_inRow 90 = .ok (.isub, 1) := by decide +kernel
theorem dX12_inRow_91 : decode cX12_inRow 91 = .ok (.istore 4, 2) := by decide +kernel
theorem dX12_inRow_93 : decode cX12_inRow 93 = .ok (.iinc 5 1, 3) := by decide +kernel
theorem dX12_inRow_96 : decode cX12_inRow 96 = .ok (.goto (-90), 3) := by decide +kernel
theorem dX12_inRow_99 : decode cX12_inRow 99 = .ok (.iload 4, 2) := by decide +kernel
theorem dX12_inRow_101 : decode cX12_inRow 101 = .ok (.ireturn, 1) := by decide +kernel
theorem dX12_byParts_0 : decode cX12_byParts 0 = .ok (.lconst 0, 1) := by decide +kernel
theorem dX12_byParts_1 : decode cX12_byParts 1 = .ok (.lstore_n 3, 1) := by decide +kernel
theorem dX12_byParts_2 : decode cX12_byParts 2 = .ok (.iconst 1, 1) := by decide +kernel
theorem dX12_byParts_3 : decode cX12_byParts 3 = .ok (.istore 5, 2) := by decide +kernel
theorem dX12_byParts_5 : decode cX12_byParts 5 = .ok (.iload 5, 2) := by decide +kernel
theorem dX12_byParts_7 : decode cX12_byParts 7 = .ok (.aload_n 0, 1) := by decide +kernel
theorem dX12_byParts_8 : decode cX12_byParts 8 = .ok (.getfield 424, 3) := by decide +kernel
theorem dX12_byParts_11 : decode cX12_byParts 11 = .ok (.if_icmp .gt 52, 3) := by decide +kernel
theorem dX12_byParts_14 : decode cX12_byParts 14 = .ok (.aload_n 0, 1) := by decide +kernel
theorem dX12_byParts_15 : decode cX12_byParts 15 = .ok (.getfield 222, 3) := by decide +kernel
theorem dX12_byParts_18 : decode cX12_byParts 18 = .ok (.iload 5, 2) := by decide +kernel
theorem dX12_byParts_20 : decode cX12_byParts 20 = .ok (.baload, 1) := by decide +kernel
theorem dX12_byParts_21 : decode cX12_byParts 21 = .ok (.ifCond .eq 36, 3) := by decide +kernel
theorem dX12_byParts_24 : decode cX12_byParts 24 = .ok (.aload_n 0, 1) := by decide +kernel
theorem dX12_byParts_25 : decode cX12_byParts 25 = .ok (.getfield 167, 3) := by decide +kernel
theorem dX12_byParts_28 : decode cX12_byParts 28 = .ok (.iload 5, 2) := by decide +kernel
theorem dX12_byParts_30 : decode cX12_byParts 30 = .ok (.iaload, 1) := by decide +kernel
theorem dX12_byParts_31 : decode cX12_byParts 31 = .ok (.iload_n 1, 1) := by decide +kernel
theorem dX12_byParts_32 : decode cX12_byParts 32 = .ok (.if_icmp .ne 25, 3) := by decide +kernel
theorem dX12_byParts_35 : decode cX12_byParts 35 = .ok (.aload_n 0, 1) := by decide +kernel
theorem dX12_byParts_36 : decode cX12_byParts 36 = .ok (.getfield 219, 3) := by decide +kernel
theorem dX12_byParts_39 : decode cX12_byParts 39 = .ok (.iload 5, 2) := by decide +kernel
theorem dX12_byParts_41 : decode cX12_byParts 41 = .ok (.iaload, 1) := by decide +kernel
theorem dX12_byParts_42 : decode cX12_byParts 42 = .ok (.iconst 1, 1) := by decide +kernel
theorem dX12_byParts_43 : decode cX12_byParts 43 = .ok (.if_icmp .ne 14, 3) := by decide +kernel
theorem dX12_byParts_46 : decode cX12_byParts 46 = .ok (.lload_n 3, 1) := by decide +kernel
theorem dX12_byParts_47 : decode cX12_byParts 47 = .ok (.aload_n 0, 1) := by decide +kernel
theorem dX12_byParts_48 : decode cX12_byParts 48 = .ok (.getfield 213, 3) := by decide +kernel
theorem dX12_byParts_51 : decode cX12_byParts 51 = .ok (.iload 5, 2) := by decide +kernel
theorem dX12_byParts_53 : decode cX12_byParts 53 = .ok (.iaload, 1) := by decide +kernel
theorem dX12_byParts_54 : decode cX12_byParts 54 = .ok (.i2l, 1) := by decide +kernel
theorem dX12_byParts_55 : decode cX12_byParts 55 = .ok (.ladd, 1) := by decide +kernel
theorem dX12_byParts_56 : decode cX12_byParts 56 = .ok (.lstore_n 3, 1) := by decide +kernel
theorem dX12_byParts_57 : decode cX12_byParts 57 = .ok (.iinc 5 1, 3) := by decide +kernel
theorem dX12_byParts_60 : decode cX12_byParts 60 = .ok (.goto (-55), 3) := by decide +kernel
theorem dX12_byParts_63 : decode cX12_byParts 63 = .ok (.lload_n 3, 1) := by decide +kernel
theorem dX12_byParts_64 : decode cX12_byParts 64 = .ok (.iload_n 2, 1) := by decide +kernel
theorem dX12_byParts_65 : decode cX12_byParts 65 = .ok (.i2l, 1) := by decide +kernel
theorem dX12_byParts_66 : decode cX12_byParts 66 = .ok (.lcmp, 1) := by decide +kernel
theorem dX12_byParts_67 : decode cX12_byParts 67 = .ok (.ifCond .gt 11, 3) := by decide +kernel
theorem dX12_byParts_70 : decode cX12_byParts 70 = .ok (.aload_n 0, 1) := by decide +kernel
theorem dX12_byParts_71 : decode cX12_byParts 71 = .ok (.iload_n 1, 1) := by decide +kernel
theorem dX12_byParts_72 : decode cX12_byParts 72 = .ok (.iconst 1, 1) := by decide +kernel
theorem dX12_byParts_73 : decode cX12_byParts 73 = .ok (.iload_n 2, 1) := by decide +kernel
theorem dX12_byParts_74 : decode cX12_byParts 74 = .ok (.invokevirtual 598, 3) := by decide +kernel
theorem dX12_byParts_77 : decode cX12_byParts 77 = .ok (.ireturn, 1) := by decide +kernel
theorem dX12_byParts_78 : decode cX12_byParts 78 = .ok (.iload_n 2, 1) := by decide +kernel
theorem dX12_byParts_79 : decode cX12_byParts 79 = .ok (.istore 5, 2) := by decide +kernel
theorem dX12_byParts_81 : decode cX12_byParts 81 = .ok (.iconst 1, 1) := by decide +kernel
theorem dX12_byParts_82 : decode cX12_byParts 82 = .ok (.istore 6, 2) := by decide +kernel
theorem dX12_byParts_84 : decode cX12_byParts 84 = .ok (.iload 6, 2) := by decide +kernel
theorem dX12_byParts_86 : decode cX12_byParts 86 = .ok (.aload_n 0, 1) := by decide +kernel
theorem dX12_byParts_87 : decode cX12_byParts 87 = .ok (.getfield 424, 3) := by decide +kernel
theorem dX12_byParts_90 : decode cX12_byParts 90 = .ok (.if_icmp .gt 92, 3) := by decide +kernel
theorem dX12_byParts_93 : decode cX12_byParts 93 = .ok (.aload_n 0, 1) := by decide +kernel
theorem dX12_byParts_94 : decode cX12_byParts 94 = .ok (.getfield 222, 3) := by decide +kernel
theorem dX12_byParts_97 : decode cX12_byParts 97 = .ok (.iload 6, 2) := by decide +kernel
theorem dX12_byParts_99 : decode cX12_byParts 99 = .ok (.baload, 1) := by decide +kernel
theorem dX12_byParts_100 : decode cX12_byParts 100 = .ok (.ifCond .eq 76, 3) := by decide +kernel
theorem dX12_byParts_103 : decode cX12_byParts 103 = .ok (.aload_n 0, 1) := by decide +kernel
theorem dX12_byParts_104 : decode cX12_byParts 104 = .ok (.getfield 167, 3) := by decide +kernel
theorem dX12_byParts_107 : decode cX12_byParts 107 = .ok (.iload 6, 2) := by decide +kernel
theorem dX12_byParts_109 : decode cX12_byParts 109 = .ok (.iaload, 1) := by decide +kernel
theorem dX12_byParts_110 : decode cX12_byParts 110 = .ok (.iload_n 1, 1) := by decide +kernel
theorem dX12_byParts_111 : decode cX12_byParts 111 = .ok (.if_icmp .ne 65, 3) := by decide +kernel
theorem dX12_byParts_114 : decode cX12_byParts 114 = .ok (.aload_n 0, 1) := by decide +kernel
theorem dX12_byParts_115 : decode cX12_byParts 115 = .ok (.getfield 219, 3) := by decide +kernel
theorem dX12_byParts_118 : decode cX12_byParts 118 = .ok (.iload 6, 2) := by decide +kernel
theorem dX12_byParts_120 : decode cX12_byParts 120 = .ok (.iaload, 1) := by decide +kernel
theorem dX12_byParts_121 : decode cX12_byParts 121 = .ok (.iconst 1, 1) := by decide +kernel
theorem dX12_byParts_122 : decode cX12_byParts 122 = .ok (.if_icmp .eq 6, 3) := by decide +kernel
theorem dX12_byParts_125 : decode cX12_byParts 125 = .ok (.goto 51, 3) := by decide +kernel
theorem dX12_byParts_128 : decode cX12_byParts 128 = .ok (.iload_n 2, 1) := by decide +kernel
theorem dX12_byParts_129 : decode cX12_byParts 129 = .ok (.i2l, 1) := by decide +kernel
theorem dX12_byParts_130 : decode cX12_byParts 130 = .ok (.aload_n 0, 1) := by decide +kernel
theorem dX12_byParts_131 : decode cX12_byParts 131 = .ok (.getfield 213, 3) := by decide +kernel
theorem dX12_byParts_134 : decode cX12_byParts 134 = .ok (.iload 6, 2) := by decide +kernel
theorem dX12_byParts_136 : decode cX12_byParts 136 = .ok (.iaload, 1) := by decide +kernel
theorem dX12_byParts_137 : decode cX12_byParts 137 = .ok (.i2l, 1) := by decide +kernel
theorem dX12_byParts_138 : decode cX12_byParts 138 = .ok (.lmul, 1) := by decide +kernel
theorem dX12_byParts_139 : decode cX12_byParts 139 = .ok (.lstore 7, 2) := by decide +kernel
theorem dX12_byParts_141 : decode cX12_byParts 141 = .ok (.aload_n 0, 1) := by decide +kernel
theorem dX12_byParts_142 : decode cX12_byParts 142 = .ok (.getfield 216, 3) := by decide +kernel
theorem dX12_byParts_145 : decode cX12_byParts 145 = .ok (.iload 6, 2) := by decide +kernel
theorem dX12_byParts_147 : decode cX12_byParts 147 = .ok (.lload 7, 2) := by decide +kernel
theorem dX12_byParts_149 : decode cX12_byParts 149 = .ok (.lload_n 3, 1) := by decide +kernel
theorem dX12_byParts_150 : decode cX12_byParts 150 = .ok (.ldiv, 1) := by decide +kernel
theorem dX12_byParts_151 : decode cX12_byParts 151 = .ok (.l2i, 1) := by decide +kernel
theorem dX12_byParts_152 : decode cX12_byParts 152 = .ok (.iastore, 1) := by decide +kernel
theorem dX12_byParts_153 : decode cX12_byParts 153 = .ok (.aload_n 0, 1) := by decide +kernel
theorem dX12_byParts_154 : decode cX12_byParts 154 = .ok (.getfield 225, 3) := by decide +kernel
theorem dX12_byParts_157 : decode cX12_byParts 157 = .ok (.iload 6, 2) := by decide +kernel
theorem dX12_byParts_159 : decode cX12_byParts 159 = .ok (.lload 7, 2) := by decide +kernel
theorem dX12_byParts_161 : decode cX12_byParts 161 = .ok (.lload_n 3, 1) := by decide +kernel
theorem dX12_byParts_162 : decode cX12_byParts 162 = .ok (.lrem, 1) := by decide +kernel
theorem dX12_byParts_163 : decode cX12_byParts 163 = .ok (.lastore, 1) := by decide +kernel
theorem dX12_byParts_164 : decode cX12_byParts 164 = .ok (.iload 5, 2) := by decide +kernel
theorem dX12_byParts_166 : decode cX12_byParts 166 = .ok (.aload_n 0, 1) := by decide +kernel
theorem dX12_byParts_167 : decode cX12_byParts 167 = .ok (.getfield 216, 3) := by decide +kernel
theorem dX12_byParts_170 : decode cX12_byParts 170 = .ok (.iload 6, 2) := by decide +kernel
theorem dX12_byParts_172 : decode cX12_byParts 172 = .ok (.iaload, 1) := by decide +kernel
theorem dX12_byParts_173 : decode cX12_byParts 173 = .ok (.isub, 1) := by decide +kernel
theorem dX12_byParts_174 : decode cX12_byParts 174 = .ok (.istore 5, 2) := by decide +kernel
theorem dX12_byParts_176 : decode cX12_byParts 176 = .ok (.iinc 6 1, 3) := by decide +kernel
theorem dX12_byParts_179 : decode cX12_byParts 179 = .ok (.goto (-95), 3) := by decide +kernel
theorem dX12_byParts_182 : decode cX12_byParts 182 = .ok (.iload 5, 2) := by decide +kernel
theorem dX12_byParts_184 : decode cX12_byParts 184 = .ok (.ifCond .le 110, 3) := by decide +kernel
theorem dX12_byParts_187 : decode cX12_byParts 187 = .ok (.iconst 0, 1) := by decide +kernel
theorem dX12_byParts_188 : decode cX12_byParts 188 = .ok (.istore 6, 2) := by decide +kernel
theorem dX12_byParts_190 : decode cX12_byParts 190 = .ok (.iconst 1, 1) := by decide +kernel
theorem dX12_byParts_191 : decode cX12_byParts 191 = .ok (.istore 7, 2) := by decide +kernel
theorem dX12_byParts_193 : decode cX12_byParts 193 = .ok (.iload 7, 2) := by decide +kernel
theorem dX12_byParts_195 : decode cX12_byParts 195 = .ok (.aload_n 0, 1) := by decide +kernel
theorem dX12_byParts_196 : decode cX12_byParts 196 = .ok (.getfield 424, 3) := by decide +kernel
theorem dX12_byParts_199 : decode cX12_byParts 199 = .ok (.if_icmp .gt 68, 3) := by decide +kernel
theorem dX12_byParts_202 : decode cX12_byParts 202 = .ok (.aload_n 0, 1) := by decide +kernel
theorem dX12_byParts_203 : decode cX12_byParts 203 = .ok (.getfield 222, 3) := by decide +kernel
theorem dX12_byParts_206 : decode cX12_byParts 206 = .ok (.iload 7, 2) := by decide +kernel
theorem dX12_byParts_208 : decode cX12_byParts 208 = .ok (.baload, 1) := by decide +kernel
theorem dX12_byParts_209 : decode cX12_byParts 209 = .ok (.ifCond .eq 52, 3) := by decide +kernel
theorem dX12_byParts_212 : decode cX12_byParts 212 = .ok (.aload_n 0, 1) := by decide +kernel
theorem dX12_byParts_213 : decode cX12_byParts 213 = .ok (.getfield 167, 3) := by decide +kernel
theorem dX12_byParts_216 : decode cX12_byParts 216 = .ok (.iload 7, 2) := by decide +kernel
theorem dX12_byParts_218 : decode cX12_byParts 218 = .ok (.iaload, 1) := by decide +kernel
theorem dX12_byParts_219 : decode cX12_byParts 219 = .ok (.iload_n 1, 1) := by decide +kernel
theorem dX12_byParts_220 : decode cX12_byParts 220 = .ok (.if_icmp .ne 41, 3) := by decide +kernel
theorem dX12_byParts_223 : decode cX12_byParts 223 = .ok (.aload_n 0, 1) := by decide +kernel
theorem dX12_byParts_224 : decode cX12_byParts 224 = .ok (.getfield 219, 3) := by decide +kernel
theorem dX12_byParts_227 : decode cX12_byParts 227 = .ok (.iload 7, 2) := by decide +kernel
theorem dX12_byParts_229 : decode cX12_byParts 229 = .ok (.iaload, 1) := by decide +kernel
theorem dX12_byParts_230 : decode cX12_byParts 230 = .ok (.iconst 1, 1) := by decide +kernel
theorem dX12_byParts_231 : decode cX12_byParts 231 = .ok (.if_icmp .ne 30, 3) := by decide +kernel
theorem dX12_byParts_234 : decode cX12_byParts 234 = .ok (.iload 6, 2) := by decide +kernel
theorem dX12_byParts_236 : decode cX12_byParts 236 = .ok (.ifCond .eq 21, 3) := by decide +kernel
theorem dX12_byParts_239 : decode cX12_byParts 239 = .ok (.aload_n 0, 1) := by decide +kernel
theorem dX12_byParts_240 : decode cX12_byParts 240 = .ok (.getfield 225, 3) := by decide +kernel
theorem dX12_byParts_243 : decode cX12_byParts 243 = .ok (.iload 7, 2) := by decide +kernel
theorem dX12_byParts_245 : decode cX12_byParts 245 = .ok (.laload, 1) := by decide +kernel
theorem dX12_byParts_246 : decode cX12_byParts 246 = .ok (.aload_n 0, 1) := by decide +kernel
theorem dX12_byParts_247 : decode cX12_byParts 247 = .ok (.getfield 225, 3) := by decide +kernel
theorem dX12_byParts_250 : decode cX12_byParts 250 = .ok (.iload 6, 2) := by decide +kernel
theorem dX12_byParts_252 : decode cX12_byParts 252 = .ok (.laload, 1) := by decide +kernel
theorem dX12_byParts_253 : decode cX12_byParts 253 = .ok (.lcmp, 1) := by decide +kernel
theorem dX12_byParts_254 : decode cX12_byParts 254 = .ok (.ifCond .le 7, 3) := by decide +kernel
theorem dX12_byParts_257 : decode cX12_byParts 257 = .ok (.iload 7, 2) := by decide +kernel
theorem dX12_byParts_259 : decode cX12_byParts 259 = .ok (.istore 6, 2) := by decide +kernel
theorem dX12_byParts_261 : decode cX12_byParts 261 = .ok (.iinc 7 1, 3) := by decide +kernel
theorem dX12_byParts_264 : decode cX12_byParts 264 = .ok (.goto (-71), 3) := by decide +kernel
theorem dX12_byParts_267 : decode cX12_byParts 267 = .ok (.aload_n 0, 1) := by decide +kernel
theorem dX12_byParts_268 : decode cX12_byParts 268 = .ok (.getfield 216, 3) := by decide +kernel
theorem dX12_byParts_271 : decode cX12_byParts 271 = .ok (.iload 6, 2) := by decide +kernel
theorem dX12_byParts_273 : decode cX12_byParts 273 = .ok (.dup2, 1) := by decide +kernel
theorem dX12_byParts_274 : decode cX12_byParts 274 = .ok (.iaload, 1) := by decide +kernel
theorem dX12_byParts_275 : decode cX12_byParts 275 = .ok (.iconst 1, 1) := by decide +kernel
theorem dX12_byParts_276 : decode cX12_byParts 276 = .ok (.iadd, 1) := by decide +kernel
theorem dX12_byParts_277 : decode cX12_byParts 277 = .ok (.iastore, 1) := by decide +kernel
theorem dX12_byParts_278 : decode cX12_byParts 278 = .ok (.aload_n 0, 1) := by decide +kernel
theorem dX12_byParts_279 : decode cX12_byParts 279 = .ok (.getfield 225, 3) := by decide +kernel
theorem dX12_byParts_282 : decode cX12_byParts 282 = .ok (.iload 6, 2) := by decide +kernel
theorem dX12_byParts_284 : decode cX12_byParts 284 = .ok (.ldc2_w 487, 3) := by decide +kernel
theorem dX12_byParts_287 : decode cX12_byParts 287 = .ok (.lastore, 1) := by decide +kernel
theorem dX12_byParts_288 : decode cX12_byParts 288 = .ok (.iinc 5 (-1), 3) := by decide +kernel
theorem dX12_byParts_291 : decode cX12_byParts 291 = .ok (.goto (-109), 3) := by decide +kernel
theorem dX12_byParts_294 : decode cX12_byParts 294 = .ok (.iconst 0, 1) := by decide +kernel
theorem dX12_byParts_295 : decode cX12_byParts 295 = .ok (.ireturn, 1) := by decide +kernel
theorem dX12_claims_0 : decode cX12_claims 0 = .ok (.iconst 0, 1) := by decide +kernel
theorem dX12_claims_1 : decode cX12_claims 1 = .ok (.istore_n 1, 1) := by decide +kernel
theorem dX12_claims_2 : decode cX12_claims 2 = .ok (.iload_n 1, 1) := by decide +kernel
theorem dX12_claims_3 : decode cX12_claims 3 = .ok (.sipush 200, 3) := by decide +kernel
theorem dX12_claims_6 : decode cX12_claims 6 = .ok (.if_icmp .gt 68, 3) := by decide +kernel
theorem dX12_claims_9 : decode cX12_claims 9 = .ok (.aload_n 0, 1) := by decide +kernel
theorem dX12_claims_10 : decode cX12_claims 10 = .ok (.getfield 222, 3) := by decide +kernel
theorem dX12_claims_13 : decode cX12_claims 13 = .ok (.iload_n 1, 1) := by decide +kernel
theorem dX12_claims_14 : decode cX12_claims 14 = .ok (.aload_n 0, 1) := by decide +kernel
theorem dX12_claims_15 : decode cX12_claims 15 = .ok (.iload_n 1, 1) := by decide +kernel
theorem dX12_claims_16 : decode cX12_claims 16 = .ok (.invokevirtual 517, 3) := by decide +kernel
theorem dX12_claims_19 : decode cX12_claims 19 = .ok (.bastore, 1) := by decide +kernel
theorem dX12_claims_20 : decode cX12_claims 20 = .ok (.aload_n 0, 1) := by decide +kernel
theorem dX12_claims_21 : decode cX12_claims 21 = .ok (.getfield 216, 3) := by decide +kernel
theorem dX12_claims_24 : decode cX12_claims 24 = .ok (.iload_n 1, 1) := by decide +kernel
theorem dX12_claims_25 : decode cX12_claims 25 = .ok (.iconst 0, 1) := by decide +kernel
theorem dX12_claims_26 : decode cX12_claims 26 = .ok (.iastore, 1) := by decide +kernel
theorem dX12_claims_27 : decode cX12_claims 27 = .ok (.aload_n 0, 1) := by decide +kernel
theorem dX12_claims_28 : decode cX12_claims 28 = .ok (.getfield 213, 3) := by decide +kernel
theorem dX12_claims_31 : decode cX12_claims 31 = .ok (.iload_n 1, 1) := by decide +kernel
theorem dX12_claims_32 : decode cX12_claims 32 = .ok (.iconst 0, 1) := by decide +kernel
theorem dX12_claims_33 : decode cX12_claims 33 = .ok (.iastore, 1) := by decide +kernel
theorem dX12_claims_34 : decode cX12_claims 34 = .ok (.aload_n 0, 1) := by decide +kernel
theorem dX12_claims_35 : decode cX12_claims 35 = .ok (.getfield 222, 3) := by decide +kernel
theorem dX12_claims_38 : decode cX12_claims 38 = .ok (.iload_n 1, 1) := by decide +kernel
theorem dX12_claims_39 : decode cX12_claims 39 = .ok (.baload, 1) := by decide +kernel
theorem dX12_claims_40 : decode cX12_claims 40 = .ok (.ifCond .ne 6, 3) := by decide +kernel
theorem dX12_claims_43 : decode cX12_claims 43 = .ok (.goto 25, 3) := by decide +kernel
theorem dX12_claims_46 : decode cX12_claims 46 = .ok (.aload_n 0, 1) := by decide +kernel
theorem dX12_claims_47 : decode cX12_claims 47 = .ok (.getfield 213, 3) := by decide +kernel
theorem dX12_claims_50 : decode cX12_claims 50 = .ok (.iload_n 1, 1) := by decide +kernel
theorem dX12_claims_51 : decode cX12_claims 51 = .ok (.aload_n 0, 1) := by decide +kernel
theorem dX12_claims_52 : decode cX12_claims 52 = .ok (.iload_n 1, 1) := by decide +kernel
theorem dX12_claims_53 : decode cX12_claims 53 = .ok (.invokevirtual 602, 3) := by decide +kernel
theorem dX12_claims_56 : decode cX12_claims 56 = .ok (.iastore, 1) := by decide +kernel
theorem dX12_claims_57 : decode cX12_claims 57 = .ok (.aload_n 0, 1) := by decide +kernel
theorem dX12_claims_58 : decode cX12_claims 58 = .ok (.getfield 219, 3) := by decide +kernel
theorem dX12_claims_61 : decode cX12_claims 61 = .ok (.iload_n 1, 1) := by decide +kernel
theorem dX12_claims_62 : decode cX12_claims 62 = .ok (.aload_n 0, 1) := by decide +kernel
theorem dX12_claims_63 : decode cX12_claims 63 = .ok (.iload_n 1, 1) := by decide +kernel
theorem dX12_claims_64 : decode cX12_claims 64 = .ok (.invokevirtual 605, 3) := by decide +kernel
theorem dX12_claims_67 : decode cX12_claims 67 = .ok (.iastore, 1) := by decide +kernel
theorem dX12_claims_68 : decode cX12_claims 68 = .ok (.iinc 1 1, 3) := by decide +kernel
theorem dX12_claims_71 : decode cX12_claims 71 = .ok (.goto (-69), 3) := by decide +kernel
theorem dX12_claims_74 : decode cX12_claims 74 = .ok (.iconst 0, 1) := by decide +kernel
theorem dX12_claims_75 : decode cX12_claims 75 = .ok (.istore_n 1, 1) := by decide +kernel
theorem dX12_claims_76 : decode cX12_claims 76 = .ok (.iload_n 1, 1) := by decide +kernel
theorem dX12_claims_77 : decode cX12_claims 77 = .ok (.aload_n 0, 1) := by decide +kernel
theorem dX12_claims_78 : decode cX12_claims 78 = .ok (.invokevirtual 409, 3) := by decide +kernel
theorem dX12_claims_81 : decode cX12_claims 81 = .ok (.if_icmp .ge 41, 3) := by decide +kernel
theorem dX12_claims_84 : decode cX12_claims 84 = .ok (.aload_n 0, 1) := by decide +kernel
theorem dX12_claims_85 : decode cX12_claims 85 = .ok (.getfield 121, 3) := by decide +kernel
theorem dX12_claims_88 : decode cX12_claims 88 = .ok (.iload_n 1, 1) := by decide +kernel
theorem dX12_claims_89 : decode cX12_claims 89 = .ok (.baload, 1) := by decide +kernel
theorem dX12_claims_90 : decode cX12_claims 90 = .ok (.ifCond .eq 26, 3) := by decide +kernel
theorem dX12_claims_93 : decode cX12_claims 93 = .ok (.aload_n 0, 1) := by decide +kernel
theorem dX12_claims_94 : decode cX12_claims 94 = .ok (.iload_n 1, 1) := by decide +kernel
theorem dX12_claims_95 : decode cX12_claims 95 = .ok (.iconst 2, 1) := by decide +kernel
theorem dX12_claims_96 : decode cX12_claims 96 = .ok (.aload_n 0, 1) := by decide +kernel
theorem dX12_claims_97 : decode cX12_claims 97 = .ok (.iload_n 1, 1) := by decide +kernel
theorem dX12_claims_98 : decode cX12_claims 98 = .ok (.aload_n 0, 1) := by decide +kernel
theorem dX12_claims_99 : decode cX12_claims 99 = .ok (.iload_n 1, 1) := by decide +kernel
theorem dX12_claims_100 : decode cX12_claims 100 = .ok (.iconst 0, 1) := by decide +kernel
theorem dX12_claims_101 : decode cX12_claims 101 = .ok (.aload_n 0, 1) := by decide +kernel
theorem dX12_claims_102 : decode cX12_claims 102 = .ok (.iload_n 1, 1) := by decide +kernel
theorem dX12_claims_103 : decode cX12_claims 103 = .ok (.invokevirtual 595, 3) := by decide +kernel
theorem dX12_claims_106 : decode cX12_claims 106 = .ok (.invokevirtual 598, 3) := by decide +kernel
theorem dX12_claims_109 : decode cX12_claims 109 = .ok (.invokevirtual 608, 3) := by decide +kernel
theorem dX12_claims_112 : decode cX12_claims 112 = .ok (.invokevirtual 598, 3) := by decide +kernel
theorem dX12_claims_115 : decode cX12_claims 115 = .ok (.pop, 1) := by decide +kernel
theorem dX12_claims_116 : decode cX12_claims 116 = .ok (.iinc 1 1, 3) := by decide +kernel
theorem dX12_claims_119 : decode cX12_claims 119 = .ok (.goto (-43), 3) := by decide +kernel
theorem dX12_claims_122 : decode cX12_claims 122 = .ok (.return_, 1) := by decide +kernel
theorem dX12_settledOf_0 : decode cX12_settledOf 0 = .ok (.iconst 0, 1) := by decide +kernel
theorem dX12_settledOf_1 : decode cX12_settledOf 1 = .ok (.istore_n 2, 1) := by decide +kernel
theorem dX12_settledOf_2 : decode cX12_settledOf 2 = .ok (.iconst 1, 1) := by decide +kernel
theorem dX12_settledOf_3 : decode cX12_settledOf 3 = .ok (.istore_n 3, 1) := by decide +kernel
theorem dX12_settledOf_4 : decode cX12_settledOf 4 = .ok (.iload_n 3, 1) := by decide +kernel
theorem dX12_settledOf_5 : decode cX12_settledOf 5 = .ok (.aload_n 0, 1) := by decide +kernel
theorem dX12_settledOf_6 : decode cX12_settledOf 6 = .ok (.getfield 424, 3) := by decide +kernel
theorem dX12_settledOf_9 : decode cX12_settledOf 9 = .ok (.if_icmp .gt 37, 3) := by decide +kernel
theorem dX12_settledOf_12 : decode cX12_settledOf 12 = .ok (.aload_n 0, 1) := by decide +kernel
theorem dX12_settledOf_13 : decode cX12_settledOf 13 = .ok (.getfield 222, 3) := by decide +kernel
theorem dX12_settledOf_16 : decode cX12_settledOf 16 = .ok (.iload_n 3, 1) := by decide +kernel
theorem dX12_settledOf_17 : decode cX12_settledOf 17 = .ok (.baload, 1) := by decide +kernel
theorem dX12_settledOf_18 : decode cX12_settledOf 18 = .ok (.ifCond .eq 22, 3) := by decide +kernel
theorem dX12_settledOf_21 : decode cX12_settledOf 21 = .ok (.aload_n 0, 1) := by decide +kernel
theorem dX12_settledOf_22 : decode cX12_settledOf 22 = .ok (.getfield 164, 3) := by decide +kernel
theorem dX12_settledOf_25 : decode cX12_settledOf 25 = .ok (.iload_n 3, 1) := by decide +kernel
theorem dX12_settledOf_26 : decode cX12_settledOf 26 = .ok (.iaload, 1) := by decide +kernel
theorem dX12_settledOf_27 : decode cX12_settledOf 27 = .ok (.iload_n 1, 1) := by decide +kernel
theorem dX12_settledOf_28 : decode cX12_settledOf 28 = .ok (.if_icmp .ne 12, 3) := by decide +kernel
theorem dX12_settledOf_31 : decode cX12_settledOf 31 = .ok (.iload_n 2, 1) := by decide +kernel
theorem dX12_settledOf_32 : decode cX12_settledOf 32 = .ok (.aload_n 0, 1) := by decide +kernel
theorem dX12_settledOf_33 : decode cX12_settledOf 33 = .ok (.getfield 216, 3) := by decide +kernel
theorem dX12_settledOf_36 : decode cX12_settledOf 36 = .ok (.iload_n 3, 1) := by decide +kernel
theorem dX12_settledOf_37 : decode cX12_settledOf 37 = .ok (.iaload, 1) := by decide +kernel
theorem dX12_settledOf_38 : decode cX12_settledOf 38 = .ok (.iadd, 1) := by decide +kernel
theorem dX12_settledOf_39 : decode cX12_settledOf 39 = .ok (.istore_n 2, 1) := by decide +kernel
theorem dX12_settledOf_40 : decode cX12_settledOf 40 = .ok (.iinc 3 1, 3) := by decide +kernel
theorem dX12_settledOf_43 : decode cX12_settledOf 43 = .ok (.goto (-39), 3) := by decide +kernel
theorem dX12_settledOf_46 : decode cX12_settledOf 46 = .ok (.iload_n 2, 1) := by decide +kernel
theorem dX12_settledOf_47 : decode cX12_settledOf 47 = .ok (.ireturn, 1) := by decide +kernel
theorem dX12_run_0 : decode cX12_run 0 = .ok (.aload_n 0, 1) := by decide +kernel
theorem dX12_run_1 : decode cX12_run 1 = .ok (.iload_n 1, 1) := by decide +kernel
theorem dX12_run_2 : decode cX12_run 2 = .ok (.invokevirtual 482, 3) := by decide +kernel
theorem dX12_run_5 : decode cX12_run 5 = .ok (.ifCond .eq 15, 3) := by decide +kernel
theorem dX12_run_8 : decode cX12_run 8 = .ok (.iload_n 2, 1) := by decide +kernel
theorem dX12_run_9 : decode cX12_run 9 = .ok (.i2l, 1) := by decide +kernel
theorem dX12_run_10 : decode cX12_run 10 = .ok (.lconst 1, 1) := by decide +kernel
theorem dX12_run_11 : decode cX12_run 11 = .ok (.ldc2_w 445, 3) := by decide +kernel
theorem dX12_run_14 : decode cX12_run 14 = .ok (.invokestatic 325, 3) := by decide +kernel
theorem dX12_run_17 : decode cX12_run 17 = .ok (.ifCond .ne 5, 3) := by decide +kernel
theorem dX12_run_20 : decode cX12_run 20 = .ok (.iconst (-1), 1) := by decide +kernel
theorem dX12_run_21 : decode cX12_run 21 = .ok (.ireturn, 1) := by decide +kernel
theorem dX12_run_22 : decode cX12_run 22 = .ok (.aload_n 0, 1) := by decide +kernel
theorem dX12_run_23 : decode cX12_run 23 = .ok (.iload_n 1, 1) := by decide +kernel
theorem dX12_run_24 : decode cX12_run 24 = .ok (.iload_n 2, 1) := by decide +kernel
theorem dX12_run_25 : decode cX12_run 25 = .ok (.invokevirtual 611, 3) := by decide +kernel
theorem dX12_run_28 : decode cX12_run 28 = .ok (.aload_n 0, 1) := by decide +kernel
theorem dX12_run_29 : decode cX12_run 29 = .ok (.invokevirtual 614, 3) := by decide +kernel
theorem dX12_run_32 : decode cX12_run 32 = .ok (.aload_n 0, 1) := by decide +kernel
theorem dX12_run_33 : decode cX12_run 33 = .ok (.iconst 1, 1) := by decide +kernel
theorem dX12_run_34 : decode cX12_run 34 = .ok (.putfield 430, 3) := by decide +kernel
theorem dX12_run_37 : decode cX12_run 37 = .ok (.aload_n 0, 1) := by decide +kernel
theorem dX12_run_38 : decode cX12_run 38 = .ok (.aload_n 0, 1) := by decide +kernel
theorem dX12_run_39 : decode cX12_run 39 = .ok (.invokevirtual 409, 3) := by decide +kernel
theorem dX12_run_42 : decode cX12_run 42 = .ok (.putfield 617, 3) := by decide +kernel
theorem dX12_run_45 : decode cX12_run 45 = .ok (.aload_n 0, 1) := by decide +kernel
theorem dX12_run_46 : decode cX12_run 46 = .ok (.aload_n 0, 1) := by decide +kernel
theorem dX12_run_47 : decode cX12_run 47 = .ok (.getfield 421, 3) := by decide +kernel
theorem dX12_run_50 : decode cX12_run 50 = .ok (.putfield 620, 3) := by decide +kernel
theorem dX12_run_53 : decode cX12_run 53 = .ok (.iconst 0, 1) := by decide +kernel
theorem dX12_run_54 : decode cX12_run 54 = .ok (.istore_n 3, 1) := by decide +kernel
theorem dX12_run_55 : decode cX12_run 55 = .ok (.iconst 0, 1) := by decide +kernel
theorem dX12_run_56 : decode cX12_run 56 = .ok (.istore 4, 2) := by decide +kernel
theorem dX12_run_58 : decode cX12_run 58 = .ok (.iload 4, 2) := by decide +kernel
theorem dX12_run_60 : decode cX12_run 60 = .ok (.aload_n 0, 1) := by decide +kernel
theorem dX12_run_61 : decode cX12_run 61 = .ok (.invokevirtual 409, 3) := by decide +kernel
theorem dX12_run_64 : decode cX12_run 64 = .ok (.if_icmp .ge 119, 3) := by decide +kernel
theorem dX12_run_67 : decode cX12_run 67 = .ok (.aload_n 0, 1) := by decide +kernel
theorem dX12_run_68 : decode cX12_run 68 = .ok (.getfield 228, 3) := by decide +kernel
theorem dX12_run_71 : decode cX12_run 71 = .ok (.iload 4, 2) := by decide +kernel
theorem dX12_run_73 : decode cX12_run 73 = .ok (.aload_n 0, 1) := by decide +kernel
theorem dX12_run_74 : decode cX12_run 74 = .ok (.getfield 121, 3) := by decide +kernel
theorem dX12_run_77 : decode cX12_run 77 = .ok (.iload 4, 2) := by decide +kernel
theorem dX12_run_79 : decode cX12_run 79 = .ok (.baload, 1) := by decide +kernel
theorem dX12_run_80 : decode cX12_run 80 = .ok (.bastore, 1) := by decide +kernel
theorem dX12_run_81 : decode cX12_run 81 = .ok (.aload_n 0, 1) := by decide +kernel
theorem dX12_run_82 : decode cX12_run 82 = .ok (.getfield 231, 3) := by decide +kernel
theorem dX12_run_85 : decode cX12_run 85 = .ok (.iload 4, 2) := by decide +kernel
theorem dX12_run_87 : decode cX12_run 87 = .ok (.aload_n 0, 1) := by decide +kernel
theorem dX12_run_88 : decode cX12_run 88 = .ok (.getfield 183, 3) := by decide +kernel
theorem dX12_run_91 : decode cX12_run 91 = .ok (.iload 4, 2) := by decide +kernel
theorem dX12_run_93 : decode cX12_run 93 = .ok (.iaload, 1) := by decide +kernel
theorem dX12_run_94 : decode cX12_run 94 = .ok (.iastore, 1) := by decide +kernel
theorem dX12_run_95 : decode cX12_run 95 = .ok (.aload_n 0, 1) := by decide +kernel
theorem dX12_run_96 : decode cX12_run 96 = .ok (.getfield 234, 3) := by decide +kernel
theorem dX12_run_99 : decode cX12_run 99 = .ok (.iload 4, 2) := by decide +kernel
theorem dX12_run_101 : decode cX12_run 101 = .ok (.aload_n 0, 1) := by decide +kernel
theorem dX12_run_102 : decode cX12_run 102 = .ok (.getfield 186, 3) := by decide +kernel
theorem dX12_run_105 : decode cX12_run 105 = .ok (.iload 4, 2) := by decide +kernel
theorem dX12_run_107 : decode cX12_run 107 = .ok (.iaload, 1) := by decide +kernel
theorem dX12_run_108 : decode cX12_run 108 = .ok (.iastore, 1) := by decide +kernel
theorem dX12_run_109 : decode cX12_run 109 = .ok (.aload_n 0, 1) := by decide +kernel
theorem dX12_run_110 : decode cX12_run 110 = .ok (.getfield 237, 3) := by decide +kernel
theorem dX12_run_113 : decode cX12_run 113 = .ok (.iload 4, 2) := by decide +kernel
theorem dX12_run_115 : decode cX12_run 115 = .ok (.aload_n 0, 1) := by decide +kernel
theorem dX12_run_116 : decode cX12_run 116 = .ok (.getfield 189, 3) := by decide +kernel
theorem dX12_run_119 : decode cX12_run 119 = .ok (.iload 4, 2) := by decide +kernel
theorem dX12_run_121 : decode cX12_run 121 = .ok (.iaload, 1) := by decide +kernel
theorem dX12_run_122 : decode cX12_run 122 = .ok (.iastore, 1) := by decide +kernel
theorem dX12_run_123 : decode cX12_run 123 = .ok (.aload_n 0, 1) := by decide +kernel
theorem dX12_run_124 : decode cX12_run 124 = .ok (.getfield 240, 3) := by decide +kernel
theorem dX12_run_127 : decode cX12_run 127 = .ok (.iload 4, 2) := by decide +kernel
theorem dX12_run_129 : decode cX12_run 129 = .ok (.aload_n 0, 1) := by decide +kernel
theorem dX12_run_130 : decode cX12_run 130 = .ok (.getfield 192, 3) := by decide +kernel
theorem dX12_run_133 : decode cX12_run 133 = .ok (.iload 4, 2) := by decide +kernel
theorem dX12_run_135 : decode cX12_run 135 = .ok (.iaload, 1) := by decide +kernel
theorem dX12_run_136 : decode cX12_run 136 = .ok (.iastore, 1) := by decide +kernel
theorem dX12_run_137 : decode cX12_run 137 = .ok (.aload_n 0, 1) := by decide +kernel
theorem dX12_run_138 : decode cX12_run 138 = .ok (.getfield 243, 3) := by decide +kernel
theorem dX12_run_141 : decode cX12_run 141 = .ok (.iload 4, 2) := by decide +kernel
theorem dX12_run_143 : decode cX12_run 143 = .ok (.aload_n 0, 1) := by decide +kernel
theorem dX12_run_144 : decode cX12_run 144 = .ok (.iload 4, 2) := by decide +kernel
theorem dX12_run_146 : decode cX12_run 146 = .ok (.invokevirtual 595, 3) := by decide +kernel
theorem dX12_run_149 : decode cX12_run 149 = .ok (.iastore, 1) := by decide +kernel
theorem dX12_run_150 : decode cX12_run 150 = .ok (.aload_n 0, 1) := by decide +kernel
theorem dX12_run_151 : decode cX12_run 151 = .ok (.getfield 246, 3) := by decide +kernel
theorem dX12_run_154 : decode cX12_run 154 = .ok (.iload 4, 2) := by decide +kernel
theorem dX12_run_156 : decode cX12_run 156 = .ok (.aload_n 0, 1) := by decide +kernel
theorem dX12_run_157 : decode cX12_run 157 = .ok (.getfield 195, 3) := by decide +kernel
theorem dX12_run_160 : decode cX12_run 160 = .ok (.iload 4, 2) := by decide +kernel
theorem dX12_run_162 : decode cX12_run 162 = .ok (.iaload, 1) := by decide +kernel
theorem dX12_run_163 : decode cX12_run 163 = .ok (.iastore, 1) := by decide +kernel
theorem dX12_run_164 : decode cX12_run 164 = .ok (.aload_n 0, 1) := by decide +kernel
theorem dX12_run_165 : decode cX12_run 165 = .ok (.getfield 183, 3) := by decide +kernel
theorem dX12_run_168 : decode cX12_run 168 = .ok (.iload 4, 2) := by decide +kernel
theorem dX12_run_170 : decode cX12_run 170 = .ok (.iaload, 1) := by decide +kernel
theorem dX12_run_171 : decode cX12_run 171 = .ok (.ifCond .eq 6, 3) := by decide +kernel
theorem dX12_run_174 : decode cX12_run 174 = .ok (.iinc 3 1, 3) := by decide +kernel
theorem dX12_run_177 : decode cX12_run 177 = .ok (.iinc 4 1, 3) := by decide +kernel
theorem dX12_run_180 : decode cX12_run 180 = .ok (.goto (-122), 3) := by decide +kernel
theorem dX12_run_183 : decode cX12_run 183 = .ok (.iconst 0, 1) := by decide +kernel
theorem dX12_run_184 : decode cX12_run 184 = .ok (.istore 4, 2) := by decide +kernel
theorem dX12_run_186 : decode cX12_run 186 = .ok (.iload 4, 2) := by decide +kernel
theorem dX12_run_188 : decode cX12_run 188 = .ok (.aload_n 0, 1) := by decide +kernel
theorem dX12_run_189 : decode cX12_run 189 = .ok (.getfield 421, 3) := by decide +kernel
theorem dX12_run_192 : decode cX12_run 192 = .ok (.if_icmp .ge 51, 3) := by decide +kernel
theorem dX12_run_195 : decode cX12_run 195 = .ok (.aload_n 0, 1) := by decide +kernel
theorem dX12_run_196 : decode cX12_run 196 = .ok (.getfield 249, 3) := by decide +kernel
theorem dX12_run_199 : decode cX12_run 199 = .ok (.iload 4, 2) := by decide +kernel
theorem dX12_run_201 : decode cX12_run 201 = .ok (.aload_n 0, 1) := by decide +kernel
theorem dX12_run_202 : decode cX12_run 202 = .ok (.getfield 204, 3) := by decide +kernel
theorem dX12_run_205 : decode cX12_run 205 = .ok (.iload 4, 2) := by decide +kernel
theorem dX12_run_207 : decode cX12_run 207 = .ok (.iaload, 1) := by decide +kernel
theorem dX12_run_208 : decode cX12_run 208 = .ok (.iastore, 1) := by decide +kernel
theorem dX12_run_209 : decode cX12_run 209 = .ok (.aload_n 0, 1) := by decide +kernel
theorem dX12_run_210 : decode cX12_run 210 = .ok (.getfield 252, 3) := by decide +kernel
theorem dX12_run_213 : decode cX12_run 213 = .ok (.iload 4, 2) := by decide +kernel
theorem dX12_run_215 : decode cX12_run 215 = .ok (.aload_n 0, 1) := by decide +kernel
theorem dX12_run_216 : decode cX12_run 216 = .ok (.getfield 207, 3) := by decide +kernel
theorem dX12_run_219 : decode cX12_run 219 = .ok (.iload 4, 2) := by decide +kernel
theorem dX12_run_221 : decode cX12_run 221 = .ok (.iaload, 1) := by decide +kernel
theorem dX12_run_222 : decode cX12_run 222 = .ok (.iastore, 1) := by decide +kernel
theorem dX12_run_223 : decode cX12_run 223 = .ok (.aload_n 0, 1) := by decide +kernel
theorem dX12_run_224 : decode cX12_run 224 = .ok (.getfield 255, 3) := by decide +kernel
theorem dX12_run_227 : decode cX12_run 227 = .ok (.iload 4, 2) := by decide +kernel
theorem dX12_run_229 : decode cX12_run 229 = .ok (.aload_n 0, 1) := by decide +kernel
theorem dX12_run_230 : decode cX12_run 230 = .ok (.getfield 210, 3) := by decide +kernel
theorem dX12_run_233 : decode cX12_run 233 = .ok (.iload 4, 2) := by decide +kernel
theorem dX12_run_235 : decode cX12_run 235 = .ok (.iaload, 1) := by decide +kernel
theorem dX12_run_236 : decode cX12_run 236 = .ok (.iastore, 1) := by decide +kernel
theorem dX12_run_237 : decode cX12_run 237 = .ok (.iinc 4 1, 3) := by decide +kernel
theorem dX12_run_240 : decode cX12_run 240 = .ok (.goto (-54), 3) := by decide +kernel
theorem dX12_run_243 : decode cX12_run 243 = .ok (.aload_n 0, 1) := by decide +kernel
theorem dX12_run_244 : decode cX12_run 244 = .ok (.aload_n 0, 1) := by decide +kernel
theorem dX12_run_245 : decode cX12_run 245 = .ok (.invokevirtual 623, 3) := by decide +kernel
theorem dX12_run_248 : decode cX12_run 248 = .ok (.putfield 626, 3) := by decide +kernel
theorem dX12_run_251 : decode cX12_run 251 = .ok (.iconst 0, 1) := by decide +kernel
theorem dX12_run_252 : decode cX12_run 252 = .ok (.istore 4, 2) := by decide +kernel
theorem dX12_run_254 : decode cX12_run 254 = .ok (.iload 4, 2) := by decide +kernel
theorem dX12_run_256 : decode cX12_run 256 = .ok (.sipush 200, 3) := by decide +kernel
theorem dX12_run_259 : decode cX12_run 259 = .ok (.if_icmp .gt 51, 3) := by decide +kernel
theorem dX12_run_262 : decode cX12_run 262 = .ok (.aload_n 0, 1) := by decide +kernel
theorem dX12_run_263 : decode cX12_run 263 = .ok (.getfield 258, 3) := by decide +kernel
theorem dX12_run_266 : decode cX12_run 266 = .ok (.iload 4, 2) := by decide +kernel
theorem dX12_run_268 : decode cX12_run 268 = .ok (.aload_n 0, 1) := by decide +kernel
theorem dX12_run_269 : decode cX12_run 269 = .ok (.getfield 222, 3) := by decide +kernel
theorem dX12_run_272 : decode cX12_run 272 = .ok (.iload 4, 2) := by decide +kernel
theorem dX12_run_274 : decode cX12_run 274 = .ok (.baload, 1) := by decide +kernel
theorem dX12_run_275 : decode cX12_run 275 = .ok (.bastore, 1) := by decide +kernel
theorem dX12_run_276 : decode cX12_run 276 = .ok (.aload_n 0, 1) := by decide +kernel
theorem dX12_run_277 : decode cX12_run 277 = .ok (.getfield 261, 3) := by decide +kernel
theorem dX12_run_280 : decode cX12_run 280 = .ok (.iload 4, 2) := by decide +kernel
theorem dX12_run_282 : decode cX12_run 282 = .ok (.aload_n 0, 1) := by decide +kernel
theorem dX12_run_283 : decode cX12_run 283 = .ok (.getfield 213, 3) := by decide +kernel
theorem dX12_run_286 : decode cX12_run 286 = .ok (.iload 4, 2) := by decide +kernel
theorem dX12_run_288 : decode cX12_run 288 = .ok (.iaload, 1) := by decide +kernel
theorem dX12_run_289 : decode cX12_run 289 = .ok (.iastore, 1) := by decide +kernel
theorem dX12_run_290 : decode cX12_run 290 = .ok (.aload_n 0, 1) := by decide +kernel
theorem dX12_run_291 : decode cX12_run 291 = .ok (.getfield 264, 3) := by decide +kernel
theorem dX12_run_294 : decode cX12_run 294 = .ok (.iload 4, 2) := by decide +kernel
theorem dX12_run_296 : decode cX12_run 296 = .ok (.aload_n 0, 1) := by decide +kernel
theorem dX12_run_297 : decode cX12_run 297 = .ok (.getfield 216, 3) := by decide +kernel
theorem dX12_run_300 : decode cX12_run 300 = .ok (.iload 4, 2) := by decide +kernel
theorem dX12_run_302 : decode cX12_run 302 = .ok (.iaload, 1) := by decide +kernel
theorem dX12_run_303 : decode cX12_run 303 = .ok (.iastore, 1) := by decide +kernel
theorem dX12_run_304 : decode cX12_run 304 = .ok (.iinc 4 1, 3) := by decide +kernel
theorem dX12_run_307 : decode cX12_run 307 = .ok (.goto (-53), 3) := by decide +kernel
theorem dX12_run_310 : decode cX12_run 310 = .ok (.iconst 0, 1) := by decide +kernel
theorem dX12_run_311 : decode cX12_run 311 = .ok (.istore 4, 2) := by decide +kernel
theorem dX12_run_313 : decode cX12_run 313 = .ok (.iload 4, 2) := by decide +kernel
theorem dX12_run_315 : decode cX12_run 315 = .ok (.bipush 9, 2) := by decide +kernel
theorem dX12_run_317 : decode cX12_run 317 = .ok (.if_icmp .ge 22, 3) := by decide +kernel
theorem dX12_run_320 : decode cX12_run 320 = .ok (.aload_n 0, 1) := by decide +kernel
theorem dX12_run_321 : decode cX12_run 321 = .ok (.getfield 267, 3) := by decide +kernel
theorem dX12_run_324 : decode cX12_run 324 = .ok (.iload 4, 2) := by decide +kernel
theorem dX12_run_326 : decode cX12_run 326 = .ok (.aload_n 0, 1) := by decide +kernel
theorem dX12_run_327 : decode cX12_run 327 = .ok (.iload 4, 2) := by decide +kernel
theorem dX12_run_329 : decode cX12_run 329 = .ok (.invokevirtual 629, 3) := by decide +kernel
theorem dX12_run_332 : decode cX12_run 332 = .ok (.iastore, 1) := by decide +kernel
theorem dX12_run_333 : decode cX12_run 333 = .ok (.iinc 4 1, 3) := by decide +kernel
theorem dX12_run_336 : decode cX12_run 336 = .ok (.goto (-23), 3) := by decide +kernel
theorem dX12_run_339 : decode cX12_run 339 = .ok (.iload_n 3, 1) := by decide +kernel
theorem dX12_run_340 : decode cX12_run 340 = .ok (.ireturn, 1) := by decide +kernel
theorem dX12_burnt_0 : decode cX12_burnt 0 = .ok (.aload_n 0, 1) := by decide +kernel
theorem dX12_burnt_1 : decode cX12_burnt 1 = .ok (.getfield 430, 3) := by decide +kernel
theorem dX12_burnt_4 : decode cX12_burnt 4 = .ok (.ifCond .eq 28, 3) := by decide +kernel
theorem dX12_burnt_7 : decode cX12_burnt 7 = .ok (.iload_n 1, 1) := by decide +kernel
theorem dX12_burnt_8 : decode cX12_burnt 8 = .ok (.i2l, 1) := by decide +kernel
theorem dX12_burnt_9 : decode cX12_burnt 9 = .ok (.lconst 0, 1) := by decide +kernel
theorem dX12_burnt_10 : decode cX12_burnt 10 = .ok (.aload_n 0, 1) := by decide +kernel
theorem dX12_burnt_11 : decode cX12_burnt 11 = .ok (.getfield 617, 3) := by decide +kernel
theorem dX12_burnt_14 : decode cX12_burnt 14 = .ok (.iconst 1, 1) := by decide +kernel
theorem dX12_burnt_15 : decode cX12_burnt 15 = .ok (.isub, 1) := by decide +kernel
theorem dX12_burnt_16 : decode cX12_burnt 16 = .ok (.i2l, 1) := by decide +kernel
theorem dX12_burnt_17 : decode cX12_burnt 17 = .ok (.invokestatic 325, 3) := by decide +kernel
theorem dX12_burnt_20 : decode cX12_burnt 20 = .ok (.ifCond .eq 12, 3) := by decide +kernel
theorem dX12_burnt_23 : decode cX12_burnt 23 = .ok (.aload_n 0, 1) := by decide +kernel
theorem dX12_burnt_24 : decode cX12_burnt 24 = .ok (.getfield 228, 3) := by decide +kernel
theorem dX12_burnt_27 : decode cX12_burnt 27 = .ok (.iload_n 1, 1) := by decide +kernel
theorem dX12_burnt_28 : decode cX12_burnt 28 = .ok (.baload, 1) := by decide +kernel
theorem dX12_burnt_29 : decode cX12_burnt 29 = .ok (.ifCond .ne 5, 3) := by decide +kernel
theorem dX12_burnt_32 : decode cX12_burnt 32 = .ok (.iconst (-1), 1) := by decide +kernel
theorem dX12_burnt_33 : decode cX12_burnt 33 = .ok (.ireturn, 1) := by decide +kernel
theorem dX12_burnt_34 : decode cX12_burnt 34 = .ok (.iload_n 2, 1) := by decide +kernel
theorem dX12_burnt_35 : decode cX12_burnt 35 = .ok (.tableswitch 79 0 5 #[37, 44, 51, 58, 65, 72], 37) := by decide +kernel
theorem dX12_burnt_72 : decode cX12_burnt 72 = .ok (.aload_n 0, 1) := by decide +kernel
theorem dX12_burnt_73 : decode cX12_burnt 73 = .ok (.getfield 231, 3) := by decide +kernel
theorem dX12_burnt_76 : decode cX12_burnt 76 = .ok (.iload_n 1, 1) := by decide +kernel
theorem dX12_burnt_77 : decode cX12_burnt 77 = .ok (.iaload, 1) := by decide +kernel
theorem dX12_burnt_78 : decode cX12_burnt 78 = .ok (.ireturn, 1) := by decide +kernel
theorem dX12_burnt_79 : decode cX12_burnt 79 = .ok (.aload_n 0, 1) := by decide +kernel
theorem dX12_burnt_80 : decode cX12_burnt 80 = .ok (.getfield 234, 3) := by decide +kernel
theorem dX12_burnt_83 : decode cX12_burnt 83 = .ok (.iload_n 1, 1) := by decide +kernel
theorem dX12_burnt_84 : decode cX12_burnt 84 = .ok (.iaload, 1) := by decide +kernel
theorem dX12_burnt_85 : decode cX12_burnt 85 = .ok (.ireturn, 1) := by decide +kernel
theorem dX12_burnt_86 : decode cX12_burnt 86 = .ok (.aload_n 0, 1) := by decide +kernel
theorem dX12_burnt_87 : decode cX12_burnt 87 = .ok (.getfield 237, 3) := by decide +kernel
theorem dX12_burnt_90 : decode cX12_burnt 90 = .ok (.iload_n 1, 1) := by decide +kernel
theorem dX12_burnt_91 : decode cX12_burnt 91 = .ok (.iaload, 1) := by decide +kernel
theorem dX12_burnt_92 : decode cX12_burnt 92 = .ok (.ireturn, 1) := by decide +kernel
theorem dX12_burnt_93 : decode cX12_burnt 93 = .ok (.aload_n 0, 1) := by decide +kernel
theorem dX12_burnt_94 : decode cX12_burnt 94 = .ok (.getfield 240, 3) := by decide +kernel
theorem dX12_burnt_97 : decode cX12_burnt 97 = .ok (.iload_n 1, 1) := by decide +kernel
theorem dX12_burnt_98 : decode cX12_burnt 98 = .ok (.iaload, 1) := by decide +kernel
theorem dX12_burnt_99 : decode cX12_burnt 99 = .ok (.ireturn, 1) := by decide +kernel
theorem dX12_burnt_100 : decode cX12_burnt 100 = .ok (.aload_n 0, 1) := by decide +kernel
theorem dX12_burnt_101 : decode cX12_burnt 101 = .ok (.getfield 243, 3) := by decide +kernel
theorem dX12_burnt_104 : decode cX12_burnt 104 = .ok (.iload_n 1, 1) := by decide +kernel
theorem dX12_burnt_105 : decode cX12_burnt 105 = .ok (.iaload, 1) := by decide +kernel
theorem dX12_burnt_106 : decode cX12_burnt 106 = .ok (.ireturn, 1) := by decide +kernel
theorem dX12_burnt_107 : decode cX12_burnt 107 = .ok (.aload_n 0, 1) := by decide +kernel
theorem dX12_burnt_108 : decode cX12_burnt 108 = .ok (.getfield 246, 3) := by decide +kernel
theorem dX12_burnt_111 : decode cX12_burnt 111 = .ok (.iload_n 1, 1) := by decide +kernel
theorem dX12_burnt_112 : decode cX12_burnt 112 = .ok (.iaload, 1) := by decide +kernel
theorem dX12_burnt_113 : decode cX12_burnt 113 = .ok (.ireturn, 1) := by decide +kernel
theorem dX12_burnt_114 : decode cX12_burnt 114 = .ok (.iconst (-1), 1) := by decide +kernel
theorem dX12_burnt_115 : decode cX12_burnt 115 = .ok (.ireturn, 1) := by decide +kernel
theorem dX12_came_0 : decode cX12_came 0 = .ok (.aload_n 0, 1) := by decide +kernel
theorem dX12_came_1 : decode cX12_came 1 = .ok (.getfield 430, 3) := by decide +kernel
theorem dX12_came_4 : decode cX12_came 4 = .ok (.ifCond .eq 19, 3) := by decide +kernel
theorem dX12_came_7 : decode cX12_came 7 = .ok (.iload_n 1, 1) := by decide +kernel
theorem dX12_came_8 : decode cX12_came 8 = .ok (.i2l, 1) := by decide +kernel
theorem dX12_came_9 : decode cX12_came 9 = .ok (.lconst 0, 1) := by decide +kernel
theorem dX12_came_10 : decode cX12_came 10 = .ok (.aload_n 0, 1) := by decide +kernel
theorem dX12_came_11 : decode cX12_came 11 = .ok (.getfield 620, 3) := by decide +kernel
theorem dX12_came_14 : decode cX12_came 14 = .ok (.iconst 1, 1) := by decide +kernel
theorem dX12_came_15 : decode cX12_came 15 = .ok (.isub, 1) := by decide +kernel
theorem dX12_came_16 : decode cX12_came 16 = .ok (.i2l, 1) := by decide +kernel
theorem dX12_came_17 : decode cX12_came 17 = .ok (.invokestatic 325, 3) := by decide +kernel
theorem dX12_came_20 : decode cX12_came 20 = .ok (.ifCond .ne 5, 3) := by decide +kernel
theorem dX12_came_23 : decode cX12_came 23 = .ok (.iconst (-1), 1) := by decide +kernel
theorem dX12_came_24 : decode cX12_came 24 = .ok (.ireturn, 1) := by decide +kernel
theorem dX12_came_25 : decode cX12_came 25 = .ok (.iload_n 2, 1) := by decide +kernel
theorem dX12_came_26 : decode cX12_came 26 = .ok (.ifCond .ne 12, 3) := by decide +kernel
theorem dX12_came_29 : decode cX12_came 29 = .ok (.aload_n 0, 1) := by decide +kernel
theorem dX12_came_30 : decode cX12_came 30 = .ok (.getfield 249, 3) := by decide +kernel
theorem dX12_came_33 : decode cX12_came 33 = .ok (.iload_n 1, 1) := by decide +kernel
theorem dX12_came_34 : decode cX12_came 34 = .ok (.iaload, 1) := by decide +kernel
theorem dX12_came_35 : decode cX12_came 35 = .ok (.goto 32, 3) := by decide +kernel
theorem dX12_came_38 : decode cX12_came 38 = .ok (.iload_n 2, 1) := by decide +kernel
theorem dX12_came_39 : decode cX12_came 39 = .ok (.iconst 1, 1) := by decide +kernel
theorem dX12_came_40 : decode cX12_came 40 = .ok (.if_icmp .ne 12, 3) := by decide +kernel
theorem dX12_came_43 : decode cX12_came 43 = .ok (.aload_n 0, 1) := by decide +kernel
theorem dX12_came_44 : decode cX12_came 44 = .ok (.getfield 252, 3) := by decide +kernel
theorem dX12_came_47 : decode cX12_came 47 = .ok (.iload_n 1, 1) := by decide +kernel
theorem dX12_came_48 : decode cX12_came 48 = .ok (.iaload, 1) := by decide +kernel
theorem dX12_came_49 : decode cX12_came 49 = .ok (.goto 18, 3) := by decide +kernel
theorem dX12_came_52 : decode cX12_came 52 = .ok (.iload_n 2, 1) := by decide +kernel
theorem dX12_came_53 : decode cX12_came 53 = .ok (.iconst 2, 1) := by decide +kernel
theorem dX12_came_54 : decode cX12_came 54 = .ok (.if_icmp .ne 12, 3) := by decide +kernel
theorem dX12_came_57 : decode cX12_came 57 = .ok (.aload_n 0, 1) := by decide +kernel
theorem dX12_came_58 : decode cX12_came 58 = .ok (.getfield 255, 3) := by decide +kernel
theorem dX12_came_61 : decode cX12_came 61 = .ok (.iload_n 1, 1) := by decide +kernel
theorem dX12_came_62 : decode cX12_came 62 = .ok (.iaload, 1) := by decide +kernel
theorem dX12_came_63 : decode cX12_came 63 = .ok (.goto 4, 3) := by decide +kernel
theorem dX12_came_66 : decode cX12_came 66 = .ok (.iconst (-1), 1) := by decide +kernel
theorem dX12_came_67 : decode cX12_came 67 = .ok (.ireturn, 1) := by decide +kernel
theorem dX12_lost_0 : decode cX12_lost 0 = .ok (.aload_n 0, 1) := by decide +kernel
theorem dX12_lost_1 : decode cX12_lost 1 = .ok (.getfield 430, 3) := by decide +kernel
theorem dX12_lost_4 : decode cX12_lost 4 = .ok (.ifCond .eq 10, 3) := by decide +kernel
theorem dX12_lost_7 : decode cX12_lost 7 = .ok (.aload_n 0, 1) := by decide +kernel
theorem dX12_lost_8 : decode cX12_lost 8 = .ok (.getfield 626, 3) := by decide +kernel
theorem dX12_lost_11 : decode cX12_lost 11 = .ok (.goto 4, 3) := by decide +kernel
theorem dX12_lost_14 : decode cX12_lost 14 = .ok (.iconst (-1), 1) := by decide +kernel
theorem dX12_lost_15 : decode cX12_lost 15 = .ok (.ireturn, 1) := by decide +kernel
theorem dX12_claim_0 : decode cX12_claim 0 = .ok (.aload_n 0, 1) := by decide +kernel
theorem dX12_claim_1 : decode cX12_claim 1 = .ok (.getfield 430, 3) := by decide +kernel
theorem dX12_claim_4 : decode cX12_claim 4 = .ok (.ifCond .eq 24, 3) := by decide +kernel
theorem dX12_claim_7 : decode cX12_claim 7 = .ok (.iload_n 1, 1) := by decide +kernel
theorem dX12_claim_8 : decode cX12_claim 8 = .ok (.i2l, 1) := by decide +kernel
theorem dX12_claim_9 : decode cX12_claim 9 = .ok (.lconst 1, 1) := by decide +kernel
theorem dX12_claim_10 : decode cX12_claim 10 = .ok (.ldc2_w 632, 3) := by decide +kernel
theorem dX12_claim_13 : decode cX12_claim 13 = .ok (.invokestatic 325, 3) := by decide +kernel
theorem dX12_claim_16 : decode cX12_claim 16 = .ok (.ifCond .eq 12, 3) := by decide +kernel
theorem dX12_claim_19 : decode cX12_claim 19 = .ok (.aload_n 0, 1) := by decide +kernel
theorem dX12_claim_20 : decode cX12_claim 20 = .ok (.getfield 258, 3) := by decide +kernel
theorem dX12_claim_23 : decode cX12_claim 23 = .ok (.iload_n 1, 1) := by decide +kernel
theorem dX12_claim_24 : decode cX12_claim 24 = .ok (.baload, 1) := by decide +kernel
theorem dX12_claim_25 : decode cX12_claim 25 = .ok (.ifCond .ne 5, 3) := by decide +kernel
theorem dX12_claim_28 : decode cX12_claim 28 = .ok (.iconst (-1), 1) := by decide +kernel
theorem dX12_claim_29 : decode cX12_claim 29 = .ok (.ireturn, 1) := by decide +kernel
theorem dX12_claim_30 : decode cX12_claim 30 = .ok (.iload_n 2, 1) := by decide +kernel
theorem dX12_claim_31 : decode cX12_claim 31 = .ok (.ifCond .ne 12, 3) := by decide +kernel
theorem dX12_claim_34 : decode cX12_claim 34 = .ok (.aload_n 0, 1) := by decide +kernel
theorem dX12_claim_35 : decode cX12_claim 35 = .ok (.getfield 261, 3) := by decide +kernel
theorem dX12_claim_38 : decode cX12_claim 38 = .ok (.iload_n 1, 1) := by decide +kernel
theorem dX12_claim_39 : decode cX12_claim 39 = .ok (.iaload, 1) := by decide +kernel
theorem dX12_claim_40 : decode cX12_claim 40 = .ok (.goto 18, 3) := by decide +kernel
theorem dX12_claim_43 : decode cX12_claim 43 = .ok (.iload_n 2, 1) := by decide +kernel
theorem dX12_claim_44 : decode cX12_claim 44 = .ok (.iconst 1, 1) := by decide +kernel
theorem dX12_claim_45 : decode cX12_claim 45 = .ok (.if_icmp .ne 12, 3) := by decide +kernel
theorem dX12_claim_48 : decode cX12_claim 48 = .ok (.aload_n 0, 1) := by decide +kernel
theorem dX12_claim_49 : decode cX12_claim 49 = .ok (.getfield 264, 3) := by decide +kernel
theorem dX12_claim_52 : decode cX12_claim 52 = .ok (.iload_n 1, 1) := by decide +kernel
theorem dX12_claim_53 : decode cX12_claim 53 = .ok (.iaload, 1) := by decide +kernel
theorem dX12_claim_54 : decode cX12_claim 54 = .ok (.goto 4, 3) := by decide +kernel
theorem dX12_claim_57 : decode cX12_claim 57 = .ok (.iconst (-1), 1) := by decide +kernel
theorem dX12_claim_58 : decode cX12_claim 58 = .ok (.ireturn, 1) := by decide +kernel
theorem dX12_settled_0 : decode cX12_settled 0 = .ok (.aload_n 0, 1) := by decide +kernel
theorem dX12_settled_1 : decode cX12_settled 1 = .ok (.getfield 430, 3) := by decide +kernel
theorem dX12_settled_4 : decode cX12_settled 4 = .ok (.ifCond .eq 19, 3) := by decide +kernel
theorem dX12_settled_7 : decode cX12_settled 7 = .ok (.iload_n 1, 1) := by decide +kernel
theorem dX12_settled_8 : decode cX12_settled 8 = .ok (.invokestatic 451, 3) := by decide +kernel
theorem dX12_settled_11 : decode cX12_settled 11 = .ok (.ifCond .eq 12, 3) := by decide +kernel
theorem dX12_settled_14 : decode cX12_settled 14 = .ok (.aload_n 0, 1) := by decide +kernel
theorem dX12_settled_15 : decode cX12_settled 15 = .ok (.getfield 267, 3) := by decide +kernel
theorem dX12_settled_18 : decode cX12_settled 18 = .ok (.iload_n 1, 1) := by decide +kernel
theorem dX12_settled_19 : decode cX12_settled 19 = .ok (.iaload, 1) := by decide +kernel
theorem dX12_settled_20 : decode cX12_settled 20 = .ok (.goto 4, 3) := by decide +kernel
theorem dX12_settled_23 : decode cX12_settled 23 = .ok (.iconst (-1), 1) := by decide +kernel
theorem dX12_settled_24 : decode cX12_settled 24 = .ok (.ireturn, 1) := by decide +kernel
theorem dX12_sumOf_0 : decode cX12_sumOf 0 = .ok (.lconst 0, 1) := by decide +kernel
theorem dX12_sumOf_1 : decode cX12_sumOf 1 = .ok (.lstore_n 3, 1) := by decide +kernel
theorem dX12_sumOf_2 : decode cX12_sumOf 2 = .ok (.iconst 0, 1) := by decide +kernel
theorem dX12_sumOf_3 : decode cX12_sumOf 3 = .ok (.istore 5, 2) := by decide +kernel
theorem dX12_sumOf_5 : decode cX12_sumOf 5 = .ok (.iload 5, 2) := by decide +kernel
theorem dX12_sumOf_7 : decode cX12_sumOf 7 = .ok (.bipush 10, 2) := by decide +kernel
theorem dX12_sumOf_9 : decode cX12_sumOf 9 = .ok (.if_icmp .ge 43, 3) := by decide +kernel
theorem dX12_sumOf_12 : decode cX12_sumOf 12 = .ok (.lload_n 3, 1) := by decide +kernel
theorem dX12_sumOf_13 : decode cX12_sumOf 13 = .ok (.iload_n 2, 1) := by decide +kernel
theorem dX12_sumOf_14 : decode cX12_sumOf 14 = .ok (.ifCond .eq 18, 3) := by decide +kernel
theorem dX12_sumOf_17 : decode cX12_sumOf 17 = .ok (.aload_n 0, 1) := by decide +kernel
theorem dX12_sumOf_18 : decode cX12_sumOf 18 = .ok (.getfield 270, 3) := by decide +kernel
theorem dX12_sumOf_21 : decode cX12_sumOf 21 = .ok (.bipush 10, 2) := by decide +kernel
theorem dX12_sumOf_23 : decode cX12_sumOf 23 = .ok (.iload_n 1, 1) := by decide +kernel
theorem dX12_sumOf_24 : decode cX12_sumOf 24 = .ok (.imul, 1) := by decide +kernel
theorem dX12_sumOf_25 : decode cX12_sumOf 25 = .ok (.iload 5, 2) := by decide +kernel
theorem dX12_sumOf_27 : decode cX12_sumOf 27 = .ok (.iadd, 1) := by decide +kernel
theorem dX12_sumOf_28 : decode cX12_sumOf 28 = .ok (.laload, 1) := by decide +kernel
theorem dX12_sumOf_29 : decode cX12_sumOf 29 = .ok (.goto 15, 3) := by decide +kernel
theorem dX12_sumOf_32 : decode cX12_sumOf 32 = .ok (.aload_n 0, 1) := by decide +kernel
theorem dX12_sumOf_33 : decode cX12_sumOf 33 = .ok (.getfield 273, 3) := by decide +kernel
theorem dX12_sumOf_36 : decode cX12_sumOf 36 = .ok (.bipush 10, 2) := by decide +kernel
theorem dX12_sumOf_38 : decode cX12_sumOf 38 = .ok (.iload_n 1, 1) := by decide +kernel
theorem dX12_sumOf_39 : decode cX12_sumOf 39 = .ok (.imul, 1) := by decide +kernel
theorem dX12_sumOf_40 : decode cX12_sumOf 40 = .ok (.iload 5, 2) := by decide +kernel
theorem dX12_sumOf_42 : decode cX12_sumOf 42 = .ok (.iadd, 1) := by decide +kernel
theorem dX12_sumOf_43 : decode cX12_sumOf 43 = .ok (.laload, 1) := by decide +kernel
theorem dX12_sumOf_44 : decode cX12_sumOf 44 = .ok (.ladd, 1) := by decide +kernel
theorem dX12_sumOf_45 : decode cX12_sumOf 45 = .ok (.lstore_n 3, 1) := by decide +kernel
theorem dX12_sumOf_46 : decode cX12_sumOf 46 = .ok (.iinc 5 1, 3) := by decide +kernel
theorem dX12_sumOf_49 : decode cX12_sumOf 49 = .ok (.goto (-44), 3) := by decide +kernel
theorem dX12_sumOf_52 : decode cX12_sumOf 52 = .ok (.lload_n 3, 1) := by decide +kernel
theorem dX12_sumOf_53 : decode cX12_sumOf 53 = .ok (.lreturn, 1) := by decide +kernel
theorem dX12_falls_0 : decode cX12_falls 0 = .ok (.iconst 0, 1) := by decide +kernel
theorem dX12_falls_1 : decode cX12_falls 1 = .ok (.istore_n 1, 1) := by decide +kernel
theorem dX12_falls_2 : decode cX12_falls 2 = .ok (.iload_n 1, 1) := by decide +kernel
theorem dX12_falls_3 : decode cX12_falls 3 = .ok (.bipush 9, 2) := by decide +kernel
theorem dX12_falls_5 : decode cX12_falls 5 = .ok (.if_icmp .ge 77, 3) := by decide +kernel
theorem dX12_falls_8 : decode cX12_falls 8 = .ok (.iconst 0, 1) := by decide +kernel
theorem dX12_falls_9 : decode cX12_falls 9 = .ok (.istore_n 2, 1) := by decide +kernel
theorem dX12_falls_10 : decode cX12_falls 10 = .ok (.iload_n 2, 1) := by decide +kernel
theorem dX12_falls_11 : decode cX12_falls 11 = .ok (.bipush 9, 2) := by decide +kernel
theorem dX12_falls_13 : decode cX12_falls 13 = .ok (.if_icmp .ge 44, 3) := by decide +kernel
theorem dX12_falls_16 : decode cX12_falls 16 = .ok (.aload_n 0, 1) := by decide +kernel
theorem dX12_falls_17 : decode cX12_falls 17 = .ok (.getfield 270, 3) := by decide +kernel
theorem dX12_falls_20 : decode cX12_falls 20 = .ok (.bipush 10, 2) := by decide +kernel
theorem dX12_falls_22 : decode cX12_falls 22 = .ok (.iload_n 1, 1) := by decide +kernel
theorem dX12_falls_23 : decode cX12_falls 23 = .ok (.imul, 1) := by decide +kernel
theorem dX12_falls_24 : decode cX12_falls 24 = .ok (.iload_n 2, 1) := by decide +kernel
theorem dX12_falls_25 : decode cX12_falls 25 = .ok (.iadd, 1) := by decide +kernel
theorem dX12_falls_26 : decode cX12_falls 26 = .ok (.aload_n 0, 1) := by decide +kernel
theorem dX12_falls_27 : decode cX12_falls 27 = .ok (.getfield 267, 3) := by decide +kernel
theorem dX12_falls_30 : decode cX12_falls 30 = .ok (.iload_n 2, 1) := by decide +kernel
theorem dX12_falls_31 : decode cX12_falls 31 = .ok (.iaload, 1) := by decide +kernel
theorem dX12_falls_32 : decode cX12_falls 32 = .ok (.i2l, 1) := by decide +kernel
theorem dX12_falls_33 : decode cX12_falls 33 = .ok (.aload_n 0, 1) := by decide +kernel
theorem dX12_falls_34 : decode cX12_falls 34 = .ok (.getfield 155, 3) := by decide +kernel
theorem dX12_falls_37 : decode cX12_falls 37 = .ok (.bipush 9, 2) := by decide +kernel
theorem dX12_falls_39 : decode cX12_falls 39 = .ok (.iload_n 1, 1) := by decide +kernel
theorem dX12_falls_40 : decode cX12_falls 40 = .ok (.imul, 1) := by decide +kernel
theorem dX12_falls_41 : decode cX12_falls 41 = .ok (.iload_n 2, 1) := by decide +kernel
theorem dX12_falls_42 : decode cX12_falls 42 = .ok (.iadd, 1) := by decide +kernel
theorem dX12_falls_43 : decode cX12_falls 43 = .ok (.iaload, 1) := by decide +kernel
theorem dX12_falls_44 : decode cX12_falls 44 = .ok (.i2l, 1) := by decide +kernel
theorem dX12_falls_45 : decode cX12_falls 45 = .ok (.lmul, 1) := by decide +kernel
theorem dX12_falls_46 : decode cX12_falls 46 = .ok (.ldc2_w 460, 3) := by decide +kernel
theorem dX12_falls_49 : decode cX12_falls 49 = .ok (.ldiv, 1) := by decide +kernel
theorem dX12_falls_50 : decode cX12_falls 50 = .ok (.lastore, 1) := by decide +kernel
theorem dX12_falls_51 : decode cX12_falls 51 = .ok (.iinc 2 1, 3) := by decide +kernel
theorem dX12_falls_54 : decode cX12_falls 54 = .ok (.goto (-44), 3) := by decide +kernel
theorem dX12_falls_57 : decode cX12_falls 57 = .ok (.aload_n 0, 1) := by decide +kernel
theorem dX12_falls_58 : decode cX12_falls 58 = .ok (.getfield 270, 3) := by decide +kernel
theorem dX12_falls_61 : decode cX12_falls 61 = .ok (.bipush 10, 2) := by decide +kernel
theorem dX12_falls_63 : decode cX12_falls 63 = .ok (.iload_n 1, 1) := by decide +kernel
theorem dX12_falls_64 : decode cX12_falls 64 = .ok (.imul, 1) := by decide +kernel
theorem dX12_falls_65 : decode cX12_falls 65 = .ok (.bipush 9, 2) := by decide +kernel
theorem dX12_falls_67 : decode cX12_falls 67 = .ok (.iadd, 1) := by decide +kernel
theorem dX12_falls_68 : decode cX12_falls 68 = .ok (.aload_n 0, 1) := by decide +kernel
theorem dX12_falls_69 : decode cX12_falls 69 = .ok (.getfield 267, 3) := by decide +kernel
theorem dX12_falls_72 : decode cX12_falls 72 = .ok (.iload_n 1, 1) := by decide +kernel
theorem dX12_falls_73 : decode cX12_falls 73 = .ok (.iaload, 1) := by decide +kernel
theorem dX12_falls_74 : decode cX12_falls 74 = .ok (.i2l, 1) := by decide +kernel
theorem dX12_falls_75 : decode cX12_falls 75 = .ok (.lastore, 1) := by decide +kernel
theorem dX12_falls_76 : decode cX12_falls 76 = .ok (.iinc 1 1, 3) := by decide +kernel
theorem dX12_falls_79 : decode cX12_falls 79 = .ok (.goto (-77), 3) := by decide +kernel
theorem dX12_falls_82 : decode cX12_falls 82 = .ok (.iconst 0, 1) := by decide +kernel
theorem dX12_falls_83 : decode cX12_falls 83 = .ok (.istore_n 1, 1) := by decide +kernel
theorem dX12_falls_84 : decode cX12_falls 84 = .ok (.iload_n 1, 1) := by decide +kernel
theorem dX12_falls_85 : decode cX12_falls 85 = .ok (.bipush 90, 2) := by decide +kernel
theorem dX12_falls_87 : decode cX12_falls 87 = .ok (.if_icmp .ge 21, 3) := by decide +kernel
theorem dX12_falls_90 : decode cX12_falls 90 = .ok (.aload_n 0, 1) := by decide +kernel
theorem dX12_falls_91 : decode cX12_falls 91 = .ok (.getfield 273, 3) := by decide +kernel
theorem dX12_falls_94 : decode cX12_falls 94 = .ok (.iload_n 1, 1) := by decide +kernel
theorem dX12_falls_95 : decode cX12_falls 95 = .ok (.aload_n 0, 1) := by decide +kernel
theorem dX12_falls_96 : decode cX12_falls 96 = .ok (.getfield 270, 3) := by decide +kernel
theorem dX12_falls_99 : decode cX12_falls 99 = .ok (.iload_n 1, 1) := by decide +kernel
theorem dX12_falls_100 : decode cX12_falls 100 = .ok (.laload, 1) := by decide +kernel
theorem dX12_falls_101 : decode cX12_falls 101 = .ok (.lastore, 1) := by decide +kernel
theorem dX12_falls_102 : decode cX12_falls 102 = .ok (.iinc 1 1, 3) := by decide +kernel
theorem dX12_falls_105 : decode cX12_falls 105 = .ok (.goto (-21), 3) := by decide +kernel
theorem dX12_falls_108 : decode cX12_falls 108 = .ok (.aload_n 0, 1) := by decide +kernel
theorem dX12_falls_109 : decode cX12_falls 109 = .ok (.iconst 0, 1) := by decide +kernel
theorem dX12_falls_110 : decode cX12_falls 110 = .ok (.putfield 634, 3) := by decide +kernel
theorem dX12_falls_113 : decode cX12_falls 113 = .ok (.iconst 1, 1) := by decide +kernel
theorem dX12_falls_114 : decode cX12_falls 114 = .ok (.istore_n 1, 1) := by decide +kernel
theorem dX12_falls_115 : decode cX12_falls 115 = .ok (.iload_n 1, 1) := by decide +kernel
theorem dX12_falls_116 : decode cX12_falls 116 = .ok (.ifCond .eq 30, 3) := by decide +kernel
theorem dX12_falls_119 : decode cX12_falls 119 = .ok (.aload_n 0, 1) := by decide +kernel
theorem dX12_falls_120 : decode cX12_falls 120 = .ok (.getfield 634, 3) := by decide +kernel
theorem dX12_falls_123 : decode cX12_falls 123 = .ok (.bipush 100, 2) := by decide +kernel
theorem dX12_falls_125 : decode cX12_falls 125 = .ok (.if_icmp .ge 21, 3) := by decide +kernel
theorem dX12_falls_128 : decode cX12_falls 128 = .ok (.aload_n 0, 1) := by decide +kernel
theorem dX12_falls_129 : decode cX12_falls 129 = .ok (.invokevirtual 637, 3) := by decide +kernel
theorem dX12_falls_132 : decode cX12_falls 132 = .ok (.istore_n 1, 1) := by decide +kernel
theorem dX12_falls_133 : decode cX12_falls 133 = .ok (.aload_n 0, 1) := by decide +kernel
theorem dX12_falls_134 : decode cX12_falls 134 = .ok (.dup, 1) := by decide +kernel
theorem dX12_falls_135 : decode cX12_falls 135 = .ok (.getfield 634, 3) := by decide +kernel
theorem dX12_falls_138 : decode cX12_falls 138 = .ok (.iconst 1, 1) := by decide +kernel
theorem dX12_falls_139 : decode cX12_falls 139 = .ok (.iadd, 1) := by decide +kernel
theorem dX12_falls_140 : decode cX12_falls 140 = .ok (.putfield 634, 3) := by decide +kernel
theorem dX12_falls_143 : decode cX12_falls 143 = .ok (.goto (-28), 3) := by decide +kernel
theorem dX12_falls_146 : decode cX12_falls 146 = .ok (.return_, 1) := by decide +kernel
theorem dX12_round_0 : decode cX12_round 0 = .ok (.iconst 0, 1) := by decide +kernel
theorem dX12_round_1 : decode cX12_round 1 = .ok (.istore_n 1, 1) := by decide +kernel
theorem dX12_round_2 : decode cX12_round 2 = .ok (.iload_n 1, 1) := by decide +kernel
theorem dX12_round_3 : decode cX12_round 3 = .ok (.bipush 9, 2) := by decide +kernel
theorem dX12_round_5 : decode cX12_round 5 = .ok (.if_icmp .ge 123, 3) := by decide +kernel
theorem dX12_round_8 : decode cX12_round 8 = .ok (.aload_n 0, 1) := by decide +kernel
theorem dX12_round_9 : decode cX12_round 9 = .ok (.getfield 140, 3) := by decide +kernel
theorem dX12_round_12 : decode cX12_round 12 = .ok (.iload_n 1, 1) := by decide +kernel
theorem dX12_round_13 : decode cX12_round 13 = .ok (.iaload, 1) := by decide +kernel
theorem dX12_round_14 : decode cX12_round 14 = .ok (.i2l, 1) := by decide +kernel
theorem dX12_round_15 : decode cX12_round 15 = .ok (.lstore_n 2, 1) := by decide +kernel
theorem dX12_round_16 : decode cX12_round 16 = .ok (.iconst 0, 1) := by decide +kernel
theorem dX12_round_17 : decode cX12_round 17 = .ok (.istore 4, 2) := by decide +kernel
theorem dX12_round_19 : decode cX12_round 19 = .ok (.iload 4, 2) := by decide +kernel
theorem dX12_round_21 : decode cX12_round 21 = .ok (.bipush 9, 2) := by decide +kernel
theorem dX12_round_23 : decode cX12_round 23 = .ok (.if_icmp .ge 24, 3) := by decide +kernel
theorem dX12_round_26 : decode cX12_round 26 = .ok (.lload_n 2, 1) := by decide +kernel
theorem dX12_round_27 : decode cX12_round 27 = .ok (.aload_n 0, 1) := by decide +kernel
theorem dX12_round_28 : decode cX12_round 28 = .ok (.getfield 273, 3) := by decide +kernel
theorem dX12_round_31 : decode cX12_round 31 = .ok (.bipush 10, 2) := by decide +kernel
theorem dX12_round_33 : decode cX12_round 33 = .ok (.iload 4, 2) := by decide +kernel
theorem dX12_round_35 : decode cX12_round 35 = .ok (.imul, 1) := by decide +kernel
theorem dX12_round_36 : decode cX12_round 36 = .ok (.iload_n 1, 1) := by decide +kernel
theorem dX12_round_37 : decode cX12_round 37 = .ok (.iadd, 1) := by decide +kernel
theorem dX12_round_38 : decode cX12_round 38 = .ok (.laload, 1) := by decide +kernel
theorem dX12_round_39 : decode cX12_round 39 = .ok (.ladd, 1) := by decide +kernel
theorem dX12_round_40 : decode cX12_round 40 = .ok (.lstore_n 2, 1) := by decide +kernel
theorem dX12_round_41 : decode cX12_round 41 = .ok (.iinc 4 1, 3) := by decide +kernel
theorem dX12_round_44 : decode cX12_round 44 = .ok (.goto (-25), 3) := by decide +kernel
theorem dX12_round_47 : decode cX12_round 47 = .ok (.aload_n 0, 1) := by decide +kernel
theorem dX12_round_48 : decode cX12_round 48 = .ok (.iload_n 1, 1) := by decide +kernel
theorem dX12_round_49 : decode cX12_round 49 = .ok (.iconst 1, 1) := by decide +kernel
theorem dX12_round_50 : decode cX12_round 50 = .ok (.invokevirtual 640, 3) := by decide +kernel
theorem dX12_round_53 : decode cX12_round 53 = .ok (.lstore 4, 2) := by decide +kernel
theorem dX12_round_55 : decode cX12_round 55 = .ok (.iconst 0, 1) := by decide +kernel
theorem dX12_round_56 : decode cX12_round 56 = .ok (.istore 6, 2) := by decide +kernel
theorem dX12_round_58 : decode cX12_round 58 = .ok (.iload 6, 2) := by decide +kernel
theorem dX12_round_60 : decode cX12_round 60 = .ok (.bipush 10, 2) := by decide +kernel
theorem dX12_round_62 : decode cX12_round 62 = .ok (.if_icmp .ge 60, 3) := by decide +kernel
theorem dX12_round_65 : decode cX12_round 65 = .ok (.aload_n 0, 1) := by decide +kernel
theorem dX12_round_66 : decode cX12_round 66 = .ok (.getfield 276, 3) := by decide +kernel
theorem dX12_round_69 : decode cX12_round 69 = .ok (.bipush 10, 2) := by decide +kernel
theorem dX12_round_71 : decode cX12_round 71 = .ok (.iload_n 1, 1) := by decide +kernel
theorem dX12_round_72 : decode cX12_round 72 = .ok (.imul, 1) := by decide +kernel
theorem dX12_round_73 : decode cX12_round 73 = .ok (.iload 6, 2) := by decide +kernel
theorem dX12_round_75 : decode cX12_round 75 = .ok (.iadd, 1) := by decide +kernel
theorem dX12_round_76 : decode cX12_round 76 = .ok (.lload_n 2, 1) := by decide +kernel
theorem dX12_round_77 : decode cX12_round 77 = .ok (.lload 4, 2) := by decide +kernel
theorem dX12_round_79 : decode cX12_round 79 = .ok (.lcmp, 1) := by decide +kernel
theorem dX12_round_80 : decode cX12_round 80 = .ok (.ifCond .ge 23, 3) := by decide +kernel
theorem dX12_round_83 : decode cX12_round 83 = .ok (.aload_n 0, 1) := by decide +kernel
theorem dX12_round_84 : decode cX12_round 84 = .ok (.getfield 270, 3) := by decide +kernel
theorem dX12_round_87 : decode cX12_round 87 = .ok (.bipush 10, 2) := by decide +kernel
theorem dX12_round_89 : decode cX12_round 89 = .ok (.iload_n 1, 1) := by decide +kernel
theorem dX12_round_90 : decode cX12_round 90 = .ok (.imul, 1) := by decide +kernel
theorem dX12_round_91 : decode cX12_round 91 = .ok (.iload 6, 2) := by decide +kernel
theorem dX12_round_93 : decode cX12_round 93 = .ok (.iadd, 1) := by decide +kernel
theorem dX12_round_94 : decode cX12_round 94 = .ok (.laload, 1) := by decide +kernel
theorem dX12_round_95 : decode cX12_round 95 = .ok (.lload_n 2, 1) := by decide +kernel
theorem dX12_round_96 : decode cX12_round 96 = .ok (.lmul, 1) := by decide +kernel
theorem dX12_round_97 : decode cX12_round 97 = .ok (.lload 4, 2) := by decide +kernel
theorem dX12_round_99 : decode cX12_round 99 = .ok (.ldiv, 1) := by decide +kernel
theorem dX12_round_100 : decode cX12_round 100 = .ok (.goto 15, 3) := by decide +kernel
theorem dX12_round_103 : decode cX12_round 103 = .ok (.aload_n 0, 1) := by decide +kernel
theorem dX12_round_104 : decode cX12_round 104 = .ok (.getfield 270, 3) := by decide +kernel
theorem dX12_round_107 : decode cX12_round 107 = .ok (.bipush 10, 2) := by decide +kernel
theorem dX12_round_109 : decode cX12_round 109 = .ok (.iload_n 1, 1) := by decide +kernel
theorem dX12_round_110 : decode cX12_round 110 = .ok (.imul, 1) := by decide +kernel
theorem dX12_round_111 : decode cX12_round 111 = .ok (.iload 6, 2) := by decide +kernel
theorem dX12_round_113 : decode cX12_round 113 = .ok (.iadd, 1) := by decide +kernel
theorem dX12_round_114 : decode cX12_round 114 = .ok (.laload, 1) := by decide +kernel
theorem dX12_round_115 : decode cX12_round 115 = .ok (.lastore, 1) := by decide +kernel
theorem dX12_round_116 : decode cX12_round 116 = .ok (.iinc 6 1, 3) := by decide +kernel
theorem dX12_round_119 : decode cX12_round 119 = .ok (.goto (-61), 3) := by decide +kernel
theorem dX12_round_122 : decode cX12_round 122 = .ok (.iinc 1 1, 3) := by decide +kernel
theorem dX12_round_125 : decode cX12_round 125 = .ok (.goto (-123), 3) := by decide +kernel
theorem dX12_round_128 : decode cX12_round 128 = .ok (.iconst 0, 1) := by decide +kernel
theorem dX12_round_129 : decode cX12_round 129 = .ok (.istore_n 1, 1) := by decide +kernel
theorem dX12_round_130 : decode cX12_round 130 = .ok (.iconst 0, 1) := by decide +kernel
theorem dX12_round_131 : decode cX12_round 131 = .ok (.istore_n 2, 1) := by decide +kernel
theorem dX12_round_132 : decode cX12_round 132 = .ok (.iload_n 2, 1) := by decide +kernel
theorem dX12_round_133 : decode cX12_round 133 = .ok (.bipush 90, 2) := by decide +kernel
theorem dX12_round_135 : decode cX12_round 135 = .ok (.if_icmp .ge 47, 3) := by decide +kernel
theorem dX12_round_138 : decode cX12_round 138 = .ok (.iload_n 1, 1) := by decide +kernel
theorem dX12_round_139 : decode cX12_round 139 = .ok (.ifCond .ne 19, 3) := by decide +kernel
theorem dX12_round_142 : decode cX12_round 142 = .ok (.aload_n 0, 1) := by decide +kernel
theorem dX12_round_143 : decode cX12_round 143 = .ok (.getfield 273, 3) := by decide +kernel
theorem dX12_round_146 : decode cX12_round 146 = .ok (.iload_n 2, 1) := by decide +kernel
theorem dX12_round_147 : decode cX12_round 147 = .ok (.laload, 1) := by decide +kernel
theorem dX12_round_148 : decode cX12_round 148 = .ok (.aload_n 0, 1) := by decide +kernel
theorem dX12_round_149 : decode cX12_round 149 = .ok (.getfield 276, 3) := by decide +kernel
theorem dX12_round_152 : decode cX12_round 152 = .ok (.iload_n 2, 1) := by decide +kernel
theorem dX12_round_153 : decode cX12_round 153 = .ok (.laload, 1) := by decide +kernel
theorem dX12_round_154 : decode cX12_round 154 = .ok (.lcmp, 1) := by decide +kernel
theorem dX12_round_155 : decode cX12_round 155 = .ok (.ifCond .eq 7, 3) := by decide +kernel
theorem dX12_round_158 : decode cX12_round 158 = .ok (.iconst 1, 1) := by decide +kernel
theorem dX12_round_159 : decode cX12_round 159 = .ok (.goto 4, 3) := by decide +kernel
theorem dX12_round_162 : decode cX12_round 162 = .ok (.iconst 0, 1) := by decide +kernel
theorem dX12_round_163 : decode cX12_round 163 = .ok (.istore_n 1, 1) := by decide +kernel
theorem dX12_round_164 : decode cX12_round 164 = .ok (.aload_n 0, 1) := by decide +kernel
theorem dX12_round_165 : decode cX12_round 165 = .ok (.getfield 273, 3) := by decide +kernel
theorem dX12_round_168 : decode cX12_round 168 = .ok (.iload_n 2, 1) := by decide +kernel
theorem dX12_round_169 : decode cX12_round 169 = .ok (.aload_n 0, 1) := by decide +kernel
theorem dX12_round_170 : decode cX12_round 170 = .ok (.getfield 276, 3) := by decide +kernel
theorem dX12_round_173 : decode cX12_round 173 = .ok (.iload_n 2, 1) := by decide +kernel
theorem dX12_round_174 : decode cX12_round 174 = .ok (.laload, 1) := by decide +kernel
theorem dX12_round_175 : decode cX12_round 175 = .ok (.lastore, 1) := by decide +kernel
theorem dX12_round_176 : decode cX12_round 176 = .ok (.iinc 2 1, 3) := by decide +kernel
theorem dX12_round_179 : decode cX12_round 179 = .ok (.goto (-47), 3) := by decide +kernel
theorem dX12_round_182 : decode cX12_round 182 = .ok (.iload_n 1, 1) := by decide +kernel
theorem dX12_round_183 : decode cX12_round 183 = .ok (.ireturn, 1) := by decide +kernel
theorem dX12_fall_0 : decode cX12_fall 0 = .ok (.aload_n 0, 1) := by decide +kernel
theorem dX12_fall_1 : decode cX12_fall 1 = .ok (.getfield 430, 3) := by decide +kernel
theorem dX12_fall_4 : decode cX12_fall 4 = .ok (.ifCond .eq 22, 3) := by decide +kernel
theorem dX12_fall_7 : decode cX12_fall 7 = .ok (.iload_n 1, 1) := by decide +kernel
theorem dX12_fall_8 : decode cX12_fall 8 = .ok (.invokestatic 451, 3) := by decide +kernel
theorem dX12_fall_11 : decode cX12_fall 11 = .ok (.ifCond .eq 15, 3) := by decide +kernel
theorem dX12_fall_14 : decode cX12_fall 14 = .ok (.iload_n 2, 1) := by decide +kernel
theorem dX12_fall_15 : decode cX12_fall 15 = .ok (.i2l, 1) := by decide +kernel
theorem dX12_fall_16 : decode cX12_fall 16 = .ok (.lconst 0, 1) := by decide +kernel
theorem dX12_fall_17 : decode cX12_fall 17 = .ok (.ldc2_w 437, 3) := by decide +kernel
theorem dX12_fall_20 : decode cX12_fall 20 = .ok (.invokestatic 325, 3) := by decide +kernel
theorem dX12_fall_23 : decode cX12_fall 23 = .ok (.ifCond .ne 7, 3) := by decide +kernel
theorem dX12_fall_26 : decode cX12_fall 26 = .ok (.ldc2_w 487, 3) := by decide +kernel
theorem dX12_fall_29 : decode cX12_fall 29 = .ok (.lreturn, 1) := by decide +kernel
theorem dX12_fall_30 : decode cX12_fall 30 = .ok (.aload_n 0, 1) := by decide +kernel
theorem dX12_fall_31 : decode cX12_fall 31 = .ok (.invokevirtual 644, 3) := by decide +kernel
theorem dX12_fall_34 : decode cX12_fall 34 = .ok (.iload_n 2, 1) := by decide +kernel
theorem dX12_fall_35 : decode cX12_fall 35 = .ok (.tableswitch 61 0 2 #[25, 32, 39], 25) := by decide +kernel
theorem dX12_fall_60 : decode cX12_fall 60 = .ok (.aload_n 0, 1) := by decide +kernel
theorem dX12_fall_61 : decode cX12_fall 61 = .ok (.iload_n 1, 1) := by decide +kernel
theorem dX12_fall_62 : decode cX12_fall 62 = .ok (.iconst 1, 1) := by decide +kernel
theorem dX12_fall_63 : decode cX12_fall 63 = .ok (.invokevirtual 640, 3) := by decide +kernel
theorem dX12_fall_66 : decode cX12_fall 66 = .ok (.lreturn, 1) := by decide +kernel
theorem dX12_fall_67 : decode cX12_fall 67 = .ok (.aload_n 0, 1) := by decide +kernel
theorem dX12_fall_68 : decode cX12_fall 68 = .ok (.iload_n 1, 1) := by decide +kernel
theorem dX12_fall_69 : decode cX12_fall 69 = .ok (.iconst 0, 1) := by decide +kernel
theorem dX12_fall_70 : decode cX12_fall 70 = .ok (.invokevirtual 640, 3) := by decide +kernel
theorem dX12_fall_73 : decode cX12_fall 73 = .ok (.lreturn, 1) := by decide +kernel
theorem dX12_fall_74 : decode cX12_fall 74 = .ok (.aload_n 0, 1) := by decide +kernel
theorem dX12_fall_75 : decode cX12_fall 75 = .ok (.iload_n 1, 1) := by decide +kernel
theorem dX12_fall_76 : decode cX12_fall 76 = .ok (.iconst 0, 1) := by decide +kernel
theorem dX12_fall_77 : decode cX12_fall 77 = .ok (.invokevirtual 640, 3) := by decide +kernel
theorem dX12_fall_80 : decode cX12_fall 80 = .ok (.aload_n 0, 1) := by decide +kernel
theorem dX12_fall_81 : decode cX12_fall 81 = .ok (.iload_n 1, 1) := by decide +kernel
theorem dX12_fall_82 : decode cX12_fall 82 = .ok (.iconst 1, 1) := by decide +kernel
theorem dX12_fall_83 : decode cX12_fall 83 = .ok (.invokevirtual 640, 3) := by decide +kernel
theorem dX12_fall_86 : decode cX12_fall 86 = .ok (.lcmp, 1) := by decide +kernel
theorem dX12_fall_87 : decode cX12_fall 87 = .ok (.ifCond .ge 7, 3) := by decide +kernel
theorem dX12_fall_90 : decode cX12_fall 90 = .ok (.lconst 1, 1) := by decide +kernel
theorem dX12_fall_91 : decode cX12_fall 91 = .ok (.goto 4, 3) := by decide +kernel
theorem dX12_fall_94 : decode cX12_fall 94 = .ok (.lconst 0, 1) := by decide +kernel
theorem dX12_fall_95 : decode cX12_fall 95 = .ok (.lreturn, 1) := by decide +kernel
theorem dX12_fall_96 : decode cX12_fall 96 = .ok (.aload_n 0, 1) := by decide +kernel
theorem dX12_fall_97 : decode cX12_fall 97 = .ok (.getfield 273, 3) := by decide +kernel
theorem dX12_fall_100 : decode cX12_fall 100 = .ok (.bipush 10, 2) := by decide +kernel
theorem dX12_fall_102 : decode cX12_fall 102 = .ok (.iload_n 1, 1) := by decide +kernel
theorem dX12_fall_103 : decode cX12_fall 103 = .ok (.imul, 1) := by decide +kernel
theorem dX12_fall_104 : decode cX12_fall 104 = .ok (.bipush 9, 2) := by decide +kernel
theorem dX12_fall_106 : decode cX12_fall 106 = .ok (.iadd, 1) := by decide +kernel
theorem dX12_fall_107 : decode cX12_fall 107 = .ok (.laload, 1) := by decide +kernel
theorem dX12_fall_108 : decode cX12_fall 108 = .ok (.lreturn, 1) := by decide +kernel
theorem dX12_rounds_0 : decode cX12_rounds 0 = .ok (.aload_n 0, 1) := by decide +kernel
theorem dX12_rounds_1 : decode cX12_rounds 1 = .ok (.getfield 430, 3) := by decide +kernel
theorem dX12_rounds_4 : decode cX12_rounds 4 = .ok (.ifCond .ne 5, 3) := by decide +kernel
theorem dX12_rounds_7 : decode cX12_rounds 7 = .ok (.iconst (-1), 1) := by decide +kernel
theorem dX12_rounds_8 : decode cX12_rounds 8 = .ok (.ireturn, 1) := by decide +kernel
theorem dX12_rounds_9 : decode cX12_rounds 9 = .ok (.aload_n 0, 1) := by decide +kernel
theorem dX12_rounds_10 : decode cX12_rounds 10 = .ok (.invokevirtual 644, 3) := by decide +kernel
theorem dX12_rounds_13 : decode cX12_rounds 13 = .ok (.aload_n 0, 1) := by decide +kernel
theorem dX12_rounds_14 : decode cX12_rounds 14 = .ok (.getfield 634, 3) := by decide +kernel
theorem dX12_rounds_17 : decode cX12_rounds 17 = .ok (.ireturn, 1) := by decide +kernel
theorem dX12_worst_0 : decode cX12_worst 0 = .ok (.iload_n 1, 1) := by decide +kernel
theorem dX12_worst_1 : decode cX12_worst 1 = .ok (.invokestatic 451, 3) := by decide +kernel
theorem dX12_worst_4 : decode cX12_worst 4 = .ok (.ifCond .eq 15, 3) := by decide +kernel
theorem dX12_worst_7 : decode cX12_worst 7 = .ok (.iload_n 2, 1) := by decide +kernel
theorem dX12_worst_8 : decode cX12_worst 8 = .ok (.i2l, 1) := by decide +kernel
theorem dX12_worst_9 : decode cX12_worst 9 = .ok (.lconst 1, 1) := by decide +kernel
theorem dX12_worst_10 : decode cX12_worst 10 = .ok (.ldc2_w 647, 3) := by decide +kernel
theorem dX12_worst_13 : decode cX12_worst 13 = .ok (.invokestatic 325, 3) := by decide +kernel
theorem dX12_worst_16 : decode cX12_worst 16 = .ok (.ifCond .ne 5, 3) := by decide +kernel
theorem dX12_worst_19 : decode cX12_worst 19 = .ok (.iconst (-1), 1) := by decide +kernel
theorem dX12_worst_20 : decode cX12_worst 20 = .ok (.ireturn, 1) := by decide +kernel
theorem dX12_worst_21 : decode cX12_worst 21 = .ok (.iconst 0, 1) := by decide +kernel
theorem dX12_worst_22 : decode cX12_worst 22 = .ok (.istore_n 3, 1) := by decide +kernel
theorem dX12_worst_23 : decode cX12_worst 23 = .ok (.iconst (-1), 1) := by decide +kernel
theorem dX12_worst_24 : decode cX12_worst 24 = .ok (.istore 4, 2) := by decide +kernel
theorem dX12_worst_26 : decode cX12_worst 26 = .ok (.iconst 0, 1) := by decide +kernel
theorem dX12_worst_27 : decode cX12_worst 27 = .ok (.istore 5, 2) := by decide +kernel
theorem dX12_worst_29 : decode cX12_worst 29 = .ok (.iload 5, 2) := by decide +kernel
theorem dX12_worst_31 : decode cX12_worst 31 = .ok (.aload_n 0, 1) := by decide +kernel
theorem dX12_worst_32 : decode cX12_worst 32 = .ok (.invokevirtual 409, 3) := by decide +kernel
theorem dX12_worst_35 : decode cX12_worst 35 = .ok (.if_icmp .ge 56, 3) := by decide +kernel
theorem dX12_worst_38 : decode cX12_worst 38 = .ok (.aload_n 0, 1) := by decide +kernel
theorem dX12_worst_39 : decode cX12_worst 39 = .ok (.getfield 121, 3) := by decide +kernel
theorem dX12_worst_42 : decode cX12_worst 42 = .ok (.iload 5, 2) := by decide +kernel
theorem dX12_worst_44 : decode cX12_worst 44 = .ok (.baload, 1) := by decide +kernel
theorem dX12_worst_45 : decode cX12_worst 45 = .ok (.ifCond .ne 6, 3) := by decide +kernel
theorem dX12_worst_48 : decode cX12_worst 48 = .ok (.goto 37, 3) := by decide +kernel
theorem dX12_worst_51 : decode cX12_worst 51 = .ok (.aload_n 0, 1) := by decide +kernel
theorem dX12_worst_52 : decode cX12_worst 52 = .ok (.iload 5, 2) := by decide +kernel
theorem dX12_worst_54 : decode cX12_worst 54 = .ok (.iload_n 2, 1) := by decide +kernel
theorem dX12_worst_55 : decode cX12_worst 55 = .ok (.invokevirtual 611, 3) := by decide +kernel
theorem dX12_worst_58 : decode cX12_worst 58 = .ok (.aload_n 0, 1) := by decide +kernel
theorem dX12_worst_59 : decode cX12_worst 59 = .ok (.invokevirtual 614, 3) := by decide +kernel
theorem dX12_worst_62 : decode cX12_worst 62 = .ok (.aload_n 0, 1) := by decide +kernel
theorem dX12_worst_63 : decode cX12_worst 63 = .ok (.iload_n 1, 1) := by decide +kernel
theorem dX12_worst_64 : decode cX12_worst 64 = .ok (.invokevirtual 629, 3) := by decide +kernel
theorem dX12_worst_67 : decode cX12_worst 67 = .ok (.istore 6, 2) := by decide +kernel
theorem dX12_worst_69 : decode cX12_worst 69 = .ok (.iload 6, 2) := by decide +kernel
theorem dX12_worst_71 : decode cX12_worst 71 = .ok (.iload_n 3, 1) := by decide +kernel
theorem dX12_worst_72 : decode cX12_worst 72 = .ok (.if_icmp .gt 6, 3) := by decide +kernel
theorem dX12_worst_75 : decode cX12_worst 75 = .ok (.goto 10, 3) := by decide +kernel
theorem dX12_worst_78 : decode cX12_worst 78 = .ok (.iload 6, 2) := by decide +kernel
theorem dX12_worst_80 : decode cX12_worst 80 = .ok (.istore_n 3, 1) := by decide +kernel
theorem dX12_worst_81 : decode cX12_worst 81 = .ok (.iload 5, 2) := by decide +kernel
theorem dX12_worst_83 : decode cX12_worst 83 = .ok (.istore 4, 2) := by decide +kernel
theorem dX12_worst_85 : decode cX12_worst 85 = .ok (.iinc 5 1, 3) := by decide +kernel
theorem dX12_worst_88 : decode cX12_worst 88 = .ok (.goto (-59), 3) := by decide +kernel
theorem dX12_worst_91 : decode cX12_worst 91 = .ok (.iload 4, 2) := by decide +kernel
theorem dX12_worst_93 : decode cX12_worst 93 = .ok (.ireturn, 1) := by decide +kernel
theorem dX12_place_0 : decode cX12_place 0 = .ok (.aload_n 0, 1) := by decide +kernel
theorem dX12_place_1 : decode cX12_place 1 = .ok (.iload_n 1, 1) := by decide +kernel
theorem dX12_place_2 : decode cX12_place 2 = .ok (.invokevirtual 412, 3) := by decide +kernel
theorem dX12_place_5 : decode cX12_place 5 = .ok (.ifCond .eq 12, 3) := by decide +kernel
theorem dX12_place_8 : decode cX12_place 8 = .ok (.aload_n 0, 1) := by decide +kernel
theorem dX12_place_9 : decode cX12_place 9 = .ok (.getfield 427, 3) := by decide +kernel
theorem dX12_place_12 : decode cX12_place 12 = .ok (.bipush 8, 2) := by decide +kernel
theorem dX12_place_14 : decode cX12_place 14 = .ok (.if_icmp .ne 5, 3) := by decide +kernel
theorem dX12_place_17 : decode cX12_place 17 = .ok (.iconst (-1), 1) := by decide +kernel
theorem dX12_place_18 : decode cX12_place 18 = .ok (.ireturn, 1) := by decide +kernel
theorem dX12_place_19 : decode cX12_place 19 = .ok (.iconst 0, 1) := by decide +kernel
theorem dX12_place_20 : decode cX12_place 20 = .ok (.istore_n 2, 1) := by decide +kernel
theorem dX12_place_21 : decode cX12_place 21 = .ok (.iload_n 2, 1) := by decide +kernel
theorem dX12_place_22 : decode cX12_place 22 = .ok (.aload_n 0, 1) := by decide +kernel
theorem dX12_place_23 : decode cX12_place 23 = .ok (.getfield 427, 3) := by decide +kernel
theorem dX12_place_26 : decode cX12_place 26 = .ok (.if_icmp .ge 21, 3) := by decide +kernel
theorem dX12_place_29 : decode cX12_place 29 = .ok (.aload_n 0, 1) := by decide +kernel
theorem dX12_place_30 : decode cX12_place 30 = .ok (.getfield 158, 3) := by decide +kernel
theorem dX12_place_33 : decode cX12_place 33 = .ok (.iload_n 2, 1) := by decide +kernel
theorem dX12_place_34 : decode cX12_place 34 = .ok (.iaload, 1) := by decide +kernel
theorem dX12_place_35 : decode cX12_place 35 = .ok (.iload_n 1, 1) := by decide +kernel
theorem dX12_place_36 : decode cX12_place 36 = .ok (.if_icmp .ne 5, 3) := by decide +kernel
theorem dX12_place_39 : decode cX12_place 39 = .ok (.iconst (-1), 1) := by decide +kernel
theorem dX12_place_40 : decode cX12_place 40 = .ok (.ireturn, 1) := by decide +kernel
theorem dX12_place_41 : decode cX12_place 41 = .ok (.iinc 2 1, 3) := by decide +kernel
theorem dX12_place_44 : decode cX12_place 44 = .ok (.goto (-23), 3) := by decide +kernel
theorem dX12_place_47 : decode cX12_place 47 = .ok (.aload_n 0, 1) := by decide +kernel
theorem dX12_place_48 : decode cX12_place 48 = .ok (.getfield 158, 3) := by decide +kernel
theorem dX12_place_51 : decode cX12_place 51 = .ok (.aload_n 0, 1) := by decide +kernel
theorem dX12_place_52 : decode cX12_place 52 = .ok (.getfield 427, 3) := by decide +kernel
theorem dX12_place_55 : decode cX12_place 55 = .ok (.iload_n 1, 1) := by decide +kernel
theorem dX12_place_56 : decode cX12_place 56 = .ok (.iastore, 1) := by decide +kernel
theorem dX12_place_57 : decode cX12_place 57 = .ok (.aload_n 0, 1) := by decide +kernel
theorem dX12_place_58 : decode cX12_place 58 = .ok (.dup, 1) := by decide +kernel
theorem dX12_place_59 : decode cX12_place 59 = .ok (.getfield 427, 3) := by decide +kernel
theorem dX12_place_62 : decode cX12_place 62 = .ok (.iconst 1, 1) := by decide +kernel
theorem dX12_place_63 : decode cX12_place 63 = .ok (.iadd, 1) := by decide +kernel
theorem dX12_place_64 : decode cX12_place 64 = .ok (.putfield 427, 3) := by decide +kernel
theorem dX12_place_67 : decode cX12_place 67 = .ok (.aload_n 0, 1) := by decide +kernel
theorem dX12_place_68 : decode cX12_place 68 = .ok (.getfield 427, 3) := by decide +kernel
theorem dX12_place_71 : decode cX12_place 71 = .ok (.ireturn, 1) := by decide +kernel
theorem dX12_plan_0 : decode cX12_plan 0 = .ok (.iload_n 1, 1) := by decide +kernel
theorem dX12_plan_1 : decode cX12_plan 1 = .ok (.i2l, 1) := by decide +kernel
theorem dX12_plan_2 : decode cX12_plan 2 = .ok (.lconst 1, 1) := by decide +kernel
theorem dX12_plan_3 : decode cX12_plan 3 = .ok (.ldc2_w 437, 3) := by decide +kernel
theorem dX12_plan_6 : decode cX12_plan 6 = .ok (.invokestatic 325, 3) := by decide +kernel
theorem dX12_plan_9 : decode cX12_plan 9 = .ok (.ifCond .eq 76, 3) := by decide +kernel
theorem dX12_plan_12 : decode cX12_plan 12 = .ok (.iload_n 1, 1) := by decide +kernel
theorem dX12_plan_13 : decode cX12_plan 13 = .ok (.aload_n 0, 1) := by decide +kernel
theorem dX12_plan_14 : decode cX12_plan 14 = .ok (.getfield 427, 3) := by decide +kernel
theorem dX12_plan_17 : decode cX12_plan 17 = .ok (.if_icmp .gt 68, 3) := by decide +kernel
theorem dX12_plan_20 : decode cX12_plan 20 = .ok (.iload_n 2, 1) := by decide +kernel
theorem dX12_plan_21 : decode cX12_plan 21 = .ok (.invokestatic 451, 3) := by decide +kernel
theorem dX12_plan_24 : decode cX12_plan 24 = .ok (.ifCond .eq 61, 3) := by decide +kernel
theorem dX12_plan_27 : decode cX12_plan 27 = .ok (.iload_n 3, 1) := by decide +kernel
theorem dX12_plan_28 : decode cX12_plan 28 = .ok (.i2l, 1) := by decide +kernel
theorem dX12_plan_29 : decode cX12_plan 29 = .ok (.lconst 1, 1) := by decide +kernel
theorem dX12_plan_30 : decode cX12_plan 30 = .ok (.ldc2_w 443, 3) := by decide +kernel
theorem dX12_plan_33 : decode cX12_plan 33 = .ok (.invokestatic 325, 3) := by decide +kernel
theorem dX12_plan_36 : decode cX12_plan 36 = .ok (.ifCond .eq 49, 3) := by decide +kernel
theorem dX12_plan_39 : decode cX12_plan 39 = .ok (.iload 4, 2) := by decide +kernel
theorem dX12_plan_41 : decode cX12_plan 41 = .ok (.i2l, 1) := by decide +kernel
theorem dX12_plan_42 : decode cX12_plan 42 = .ok (.lconst 1, 1) := by decide +kernel
theorem dX12_plan_43 : decode cX12_plan 43 = .ok (.ldc2_w 443, 3) := by decide +kernel
theorem dX12_plan_46 : decode cX12_plan 46 = .ok (.invokestatic 325, 3) := by decide +kernel
theorem dX12_plan_49 : decode cX12_plan 49 = .ok (.ifCond .eq 36, 3) := by decide +kernel
theorem dX12_plan_52 : decode cX12_plan 52 = .ok (.aload_n 0, 1) := by decide +kernel
theorem dX12_plan_53 : decode cX12_plan 53 = .ok (.iload 5, 2) := by decide +kernel
theorem dX12_plan_55 : decode cX12_plan 55 = .ok (.invokevirtual 482, 3) := by decide +kernel
theorem dX12_plan_58 : decode cX12_plan 58 = .ok (.ifCond .eq 27, 3) := by decide +kernel
theorem dX12_plan_61 : decode cX12_plan 61 = .ok (.iload 6, 2) := by decide +kernel
theorem dX12_plan_63 : decode cX12_plan 63 = .ok (.i2l, 1) := by decide +kernel
theorem dX12_plan_64 : decode cX12_plan 64 = .ok (.lconst 1, 1) := by decide +kernel
theorem dX12_plan_65 : decode cX12_plan 65 = .ok (.ldc2_w 647, 3) := by decide +kernel
theorem dX12_plan_68 : decode cX12_plan 68 = .ok (.invokestatic 325, 3) := by decide +kernel
theorem dX12_plan_71 : decode cX12_plan 71 = .ok (.ifCond .eq 14, 3) := by decide +kernel
theorem dX12_plan_74 : decode cX12_plan 74 = .ok (.aload_n 0, 1) := by decide +kernel
theorem dX12_plan_75 : decode cX12_plan 75 = .ok (.getfield 421, 3) := by decide +kernel
theorem dX12_plan_78 : decode cX12_plan 78 = .ok (.iload_n 1, 1) := by decide +kernel
theorem dX12_plan_79 : decode cX12_plan 79 = .ok (.iadd, 1) := by decide +kernel
theorem dX12_plan_80 : decode cX12_plan 80 = .ok (.bipush 12, 2) := by decide +kernel
theorem dX12_plan_82 : decode cX12_plan 82 = .ok (.if_icmp .le 5, 3) := by decide +kernel
theorem dX12_plan_85 : decode cX12_plan 85 = .ok (.iconst (-1), 1) := by decide +kernel
theorem dX12_plan_86 : decode cX12_plan 86 = .ok (.ireturn, 1) := by decide +kernel
theorem dX12_plan_87 : decode cX12_plan 87 = .ok (.aload_n 0, 1) := by decide +kernel
theorem dX12_plan_88 : decode cX12_plan 88 = .ok (.getfield 421, 3) := by decide +kernel
theorem dX12_plan_91 : decode cX12_plan 91 = .ok (.istore 7, 2) := by decide +kernel
theorem dX12_plan_93 : decode cX12_plan 93 = .ok (.aload_n 0, 1) := by decide +kernel
theorem dX12_plan_94 : decode cX12_plan 94 = .ok (.dup, 1) := by decide +kernel
theorem dX12_plan_95 : decode cX12_plan 95 = .ok (.getfield 421, 3) := by decide +kernel
theorem dX12_plan_98 : decode cX12_plan 98 = .ok (.iload_n 1, 1) := by decide +kernel
theorem dX12_plan_99 : decode cX12_plan 99 = .ok (.iadd, 1) := by decide +kernel
theorem dX12_plan_100 : decode cX12_plan 100 = .ok (.putfield 421, 3) := by decide +kernel
theorem dX12_plan_103 : decode cX12_plan 103 = .ok (.iconst (-1), 1) := by decide +kernel
theorem dX12_plan_104 : decode cX12_plan 104 = .ok (.istore 8, 2) := by decide +kernel
theorem dX12_plan_106 : decode cX12_plan 106 = .ok (.iconst 0, 1) := by decide +kernel
theorem dX12_plan_107 : decode cX12_plan 107 = .ok (.istore 9, 2) := by decide +kernel
theorem dX12_plan_109 : decode cX12_plan 109 = .ok (.iload 9, 2) := by decide +kernel
theorem dX12_plan_111 : decode cX12_plan 111 = .ok (.aload_n 0, 1) := by decide +kernel
theorem dX12_plan_112 : decode cX12_plan 112 = .ok (.getfield 427, 3) := by decide +kernel
theorem dX12_plan_115 : decode cX12_plan 115 = .ok (.if_icmp .ge 233, 3) := by decide +kernel
theorem dX12_plan_118 : decode cX12_plan 118 = .ok (.iload_n 1, 1) := by decide +kernel
theorem dX12_plan_119 : decode cX12_plan 119 = .ok (.iconst 1, 1) := by decide +kernel
theorem dX12_plan_120 : decode cX12_plan 120 = .ok (.if_icmp .le 10, 3) := by decide +kernel
theorem dX12_plan_123 : decode cX12_plan 123 = .ok (.iload 9, 2) := by decide +kernel
theorem dX12_plan_125 : decode cX12_plan 125 = .ok (.iconst 1, 1) := by decide +kernel
theorem dX12_plan_126 : decode cX12_plan 126 = .ok (.iadd, 1) := by decide +kernel
theorem dX12_plan_127 : decode cX12_plan 127 = .ok (.goto 5, 3) := by decide +kernel
theorem dX12_plan_130 : decode cX12_plan 130 = .ok (.iload 9, 2) := by decide +kernel
theorem dX12_plan_132 : decode cX12_plan 132 = .ok (.istore 10, 2) := by decide +kernel
theorem dX12_plan_134 : decode cX12_plan 134 = .ok (.iload 10, 2) := by decide +kernel
theorem dX12_plan_136 : decode cX12_plan 136 = .ok (.iload_n 1, 1) := by decide +kernel
theorem dX12_plan_137 : decode cX12_plan 137 = .ok (.iconst 1, 1) := by decide +kernel
theorem dX12_plan_138 : decode cX12_plan 138 = .ok (.if_icmp .le 10, 3) := by decide +kernel
theorem dX12_plan_141 : decode cX12_plan 141 = .ok (.aload_n 0, 1) := by decide +kernel
theorem dX12_plan_142 : decode cX12_plan 142 = .ok (.getfield 427, 3) := by decide +kernel
theorem dX12_plan_145 : decode cX12_plan 145 = .ok (.goto 7, 3) := by decide +kernel
theorem dX12_plan_148 : decode cX12_plan 148 = .ok (.iload 9, 2) := by decide +kernel
theorem dX12_plan_150 : decode cX12_plan 150 = .ok (.iconst 1, 1) := by decide +kernel
theorem dX12_plan_151 : decode cX12_plan 151 = .ok (.iadd, 1) := by decide +kernel
theorem dX12_plan_152 : decode cX12_plan 152 = .ok (.if_icmp .ge 190, 3) := by decide +kernel
theorem dX12_plan_155 : decode cX12_plan 155 = .ok (.iload_n 1, 1) := by decide +kernel
theorem dX12_plan_156 : decode cX12_plan 156 = .ok (.iconst 2, 1) := by decide +kernel
theorem dX12_plan_157 : decode cX12_plan 157 = .ok (.if_icmp .le 10, 3) := by decide +kernel
theorem dX12_plan_160 : decode cX12_plan 160 = .ok (.iload 10, 2) := by decide +kernel
theorem dX12_plan_162 : decode cX12_plan 162 = .ok (.iconst 1, 1) := by decide +kernel
theorem dX12_plan_163 : decode cX12_plan 163 = .ok (.iadd, 1) := by decide +kernel
theorem dX12_plan_164 : decode cX12_plan 164 = .ok (.goto 5, 3) := by decide +kernel
theorem dX12_plan_167 : decode cX12_plan 167 = .ok (.iload 10, 2) := by decide +kernel
theorem dX12_plan_169 : decode cX12_plan 169 = .ok (.istore 11, 2) := by decide +kernel
theorem dX12_plan_171 : decode cX12_plan 171 = .ok (.iload 11, 2) := by decide +kernel
theorem dX12_plan_173 : decode cX12_plan 173 = .ok (.iload_n 1, 1) := by decide +kernel
theorem dX12_plan_174 : decode cX12_plan 174 = .ok (.iconst 2, 1) := by decide +kernel
theorem dX12_plan_175 : decode cX12_plan 175 = .ok (.if_icmp .le 10, 3) := by decide +kernel
theorem dX12_plan_178 : decode cX12_plan 178 = .ok (.aload_n 0, 1) := by decide +kernel
theorem dX12_plan_179 : decode cX12_plan 179 = .ok (.getfield 427, 3) := by decide +kernel
theorem dX12_plan_182 : decode cX12_plan 182 = .ok (.goto 7, 3) := by decide +kernel
theorem dX12_plan_185 : decode cX12_plan 185 = .ok (.iload 10, 2) := by decide +kernel
theorem dX12_plan_187 : decode cX12_plan 187 = .ok (.iconst 1, 1) := by decide +kernel
theorem dX12_plan_188 : decode cX12_plan 188 = .ok (.iadd, 1) := by decide +kernel
theorem dX12_plan_189 : decode cX12_plan 189 = .ok (.if_icmp .ge 147, 3) := by decide +kernel
theorem dX12_plan_192 : decode cX12_plan 192 = .ok (.aload_n 0, 1) := by decide +kernel
theorem dX12_plan_193 : decode cX12_plan 193 = .ok (.iload 7, 2) := by decide +kernel
theorem dX12_plan_195 : decode cX12_plan 195 = .ok (.iload_n 2, 1) := by decide +kernel
theorem dX12_plan_196 : decode cX12_plan 196 = .ok (.aload_n 0, 1) := by decide +kernel
theorem dX12_plan_197 : decode cX12_plan 197 = .ok (.getfield 158, 3) := by decide +kernel
theorem dX12_plan_200 : decode cX12_plan 200 = .ok (.iload 9, 2) := by decide +kernel
theorem dX12_plan_202 : decode cX12_plan 202 = .ok (.iaload, 1) := by decide +kernel
theorem dX12_plan_203 : decode cX12_plan 203 = .ok (.iload_n 3, 1) := by decide +kernel
theorem dX12_plan_204 : decode cX12_plan 204 = .ok (.iload 4, 2) := by decide +kernel
theorem dX12_plan_206 : decode cX12_plan 206 = .ok (.invokevirtual 456, 3) := by decide +kernel
theorem dX12_plan_209 : decode cX12_plan 209 = .ok (.iload_n 1, 1) := by decide +kernel
theorem dX12_plan_210 : decode cX12_plan 210 = .ok (.iconst 1, 1) := by decide +kernel
theorem dX12_plan_211 : decode cX12_plan 211 = .ok (.if_icmp .le 22, 3) := by decide +kernel
theorem dX12_plan_214 : decode cX12_plan 214 = .ok (.aload_n 0, 1) := by decide +kernel
theorem dX12_plan_215 : decode cX12_plan 215 = .ok (.iload 7, 2) := by decide +kernel
theorem dX12_plan_217 : decode cX12_plan 217 = .ok (.iconst 1, 1) := by decide +kernel
theorem dX12_plan_218 : decode cX12_plan 218 = .ok (.iadd, 1) := by decide +kernel
theorem dX12_plan_219 : decode cX12_plan 219 = .ok (.iload_n 2, 1) := by decide +kernel
theorem dX12_plan_220 : decode cX12_plan 220 = .ok (.aload_n 0, 1) := by decide +kernel
theorem dX12_plan_221 : decode cX12_plan 221 = .ok (.getfield 158, 3) := by decide +kernel
theorem dX12_plan_224 : decode cX12_plan 224 = .ok (.iload 10, 2) := by decide +kernel
theorem dX12_plan_226 : decode cX12_plan 226 = .ok (.iaload, 1) := by decide +kernel
theorem dX12_plan_227 : decode cX12_plan 227 = .ok (.iload_n 3, 1) := by decide +kernel
theorem dX12_plan_228 : decode cX12_plan 228 = .ok (.iload 4, 2) := by decide +kernel
theorem dX12_plan_230 : decode cX12_plan 230 = .ok (.invokevirtual 456, 3) := by decide +kernel
theorem dX12_plan_233 : decode cX12_plan 233 = .ok (.iload_n 1, 1) := by decide +kernel
theorem dX12_plan_234 : decode cX12_plan 234 = .ok (.iconst 2, 1) := by decide +kernel
theorem dX12_plan_235 : decode cX12_plan 235 = .ok (.if_icmp .le 22, 3) := by decide +kernel
theorem dX12_plan_238 : decode cX12_plan 238 = .ok (.aload_n 0, 1) := by decide +kernel
theorem dX12_plan_239 : decode cX12_plan 239 = .ok (.iload 7, 2) := by decide +kernel
theorem dX12_plan_241 : decode cX12_plan 241 = .ok (.iconst 2, 1) := by decide +kernel
theorem dX12_plan_242 : decode cX12_plan 242 = .ok (.iadd, 1) := by decide +kernel
theorem dX12_plan_243 : decode cX12_plan 243 = .ok (.iload_n 2, 1) := by decide +kernel
theorem dX12_plan_244 : decode cX12_plan 244 = .ok (.aload_n 0, 1) := by decide +kernel
theorem dX12_plan_245 : decode cX12_plan 245 = .ok (.getfield 158, 3) := by decide +kernel
theorem dX12_plan_248 : decode cX12_plan 248 = .ok (.iload 11, 2) := by decide +kernel
theorem dX12_plan_250 : decode cX12_plan 250 = .ok (.iaload, 1) := by decide +kernel
theorem dX12_plan_251 : decode cX12_plan 251 = .ok (.iload_n 3, 1) := by decide +kernel
theorem dX12_plan_252 : decode cX12_plan 252 = .ok (.iload 4, 2) := by decide +kernel
theorem dX12_plan_254 : decode cX12_plan 254 = .ok (.invokevirtual 456, 3) := by decide +kernel
theorem dX12_plan_257 : decode cX12_plan 257 = .ok (.aload_n 0, 1) := by decide +kernel
theorem dX12_plan_258 : decode cX12_plan 258 = .ok (.iload 5, 2) := by decide +kernel
theorem dX12_plan_260 : decode cX12_plan 260 = .ok (.iload 6, 2) := by decide +kernel
theorem dX12_plan_262 : decode cX12_plan 262 = .ok (.invokevirtual 611, 3) := by decide +kernel
theorem dX12_plan_265 : decode cX12_plan 265 = .ok (.aload_n 0, 1) := by decide +kernel
theorem dX12_plan_266 : decode cX12_plan 266 = .ok (.invokevirtual 623, 3) := by decide +kernel
theorem dX12_plan_269 : decode cX12_plan 269 = .ok (.istore 12, 2) := by decide +kernel
theorem dX12_plan_271 : decode cX12_plan 271 = .ok (.iload 8, 2) := by decide +kernel
theorem dX12_plan_273 : decode cX12_plan 273 = .ok (.iconst (-1), 1) := by decide +kernel
theorem dX12_plan_274 : decode cX12_plan 274 = .ok (.if_icmp .eq 13, 3) := by decide +kernel
theorem dX12_plan_277 : decode cX12_plan 277 = .ok (.iload 12, 2) := by decide +kernel
theorem dX12_plan_279 : decode cX12_plan 279 = .ok (.iload 8, 2) := by decide +kernel
theorem dX12_plan_281 : decode cX12_plan 281 = .ok (.if_icmp .lt 6, 3) := by decide +kernel
theorem dX12_plan_284 : decode cX12_plan 284 = .ok (.goto 46, 3) := by decide +kernel
theorem dX12_plan_287 : decode cX12_plan 287 = .ok (.iload 12, 2) := by decide +kernel
theorem dX12_plan_289 : decode cX12_plan 289 = .ok (.istore 8, 2) := by decide +kernel
theorem dX12_plan_291 : decode cX12_plan 291 = .ok (.aload_n 0, 1) := by decide +kernel
theorem dX12_plan_292 : decode cX12_plan 292 = .ok (.getfield 279, 3) := by decide +kernel
theorem dX12_plan_295 : decode cX12_plan 295 = .ok (.iconst 0, 1) := by decide +kernel
theorem dX12_plan_296 : decode cX12_plan 296 = .ok (.aload_n 0, 1) := by decide +kernel
theorem dX12_plan_297 : decode cX12_plan 297 = .ok (.getfield 158, 3) := by decide +kernel
theorem dX12_plan_300 : decode cX12_plan 300 = .ok (.iload 9, 2) := by decide +kernel
theorem dX12_plan_302 : decode cX12_plan 302 = .ok (.iaload, 1) := by decide +kernel
theorem dX12_plan_303 : decode cX12_plan 303 = .ok (.iastore, 1) := by decide +kernel
theorem dX12_plan_304 : decode cX12_plan 304 = .ok (.aload_n 0, 1) := by decide +kernel
theorem dX12_plan_305 : decode cX12_plan 305 = .ok (.getfield 279, 3) := by decide +kernel
theorem dX12_plan_308 : decode cX12_plan 308 = .ok (.iconst 1, 1) := by decide +kernel
theorem dX12_plan_309 : decode cX12_plan 309 = .ok (.aload_n 0, 1) := by decide +kernel
theorem dX12_plan_310 : decode cX12_plan 310 = .ok (.getfield 158, 3) := by decide +kernel
theorem dX12_plan_313 : decode cX12_plan 313 = .ok (.iload 10, 2) := by decide +kernel
theorem dX12_plan_315 : decode cX12_plan 315 = .ok (.iaload, 1) := by decide +kernel
theorem dX12_plan_316 : decode cX12_plan 316 = .ok (.iastore, 1) := by decide +kernel
theorem dX12_plan_317 : decode cX12_plan 317 = .ok (.aload_n 0, 1) := by decide +kernel
theorem dX12_plan_318 : decode cX12_plan 318 = .ok (.getfield 279, 3) := by decide +kernel
theorem dX12_plan_321 : decode cX12_plan 321 = .ok (.iconst 2, 1) := by decide +kernel
theorem dX12_plan_322 : decode cX12_plan 322 = .ok (.aload_n 0, 1) := by decide +kernel
theorem dX12_plan_323 : decode cX12_plan 323 = .ok (.getfield 158, 3) := by decide +kernel
theorem dX12_plan_326 : decode cX12_plan 326 = .ok (.iload 11, 2) := by decide +kernel
theorem dX12_plan_328 : decode cX12_plan 328 = .ok (.iaload, 1) := by decide +kernel
theorem dX12_plan_329 : decode cX12_plan 329 = .ok (.iastore, 1) := by decide +kernel
theorem dX12_plan_330 : decode cX12_plan 330 = .ok (.iinc 11 1, 3) := by decide +kernel
theorem dX12_plan_333 : decode cX12_plan 333 = .ok (.goto (-162), 3) := by decide +kernel
theorem dX12_plan_336 : decode cX12_plan 336 = .ok (.iinc 10 1, 3) := by decide +kernel
theorem dX12_plan_339 : decode cX12_plan 339 = .ok (.goto (-205), 3) := by decide +kernel
theorem dX12_plan_342 : decode cX12_plan 342 = .ok (.iinc 9 1, 3) := by decide +kernel
theorem dX12_plan_345 : decode cX12_plan 345 = .ok (.goto (-236), 3) := by decide +kernel
theorem dX12_plan_348 : decode cX12_plan 348 = .ok (.aload_n 0, 1) := by decide +kernel
theorem dX12_plan_349 : decode cX12_plan 349 = .ok (.iload 7, 2) := by decide +kernel
theorem dX12_plan_351 : decode cX12_plan 351 = .ok (.putfield 421, 3) := by decide +kernel
theorem dX12_plan_354 : decode cX12_plan 354 = .ok (.aload_n 0, 1) := by decide +kernel
theorem dX12_plan_355 : decode cX12_plan 355 = .ok (.iload_n 1, 1) := by decide +kernel
theorem dX12_plan_356 : decode cX12_plan 356 = .ok (.putfield 434, 3) := by decide +kernel
theorem dX12_plan_359 : decode cX12_plan 359 = .ok (.iload 8, 2) := by decide +kernel
theorem dX12_plan_361 : decode cX12_plan 361 = .ok (.ireturn, 1) := by decide +kernel
theorem dX12_planned_0 : decode cX12_planned 0 = .ok (.iload_n 1, 1) := by decide +kernel
theorem dX12_planned_1 : decode cX12_planned 1 = .ok (.ifCond .lt 20, 3) := by decide +kernel
theorem dX12_planned_4 : decode cX12_planned 4 = .ok (.iload_n 1, 1) := by decide +kernel
theorem dX12_planned_5 : decode cX12_planned 5 = .ok (.aload_n 0, 1) := by decide +kernel
theorem dX12_planned_6 : decode cX12_planned 6 = .ok (.getfield 434, 3) := by decide +kernel
theorem dX12_planned_9 : decode cX12_planned 9 = .ok (.if_icmp .ge 12, 3) := by decide +kernel
theorem dX12_planned_12 : decode cX12_planned 12 = .ok (.aload_n 0, 1) := by decide +kernel
theorem dX12_planned_13 : decode cX12_planned 13 = .ok (.getfield 279, 3) := by decide +kernel
theorem dX12_planned_16 : decode cX12_planned 16 = .ok (.iload_n 1, 1) := by decide +kernel
theorem dX12_planned_17 : decode cX12_planned 17 = .ok (.iaload, 1) := by decide +kernel
theorem dX12_planned_18 : decode cX12_planned 18 = .ok (.goto 4, 3) := by decide +kernel
theorem dX12_planned_21 : decode cX12_planned 21 = .ok (.iconst (-1), 1) := by decide +kernel
theorem dX12_planned_22 : decode cX12_planned 22 = .ok (.ireturn, 1) := by decide +kernel
theorem dX12_all_0 : decode cX12_all 0 = .ok (.iconst 0, 1) := by decide +kernel
theorem dX12_all_1 : decode cX12_all 1 = .ok (.istore_n 2, 1) := by decide +kernel
theorem dX12_all_2 : decode cX12_all 2 = .ok (.iload_n 1, 1) := by decide +kernel
theorem dX12_all_3 : decode cX12_all 3 = .ok (.tableswitch 126 0 6 #[41, 46, 76, 81, 86, 91, 96], 41) := by decide +kernel
theorem dX12_all_44 : decode cX12_all 44 = .ok (.aload_n 0, 1) := by decide +kernel
theorem dX12_all_45 : decode cX12_all 45 = .ok (.invokevirtual 409, 3) := by decide +kernel
theorem dX12_all_48 : decode cX12_all 48 = .ok (.ireturn, 1) := by decide +kernel
theorem dX12_all_49 : decode cX12_all 49 = .ok (.iconst 0, 1) := by decide +kernel
theorem dX12_all_50 : decode cX12_all 50 = .ok (.istore_n 3, 1) := by decide +kernel
theorem dX12_all_51 : decode cX12_all 51 = .ok (.iload_n 3, 1) := by decide +kernel
theorem dX12_all_52 : decode cX12_all 52 = .ok (.aload_n 0, 1) := by decide +kernel
theorem dX12_all_53 : decode cX12_all 53 = .ok (.invokevirtual 409, 3) := by decide +kernel
theorem dX12_all_56 : decode cX12_all 56 = .ok (.if_icmp .ge 21, 3) := by decide +kernel
theorem dX12_all_59 : decode cX12_all 59 = .ok (.aload_n 0, 1) := by decide +kernel
theorem dX12_all_60 : decode cX12_all 60 = .ok (.getfield 121, 3) := by decide +kernel
theorem dX12_all_63 : decode cX12_all 63 = .ok (.iload_n 3, 1) := by decide +kernel
theorem dX12_all_64 : decode cX12_all 64 = .ok (.baload, 1) := by decide +kernel
theorem dX12_all_65 : decode cX12_all 65 = .ok (.ifCond .eq 6, 3) := by decide +kernel
theorem dX12_all_68 : decode cX12_all 68 = .ok (.iinc 2 1, 3) := by decide +kernel
theorem dX12_all_71 : decode cX12_all 71 = .ok (.iinc 3 1, 3) := by decide +kernel
theorem dX12_all_74 : decode cX12_all 74 = .ok (.goto (-23), 3) := by decide +kernel
theorem dX12_all_77 : decode cX12_all 77 = .ok (.iload_n 2, 1) := by decide +kernel
theorem dX12_all_78 : decode cX12_all 78 = .ok (.ireturn, 1) := by decide +kernel
theorem dX12_all_79 : decode cX12_all 79 = .ok (.aload_n 0, 1) := by decide +kernel
theorem dX12_all_80 : decode cX12_all 80 = .ok (.getfield 421, 3) := by decide +kernel
theorem dX12_all_83 : decode cX12_all 83 = .ok (.ireturn, 1) := by decide +kernel
theorem dX12_all_84 : decode cX12_all 84 = .ok (.aload_n 0, 1) := by decide +kernel
theorem dX12_all_85 : decode cX12_all 85 = .ok (.getfield 424, 3) := by decide +kernel
theorem dX12_all_88 : decode cX12_all 88 = .ok (.ireturn, 1) := by decide +kernel
theorem dX12_all_89 : decode cX12_all 89 = .ok (.aload_n 0, 1) := by decide +kernel
theorem dX12_all_90 : decode cX12_all 90 = .ok (.invokevirtual 489, 3) := by decide +kernel
theorem dX12_all_93 : decode cX12_all 93 = .ok (.ireturn, 1) := by decide +kernel
theorem dX12_all_94 : decode cX12_all 94 = .ok (.aload_n 0, 1) := by decide +kernel
theorem dX12_all_95 : decode cX12_all 95 = .ok (.getfield 427, 3) := by decide +kernel
theorem dX12_all_98 : decode cX12_all 98 = .ok (.ireturn, 1) := by decide +kernel
theorem dX12_all_99 : decode cX12_all 99 = .ok (.iconst 0, 1) := by decide +kernel
theorem dX12_all_100 : decode cX12_all 100 = .ok (.istore_n 3, 1) := by decide +kernel
theorem dX12_all_101 : decode cX12_all 101 = .ok (.iload_n 3, 1) := by decide +kernel
theorem dX12_all_102 : decode cX12_all 102 = .ok (.aload_n 0, 1) := by decide +kernel
theorem dX12_all_103 : decode cX12_all 103 = .ok (.invokevirtual 409, 3) := by decide +kernel
theorem dX12_all_106 : decode cX12_all 106 = .ok (.if_icmp .ge 21, 3) := by decide +kernel
theorem dX12_all_109 : decode cX12_all 109 = .ok (.aload_n 0, 1) := by decide +kernel
theorem dX12_all_110 : decode cX12_all 110 = .ok (.getfield 125, 3) := by decide +kernel
theorem dX12_all_113 : decode cX12_all 113 = .ok (.iload_n 3, 1) := by decide +kernel
theorem dX12_all_114 : decode cX12_all 114 = .ok (.baload, 1) := by decide +kernel
theorem dX12_all_115 : decode cX12_all 115 = .ok (.ifCond .eq 6, 3) := by decide +kernel
theorem dX12_all_118 : decode cX12_all 118 = .ok (.iinc 2 1, 3) := by decide +kernel
theorem dX12_all_121 : decode cX12_all 121 = .ok (.iinc 3 1, 3) := by decide +kernel
theorem dX12_all_124 : decode cX12_all 124 = .ok (.goto (-23), 3) := by decide +kernel
theorem dX12_all_127 : decode cX12_all 127 = .ok (.iload_n 2, 1) := by decide +kernel
theorem dX12_all_128 : decode cX12_all 128 = .ok (.ireturn, 1) := by decide +kernel
theorem dX12_all_129 : decode cX12_all 129 = .ok (.iconst (-1), 1) := by decide +kernel
theorem dX12_all_130 : decode cX12_all 130 = .ok (.ireturn, 1) := by decide +kernel
