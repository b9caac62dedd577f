theorem mi_342_0 : mI 342 0 = (3, 0, 0, 0, 0) := by decide +kernel
theorem mi_342_1 : mI 342 1 = (3, 0, 1, 0, 0) := by decide +kernel
theorem mi_342_2 : mI 342 2 = (15, 7, 4, 9, 0) := by decide +kernel
theorem mi_342_5 : mI 342 5 = (3, 0, 0, 0, 0) := by decide +kernel
theorem mi_342_6 : mI 342 6 = (16, 4, 0, 10, 0) := by decide +kernel
theorem mi_342_9 : mI 342 9 = (3, 0, 1, 0, 0) := by decide +kernel
theorem mi_342_10 : mI 342 10 = (27, 0, 0, 0, 0) := by decide +kernel
theorem mi_302_0 : mI 302 0 = (1, 0, 0, 0, 0) := by decide +kernel
theorem mi_302_1 : mI 302 1 = (6, 0, 4, 1, 0) := by decide +kernel
theorem mi_302_3 : mI 302 3 = (3, 0, 4, 1, 0) := by decide +kernel
theorem mi_302_5 : mI 302 5 = (1, 64, 1, 0, 0) := by decide +kernel
theorem mi_302_7 : mI 302 7 = (15, 137, 3, 144, 0) := by decide +kernel
theorem mi_302_10 : mI 302 10 = (5, 0, 0, 0, 0) := by decide +kernel
theorem mi_302_11 : mI 302 11 = (17, 1232, 52, 11, 26) := by decide +kernel
theorem mi_302_14 : mI 302 14 = (3, 0, 4, 1, 0) := by decide +kernel
theorem mi_302_16 : mI 302 16 = (1, 1, 0, 0, 0) := by decide +kernel
theorem mi_302_17 : mI 302 17 = (20, 0, 1, 0, 0) := by decide +kernel
theorem mi_302_18 : mI 302 18 = (5, 0, 0, 0, 0) := by decide +kernel
theorem mi_302_19 : mI 302 19 = (17, 1233, 55, 11, 27) := by decide +kernel
theorem mi_302_22 : mI 302 22 = (3, 0, 4, 1, 0) := by decide +kernel
theorem mi_302_24 : mI 302 24 = (1, 0, 0, 0, 0) := by decide +kernel
theorem mi_302_25 : mI 302 25 = (20, 0, 0, 0, 0) := by decide +kernel
theorem mi_302_26 : mI 302 26 = (1, 0, 0, 0, 0) := by decide +kernel
theorem mi_302_27 : mI 302 27 = (6, 0, 5, 1, 0) := by decide +kernel
theorem mi_302_29 : mI 302 29 = (3, 0, 5, 1, 0) := by decide +kernel
theorem mi_302_31 : mI 302 31 = (5, 0, 0, 0, 0) := by decide +kernel
theorem mi_302_32 : mI 302 32 = (17, 1238, 67, 11, 32) := by decide +kernel
theorem mi_302_35 : mI 302 35 = (3, 0, 2, 0, 0) := by decide +kernel
theorem mi_302_36 : mI 302 36 = (19, 0, 0, 0, 0) := by decide +kernel
theorem mi_302_37 : mI 302 37 = (15, 47, 3, 84, 0) := by decide +kernel
theorem mi_302_40 : mI 302 40 = (5, 0, 0, 0, 0) := by decide +kernel
theorem mi_302_41 : mI 302 41 = (17, 1232, 52, 11, 26) := by decide +kernel
theorem mi_302_44 : mI 302 44 = (3, 0, 4, 1, 0) := by decide +kernel
theorem mi_302_46 : mI 302 46 = (5, 0, 0, 0, 0) := by decide +kernel
theorem mi_302_47 : mI 302 47 = (17, 1232, 52, 11, 26) := by decide +kernel
theorem mi_302_50 : mI 302 50 = (3, 0, 4, 1, 0) := by decide +kernel
theorem mi_302_52 : mI 302 52 = (19, 0, 1, 0, 0) := by decide +kernel
theorem mi_302_53 : mI 302 53 = (14, 23, 0, 76, 0) := by decide +kernel
theorem mi_302_56 : mI 302 56 = (3, 0, 4, 1, 0) := by decide +kernel
theorem mi_302_58 : mI 302 58 = (12, 0, 1, 0, 0) := by decide +kernel
theorem mi_302_59 : mI 302 59 = (5, 0, 0, 0, 0) := by decide +kernel
theorem mi_302_60 : mI 302 60 = (3, 0, 2, 0, 0) := by decide +kernel
theorem mi_302_61 : mI 302 61 = (3, 0, 5, 1, 0) := by decide +kernel
theorem mi_302_63 : mI 302 63 = (26, 1777, 376, 300, 0) := by decide +kernel
theorem mi_302_66 : mI 302 66 = (11, 0, 5, 0, 0) := by decide +kernel
theorem mi_302_67 : mI 302 67 = (2, 0, 0, 0, 0) := by decide +kernel
theorem mi_302_68 : mI 302 68 = (13, 0, 0, 0, 0) := by decide +kernel
theorem mi_302_69 : mI 302 69 = (14, 7, 0, 76, 0) := by decide +kernel
theorem mi_302_72 : mI 302 72 = (1, 1, 0, 0, 0) := by decide +kernel
theorem mi_302_73 : mI 302 73 = (16, 4, 0, 77, 0) := by decide +kernel
theorem mi_302_76 : mI 302 76 = (1, 0, 0, 0, 0) := by decide +kernel
theorem mi_302_77 : mI 302 77 = (20, 0, 1, 0, 0) := by decide +kernel
theorem mi_302_78 : mI 302 78 = (9, 1, 5, 0, 0) := by decide +kernel
theorem mi_302_81 : mI 302 81 = (16, (-52), 0, 29, 0) := by decide +kernel
theorem mi_302_84 : mI 302 84 = (1, 0, 0, 0, 0) := by decide +kernel
theorem mi_302_85 : mI 302 85 = (6, 0, 5, 1, 0) := by decide +kernel
theorem mi_302_87 : mI 302 87 = (3, 0, 5, 1, 0) := by decide +kernel
theorem mi_302_89 : mI 302 89 = (5, 0, 0, 0, 0) := by decide +kernel
theorem mi_302_90 : mI 302 90 = (17, 1238, 67, 11, 32) := by decide +kernel
theorem mi_302_93 : mI 302 93 = (3, 0, 3, 0, 0) := by decide +kernel
theorem mi_302_94 : mI 302 94 = (19, 0, 0, 0, 0) := by decide +kernel
theorem mi_302_95 : mI 302 95 = (15, 43, 3, 138, 0) := by decide +kernel
theorem mi_302_98 : mI 302 98 = (5, 0, 0, 0, 0) := by decide +kernel
theorem mi_302_99 : mI 302 99 = (17, 1233, 55, 11, 27) := by decide +kernel
theorem mi_302_102 : mI 302 102 = (3, 0, 4, 1, 0) := by decide +kernel
theorem mi_302_104 : mI 302 104 = (22, 0, 1, 0, 0) := by decide +kernel
theorem mi_302_105 : mI 302 105 = (19, 0, 0, 0, 0) := by decide +kernel
theorem mi_302_106 : mI 302 106 = (3, 0, 4, 1, 0) := by decide +kernel
theorem mi_302_108 : mI 302 108 = (12, 0, 1, 0, 0) := by decide +kernel
theorem mi_302_109 : mI 302 109 = (5, 0, 0, 0, 0) := by decide +kernel
theorem mi_302_110 : mI 302 110 = (3, 0, 3, 0, 0) := by decide +kernel
theorem mi_302_111 : mI 302 111 = (3, 0, 5, 1, 0) := by decide +kernel
theorem mi_302_113 : mI 302 113 = (26, 1777, 376, 300, 0) := by decide +kernel
theorem mi_302_116 : mI 302 116 = (11, 0, 5, 0, 0) := by decide +kernel
theorem mi_302_117 : mI 302 117 = (2, 0, 0, 0, 0) := by decide +kernel
theorem mi_302_118 : mI 302 118 = (13, 0, 0, 0, 0) := by decide +kernel
theorem mi_302_119 : mI 302 119 = (14, 10, 1, 129, 0) := by decide +kernel
theorem mi_302_122 : mI 302 122 = (1, 1, 0, 0, 0) := by decide +kernel
theorem mi_302_123 : mI 302 123 = (3, 0, 5, 1, 0) := by decide +kernel
theorem mi_302_125 : mI 302 125 = (10, 0, 8, 0, 0) := by decide +kernel
theorem mi_302_126 : mI 302 126 = (16, 4, 0, 130, 0) := by decide +kernel
theorem mi_302_129 : mI 302 129 = (1, 0, 0, 0, 0) := by decide +kernel
theorem mi_302_130 : mI 302 130 = (10, 0, 6, 0, 0) := by decide +kernel
theorem mi_302_131 : mI 302 131 = (20, 0, 0, 0, 0) := by decide +kernel
theorem mi_302_132 : mI 302 132 = (9, 1, 5, 0, 0) := by decide +kernel
theorem mi_302_135 : mI 302 135 = (16, (-48), 0, 87, 0) := by decide +kernel
theorem mi_302_138 : mI 302 138 = (9, 1, 4, 0, 0) := by decide +kernel
theorem mi_302_141 : mI 302 141 = (16, (-138), 0, 3, 0) := by decide +kernel
theorem mi_302_144 : mI 302 144 = (1, 1, 0, 0, 0) := by decide +kernel
theorem mi_302_145 : mI 302 145 = (5, 0, 0, 0, 0) := by decide +kernel
theorem mi_302_146 : mI 302 146 = (17, 1238, 67, 11, 32) := by decide +kernel
theorem mi_302_149 : mI 302 149 = (3, 0, 3, 0, 0) := by decide +kernel
theorem mi_302_150 : mI 302 150 = (19, 0, 0, 0, 0) := by decide +kernel
theorem mi_302_151 : mI 302 151 = (10, 0, 8, 0, 0) := by decide +kernel
theorem mi_302_152 : mI 302 152 = (1, 1, 0, 0, 0) := by decide +kernel
theorem mi_302_153 : mI 302 153 = (10, 0, 1, 0, 0) := by decide +kernel
theorem mi_302_154 : mI 302 154 = (6, 0, 4, 1, 0) := by decide +kernel
theorem mi_302_156 : mI 302 156 = (1, 0, 0, 0, 0) := by decide +kernel
theorem mi_302_157 : mI 302 157 = (6, 0, 5, 1, 0) := by decide +kernel
theorem mi_302_159 : mI 302 159 = (3, 0, 5, 1, 0) := by decide +kernel
theorem mi_302_161 : mI 302 161 = (3, 0, 4, 1, 0) := by decide +kernel
theorem mi_302_163 : mI 302 163 = (15, 36, 4, 199, 0) := by decide +kernel
theorem mi_302_166 : mI 302 166 = (5, 0, 0, 0, 0) := by decide +kernel
theorem mi_302_167 : mI 302 167 = (17, 1234, 58, 11, 28) := by decide +kernel
theorem mi_302_170 : mI 302 170 = (1, 256, 2, 0, 0) := by decide +kernel
theorem mi_302_173 : mI 302 173 = (3, 0, 1, 0, 0) := by decide +kernel
theorem mi_302_174 : mI 302 174 = (10, 0, 2, 0, 0) := by decide +kernel
theorem mi_302_175 : mI 302 175 = (3, 0, 5, 1, 0) := by decide +kernel
theorem mi_302_177 : mI 302 177 = (10, 0, 0, 0, 0) := by decide +kernel
theorem mi_302_178 : mI 302 178 = (3, 0, 5, 1, 0) := by decide +kernel
theorem mi_302_180 : mI 302 180 = (3, 0, 4, 1, 0) := by decide +kernel
theorem mi_302_182 : mI 302 182 = (15, 7, 1, 189, 0) := by decide +kernel
theorem mi_302_185 : mI 302 185 = (1, 0, 0, 0, 0) := by decide +kernel
theorem mi_302_186 : mI 302 186 = (16, 6, 0, 192, 0) := by decide +kernel
theorem mi_302_189 : mI 302 189 = (1, 1000000, 4, 313, 1581) := by decide +kernel
theorem mi_302_192 : mI 302 192 = (20, 0, 0, 0, 0) := by decide +kernel
theorem mi_302_193 : mI 302 193 = (9, 1, 5, 0, 0) := by decide +kernel
theorem mi_302_196 : mI 302 196 = (16, (-37), 0, 159, 0) := by decide +kernel
theorem mi_302_199 : mI 302 199 = (3, 0, 1, 0, 0) := by decide +kernel
theorem mi_302_200 : mI 302 200 = (1, 1, 0, 0, 0) := by decide +kernel
theorem mi_302_201 : mI 302 201 = (10, 0, 1, 0, 0) := by decide +kernel
theorem mi_302_202 : mI 302 202 = (6, 0, 5, 1, 0) := by decide +kernel
theorem mi_302_204 : mI 302 204 = (3, 0, 5, 1, 0) := by decide +kernel
theorem mi_302_206 : mI 302 206 = (14, 129, 2, 335, 0) := by decide +kernel
theorem mi_302_209 : mI 302 209 = (1, 0, 0, 0, 0) := by decide +kernel
theorem mi_302_210 : mI 302 210 = (6, 0, 6, 1, 0) := by decide +kernel
theorem mi_302_212 : mI 302 212 = (3, 0, 6, 1, 0) := by decide +kernel
theorem mi_302_214 : mI 302 214 = (3, 0, 4, 1, 0) := by decide +kernel
theorem mi_302_216 : mI 302 216 = (15, 113, 4, 329, 0) := by decide +kernel
theorem mi_302_219 : mI 302 219 = (5, 0, 0, 0, 0) := by decide +kernel
theorem mi_302_220 : mI 302 220 = (17, 1234, 58, 11, 28) := by decide +kernel
theorem mi_302_223 : mI 302 223 = (1, 256, 2, 0, 0) := by decide +kernel
theorem mi_302_226 : mI 302 226 = (3, 0, 5, 1, 0) := by decide +kernel
theorem mi_302_228 : mI 302 228 = (10, 0, 2, 0, 0) := by decide +kernel
theorem mi_302_229 : mI 302 229 = (3, 0, 6, 1, 0) := by decide +kernel
theorem mi_302_231 : mI 302 231 = (10, 0, 0, 0, 0) := by decide +kernel
theorem mi_302_232 : mI 302 232 = (1, 1000000, 4, 313, 1581) := by decide +kernel
theorem mi_302_235 : mI 302 235 = (20, 0, 0, 0, 0) := by decide +kernel
theorem mi_302_236 : mI 302 236 = (1, 0, 0, 0, 0) := by decide +kernel
theorem mi_302_237 : mI 302 237 = (6, 0, 7, 1, 0) := by decide +kernel
theorem mi_302_239 : mI 302 239 = (3, 0, 7, 1, 0) := by decide +kernel
theorem mi_302_241 : mI 302 241 = (1, 64, 1, 0, 0) := by decide +kernel
theorem mi_302_243 : mI 302 243 = (15, 80, 3, 323, 0) := by decide +kernel
theorem mi_302_246 : mI 302 246 = (5, 0, 0, 0, 0) := by decide +kernel
theorem mi_302_247 : mI 302 247 = (17, 1232, 52, 11, 26) := by decide +kernel
theorem mi_302_250 : mI 302 250 = (3, 0, 7, 1, 0) := by decide +kernel
theorem mi_302_252 : mI 302 252 = (19, 0, 1, 0, 0) := by decide +kernel
theorem mi_302_253 : mI 302 253 = (14, 64, 0, 317, 0) := by decide +kernel
theorem mi_302_256 : mI 302 256 = (5, 0, 0, 0, 0) := by decide +kernel
theorem mi_302_257 : mI 302 257 = (17, 1234, 58, 11, 28) := by decide +kernel
theorem mi_302_260 : mI 302 260 = (1, 256, 2, 0, 0) := by decide +kernel
theorem mi_302_263 : mI 302 263 = (3, 0, 5, 1, 0) := by decide +kernel
theorem mi_302_265 : mI 302 265 = (10, 0, 2, 0, 0) := by decide +kernel
theorem mi_302_266 : mI 302 266 = (3, 0, 6, 1, 0) := by decide +kernel
theorem mi_302_268 : mI 302 268 = (10, 0, 0, 0, 0) := by decide +kernel
theorem mi_302_269 : mI 302 269 = (5, 0, 0, 0, 0) := by decide +kernel
theorem mi_302_270 : mI 302 270 = (17, 1234, 58, 11, 28) := by decide +kernel
theorem mi_302_273 : mI 302 273 = (1, 256, 2, 0, 0) := by decide +kernel
theorem mi_302_276 : mI 302 276 = (3, 0, 5, 1, 0) := by decide +kernel
theorem mi_302_278 : mI 302 278 = (10, 0, 2, 0, 0) := by decide +kernel
theorem mi_302_279 : mI 302 279 = (3, 0, 6, 1, 0) := by decide +kernel
theorem mi_302_281 : mI 302 281 = (10, 0, 0, 0, 0) := by decide +kernel
theorem mi_302_282 : mI 302 282 = (19, 0, 0, 0, 0) := by decide +kernel
theorem mi_302_283 : mI 302 283 = (3, 0, 7, 1, 0) := by decide +kernel
theorem mi_302_285 : mI 302 285 = (26, 1598, 317, 194, 1) := by decide +kernel
theorem mi_302_288 : mI 302 288 = (5, 0, 0, 0, 0) := by decide +kernel
theorem mi_302_289 : mI 302 289 = (17, 1234, 58, 11, 28) := by decide +kernel
theorem mi_302_292 : mI 302 292 = (1, 256, 2, 0, 0) := by decide +kernel
theorem mi_302_295 : mI 302 295 = (3, 0, 5, 1, 0) := by decide +kernel
theorem mi_302_297 : mI 302 297 = (1, 1, 0, 0, 0) := by decide +kernel
theorem mi_302_298 : mI 302 298 = (10, 0, 0, 0, 0) := by decide +kernel
theorem mi_302_299 : mI 302 299 = (10, 0, 2, 0, 0) := by decide +kernel
theorem mi_302_300 : mI 302 300 = (3, 0, 6, 1, 0) := by decide +kernel
theorem mi_302_302 : mI 302 302 = (5, 0, 0, 0, 0) := by decide +kernel
theorem mi_302_303 : mI 302 303 = (17, 1233, 55, 11, 27) := by decide +kernel
theorem mi_302_306 : mI 302 306 = (3, 0, 7, 1, 0) := by decide +kernel
theorem mi_302_308 : mI 302 308 = (19, 0, 0, 0, 0) := by decide +kernel
theorem mi_302_309 : mI 302 309 = (10, 0, 6, 0, 0) := by decide +kernel
theorem mi_302_310 : mI 302 310 = (10, 0, 0, 0, 0) := by decide +kernel
theorem mi_302_311 : mI 302 311 = (19, 0, 0, 0, 0) := by decide +kernel
theorem mi_302_312 : mI 302 312 = (10, 0, 0, 0, 0) := by decide +kernel
theorem mi_302_313 : mI 302 313 = (26, 1357, 127, 342, 1) := by decide +kernel
theorem mi_302_316 : mI 302 316 = (20, 0, 0, 0, 0) := by decide +kernel
theorem mi_302_317 : mI 302 317 = (9, 1, 7, 0, 0) := by decide +kernel
theorem mi_302_320 : mI 302 320 = (16, (-81), 0, 239, 0) := by decide +kernel
theorem mi_302_323 : mI 302 323 = (9, 1, 6, 0, 0) := by decide +kernel
theorem mi_302_326 : mI 302 326 = (16, (-114), 0, 212, 0) := by decide +kernel
theorem mi_302_329 : mI 302 329 = (9, (-1), 5, 0, 0) := by decide +kernel
theorem mi_302_332 : mI 302 332 = (16, (-128), 0, 204, 0) := by decide +kernel
theorem mi_302_335 : mI 302 335 = (27, 0, 2, 0, 0) := by decide +kernel
theorem mi_304_0 : mI 304 0 = (5, 0, 0, 0, 0) := by decide +kernel
theorem mi_304_1 : mI 304 1 = (3, 0, 1, 0, 0) := by decide +kernel
theorem mi_304_2 : mI 304 2 = (3, 0, 2, 0, 0) := by decide +kernel
theorem mi_304_3 : mI 304 3 = (3, 0, 3, 0, 0) := by decide +kernel
theorem mi_304_4 : mI 304 4 = (26, 1769, 382, 301, 0) := by decide +kernel
theorem mi_304_7 : mI 304 7 = (6, 0, 5, 1, 0) := by decide +kernel
theorem mi_304_9 : mI 304 9 = (3, 0, 5, 1, 0) := by decide +kernel
theorem mi_304_11 : mI 304 11 = (14, 6, 3, 17, 0) := by decide +kernel
theorem mi_304_14 : mI 304 14 = (3, 0, 5, 1, 0) := by decide +kernel
theorem mi_304_16 : mI 304 16 = (27, 0, 0, 0, 0) := by decide +kernel
theorem mi_304_17 : mI 304 17 = (5, 0, 0, 0, 0) := by decide +kernel
theorem mi_304_18 : mI 304 18 = (3, 0, 1, 0, 0) := by decide +kernel
theorem mi_304_19 : mI 304 19 = (3, 0, 2, 0, 0) := by decide +kernel
theorem mi_304_20 : mI 304 20 = (3, 0, 3, 0, 0) := by decide +kernel
theorem mi_304_21 : mI 304 21 = (26, 1782, 385, 302, 0) := by decide +kernel
theorem mi_304_24 : mI 304 24 = (5, 0, 0, 0, 0) := by decide +kernel
theorem mi_304_25 : mI 304 25 = (17, 1234, 58, 11, 28) := by decide +kernel
theorem mi_304_28 : mI 304 28 = (1, 0, 0, 0, 0) := by decide +kernel
theorem mi_304_29 : mI 304 29 = (19, 0, 0, 0, 0) := by decide +kernel
theorem mi_304_30 : mI 304 30 = (1, 1000000, 4, 313, 1581) := by decide +kernel
theorem mi_304_33 : mI 304 33 = (15, 17, 3, 50, 0) := by decide +kernel
theorem mi_304_36 : mI 304 36 = (3, 0, 4, 1, 0) := by decide +kernel
theorem mi_304_38 : mI 304 38 = (12, 0, 1, 0, 0) := by decide +kernel
theorem mi_304_39 : mI 304 39 = (2, 0, 0, 0, 0) := by decide +kernel
theorem mi_304_40 : mI 304 40 = (3, 0, 1, 0, 0) := by decide +kernel
theorem mi_304_41 : mI 304 41 = (1, 1, 0, 0, 0) := by decide +kernel
theorem mi_304_42 : mI 304 42 = (10, 0, 1, 0, 0) := by decide +kernel
theorem mi_304_43 : mI 304 43 = (12, 0, 1, 0, 0) := by decide +kernel
theorem mi_304_44 : mI 304 44 = (26, 1321, 85, 193, 1) := by decide +kernel
theorem mi_304_47 : mI 304 47 = (14, 5, 1, 52, 0) := by decide +kernel
theorem mi_304_50 : mI 304 50 = (1, (-1), 0, 0, 0) := by decide +kernel
theorem mi_304_51 : mI 304 51 = (27, 0, 0, 0, 0) := by decide +kernel
theorem mi_304_52 : mI 304 52 = (1, 0, 0, 0, 0) := by decide +kernel
theorem mi_304_53 : mI 304 53 = (6, 0, 6, 1, 0) := by decide +kernel
theorem mi_304_55 : mI 304 55 = (1, 0, 0, 0, 0) := by decide +kernel
theorem mi_304_56 : mI 304 56 = (6, 0, 7, 1, 0) := by decide +kernel
theorem mi_304_58 : mI 304 58 = (1, 0, 0, 0, 0) := by decide +kernel
theorem mi_304_59 : mI 304 59 = (6, 0, 8, 1, 0) := by decide +kernel
theorem mi_304_61 : mI 304 61 = (3, 0, 8, 1, 0) := by decide +kernel
theorem mi_304_63 : mI 304 63 = (3, 0, 4, 1, 0) := by decide +kernel
theorem mi_304_65 : mI 304 65 = (15, 87, 4, 152, 0) := by decide +kernel
theorem mi_304_68 : mI 304 68 = (1, 0, 0, 0, 0) := by decide +kernel
theorem mi_304_69 : mI 304 69 = (6, 0, 7, 1, 0) := by decide +kernel
theorem mi_304_71 : mI 304 71 = (5, 0, 0, 0, 0) := by decide +kernel
theorem mi_304_72 : mI 304 72 = (17, 1232, 52, 11, 26) := by decide +kernel
theorem mi_304_75 : mI 304 75 = (3, 0, 7, 1, 0) := by decide +kernel
theorem mi_304_77 : mI 304 77 = (19, 0, 1, 0, 0) := by decide +kernel
theorem mi_304_78 : mI 304 78 = (14, 50, 0, 128, 0) := by decide +kernel
theorem mi_304_81 : mI 304 81 = (3, 0, 7, 1, 0) := by decide +kernel
theorem mi_304_83 : mI 304 83 = (26, 1598, 317, 194, 1) := by decide +kernel
theorem mi_304_86 : mI 304 86 = (5, 0, 0, 0, 0) := by decide +kernel
theorem mi_304_87 : mI 304 87 = (17, 1234, 58, 11, 28) := by decide +kernel
theorem mi_304_90 : mI 304 90 = (1, 256, 2, 0, 0) := by decide +kernel
theorem mi_304_93 : mI 304 93 = (3, 0, 8, 1, 0) := by decide +kernel
theorem mi_304_95 : mI 304 95 = (1, 1, 0, 0, 0) := by decide +kernel
theorem mi_304_96 : mI 304 96 = (10, 0, 0, 0, 0) := by decide +kernel
theorem mi_304_97 : mI 304 97 = (10, 0, 2, 0, 0) := by decide +kernel
theorem mi_304_98 : mI 304 98 = (3, 0, 6, 1, 0) := by decide +kernel
theorem mi_304_100 : mI 304 100 = (5, 0, 0, 0, 0) := by decide +kernel
theorem mi_304_101 : mI 304 101 = (17, 1233, 55, 11, 27) := by decide +kernel
theorem mi_304_104 : mI 304 104 = (3, 0, 7, 1, 0) := by decide +kernel
theorem mi_304_106 : mI 304 106 = (19, 0, 0, 0, 0) := by decide +kernel
theorem mi_304_107 : mI 304 107 = (10, 0, 6, 0, 0) := by decide +kernel
theorem mi_304_108 : mI 304 108 = (10, 0, 0, 0, 0) := by decide +kernel
theorem mi_304_109 : mI 304 109 = (19, 0, 0, 0, 0) := by decide +kernel
theorem mi_304_110 : mI 304 110 = (10, 0, 0, 0, 0) := by decide +kernel
theorem mi_304_111 : mI 304 111 = (5, 0, 0, 0, 0) := by decide +kernel
theorem mi_304_112 : mI 304 112 = (17, 1234, 58, 11, 28) := by decide +kernel
theorem mi_304_115 : mI 304 115 = (1, 256, 2, 0, 0) := by decide +kernel
theorem mi_304_118 : mI 304 118 = (3, 0, 8, 1, 0) := by decide +kernel
theorem mi_304_120 : mI 304 120 = (10, 0, 2, 0, 0) := by decide +kernel
theorem mi_304_121 : mI 304 121 = (3, 0, 6, 1, 0) := by decide +kernel
theorem mi_304_123 : mI 304 123 = (10, 0, 0, 0, 0) := by decide +kernel
theorem mi_304_124 : mI 304 124 = (19, 0, 0, 0, 0) := by decide +kernel
theorem mi_304_125 : mI 304 125 = (15, 9, 0, 134, 0) := by decide +kernel
theorem mi_304_128 : mI 304 128 = (9, 1, 7, 0, 0) := by decide +kernel
theorem mi_304_131 : mI 304 131 = (16, (-60), 0, 71, 0) := by decide +kernel
theorem mi_304_134 : mI 304 134 = (3, 0, 6, 1, 0) := by decide +kernel
theorem mi_304_136 : mI 304 136 = (5, 0, 0, 0, 0) := by decide +kernel
theorem mi_304_137 : mI 304 137 = (17, 1233, 55, 11, 27) := by decide +kernel
theorem mi_304_140 : mI 304 140 = (3, 0, 7, 1, 0) := by decide +kernel
theorem mi_304_142 : mI 304 142 = (19, 0, 0, 0, 0) := by decide +kernel
theorem mi_304_143 : mI 304 143 = (10, 0, 6, 0, 0) := by decide +kernel
theorem mi_304_144 : mI 304 144 = (6, 0, 6, 1, 0) := by decide +kernel
theorem mi_304_146 : mI 304 146 = (9, 1, 8, 0, 0) := by decide +kernel
theorem mi_304_149 : mI 304 149 = (16, (-88), 0, 61, 0) := by decide +kernel
theorem mi_304_152 : mI 304 152 = (3, 0, 7, 1, 0) := by decide +kernel
theorem mi_304_154 : mI 304 154 = (27, 0, 0, 0, 0) := by decide +kernel
noncomputable def Bt (g : Nat) : Int := ((List.range 6).filter (fun k => g.testBit k)).length
noncomputable def bq (g i : Nat) : Int := if g.testBit i then 1 else 0
theorem bq_nat : (List.range 64).all (fun g => (List.range 13).all (fun i => Nat.beq (g >>> i &&& 1) (bif g.testBit i then 1 else 0))) = true := by decide +kernel
theorem bq_k {g i : Nat} (h : g < 64) (hi : i < 13) : ibF 5 (ibF 9 (Int32.ofInt (g : Int)) (Int32.ofInt (i : Int))) (Int32.ofInt 1) = Int32.ofInt (bq g i) := by
  rw [kb59 (a := g) (i := i) (by omega) (by omega), Nat.eq_of_beq_eq_true (kal2 bq_nat h hi)]
  unfold bq
  cases g.testBit i <;> rfl
noncomputable def bqS (g : Nat) : Nat → Int
  | 0 => 0
  | i + 1 => bqS g i + bq g i
theorem bqA {g i : Nat} : ibF 0 (Int32.ofInt (bqS g i)) (Int32.ofInt (bq g i)) = Int32.ofInt (bqS g (i + 1)) := by
  show Int32.ofInt (bqS g i) + Int32.ofInt (bq g i) = Int32.ofInt (bqS g i + bq g i)
  rw [← Int32.ofInt_add]
theorem bqS_all : (List.range 64).all (fun g => decide (bqS g 13 = Bt g)) = true := by decide +kernel
theorem mi_194_0 : mI 194 0 = (1, 0, 0, 0, 0) := by decide +kernel
theorem mi_194_1 : mI 194 1 = (6, 0, 1, 0, 0) := by decide +kernel
theorem mi_194_2 : mI 194 2 = (1, 0, 0, 0, 0) := by decide +kernel
theorem mi_194_3 : mI 194 3 = (6, 0, 2, 0, 0) := by decide +kernel
theorem mi_194_4 : mI 194 4 = (3, 0, 2, 0, 0) := by decide +kernel
theorem mi_194_5 : mI 194 5 = (1, 13, 1, 0, 0) := by decide +kernel
theorem mi_194_7 : mI 194 7 = (15, 17, 3, 24, 0) := by decide +kernel
theorem mi_194_10 : mI 194 10 = (3, 0, 1, 0, 0) := by decide +kernel
theorem mi_194_11 : mI 194 11 = (3, 0, 0, 0, 0) := by decide +kernel
theorem mi_194_12 : mI 194 12 = (3, 0, 2, 0, 0) := by decide +kernel
theorem mi_194_13 : mI 194 13 = (10, 0, 9, 0, 0) := by decide +kernel
theorem mi_194_14 : mI 194 14 = (1, 1, 0, 0, 0) := by decide +kernel
theorem mi_194_15 : mI 194 15 = (10, 0, 5, 0, 0) := by decide +kernel
theorem mi_194_16 : mI 194 16 = (10, 0, 0, 0, 0) := by decide +kernel
theorem mi_194_17 : mI 194 17 = (6, 0, 1, 0, 0) := by decide +kernel
theorem mi_194_18 : mI 194 18 = (9, 1, 2, 0, 0) := by decide +kernel
theorem mi_194_21 : mI 194 21 = (16, (-17), 0, 4, 0) := by decide +kernel
theorem mi_194_24 : mI 194 24 = (3, 0, 1, 0, 0) := by decide +kernel
theorem mi_194_25 : mI 194 25 = (27, 0, 0, 0, 0) := by decide +kernel
section GIV
variable {l : Launch} {D : va_G} {tys : List (ClassId × FieldType)} {A : Nat → Prop} {ad : Nat → Nat}
theorem Bt_ge (g : Nat) : 0 ≤ Bt g := Int.natCast_nonneg _
theorem bitsL {g : Nat} (h : g < 64) {ws : va_W} {post : Option Value → va_W → Prop} : ∀ (m i : Nat), i + m = 13 → post (some (.int (Int32.ofInt (bqS g 13)))) ws → V l D tys A 194 0 0 0 post 0 0 4 [(0, .int (Int32.ofInt (g : Int))), (1, .int (Int32.ofInt (bqS g i))), (2, .int (Int32.ofInt (i : Int)))] [] ws
  | 0, i, hm, kk => by
    have e : i = 13 := by omega
    have hc := cdP_iff (x := 3) (a := (i : Int)) (b := 13) (by omega) (by omega) (by omega) (by omega)
    refine V_iload (v := Int32.ofInt (i : Int)) mi_194_4 (by simp) ?_
    refine V_ipush mi_194_5 ?_
    refine V_icmp mi_194_7 (fun _ => ?_) (fun q => absurd (hc.mpr (show 0 ≤ (i : Int) - 13 by omega)) q)
    rw [e]
    refine V_iload (v := Int32.ofInt (bqS g 13)) mi_194_24 (by simp) ?_
    exact V_retI mi_194_25 (fun h => absurd h (by decide +kernel)) kk
  | m + 1, i, hm, kk => by
    have hc := cdP_iff (x := 3) (a := (i : Int)) (b := 13) (by omega) (by omega) (by omega) (by omega)
    refine V_iload (v := Int32.ofInt (i : Int)) mi_194_4 (by simp) ?_
    refine V_ipush mi_194_5 ?_
    refine V_icmp mi_194_7 (fun q => ?_) (fun _ => ?_)
    · have q1 : 0 ≤ (i : Int) - 13 := hc.mp q
      exact absurd q1 (by omega)
    refine V_iload (v := Int32.ofInt (bqS g i)) mi_194_10 (by simp) ?_
    refine V_iload (v := Int32.ofInt (g : Int)) mi_194_11 (by simp) ?_
    refine V_iload (v := Int32.ofInt (i : Int)) mi_194_12 (by simp) ?_
    refine V_ibin mi_194_13 (by omega) ?_
    refine V_ipush mi_194_14 ?_
    refine V_ibin mi_194_15 (by omega) ?_
    rw [bq_k h (show i < 13 by omega)]
    refine V_ibin mi_194_16 (by omega) ?_
    rw [bqA]
    refine V_istore mi_194_17 ?_
    refine V_iinc (v := Int32.ofInt (i : Int)) mi_194_18 (by simp [stL, lv_args, Value.category]) ?_
    rw [← Int32.ofInt_add, show (i : Int) + 1 = ((i + 1 : Nat) : Int) by omega]
    refine V_goto mi_194_21 ?_
    refine V_sub (lv' := [(0, .int (Int32.ofInt (g : Int))), (1, .int (Int32.ofInt (bqS g (i + 1)))), (2, .int (Int32.ofInt ((i + 1 : Nat) : Int)))]) (fun q hq => ?_) ?_
    · simp only [List.mem_cons, List.not_mem_nil, or_false] at hq
      rcases hq with rfl | rfl | rfl <;> simp [stL, lv_args, Value.category]
    exact bitsL h m (i + 1) (by omega) kk
theorem bits_ct (hAD : ∀ i : Nat, ad (1000 + i) = D.2 1000 i) {g : Nat} (h : g < 64) {ws : va_W} (hG : GOK ad tys GG ws) : CT l D tys A 194 0 0 0 [.int (Int32.ofInt g)] ws (fun r w => GOK ad tys GG w ∧ FRm [] ws w ∧ r = some (.int (Int32.ofInt (Bt g)))) := by
  refine CT_of_V (by omega) (show (1 : Nat) ≤ mML 194 by decide +kernel) ?_
  refine V_ipush mi_194_0 ?_
  refine V_istore mi_194_1 ?_
  refine V_ipush mi_194_2 ?_
  refine V_istore mi_194_3 ?_
  refine V_sub (lv' := [(0, .int (Int32.ofInt (g : Int))), (1, .int (Int32.ofInt 0)), (2, .int (Int32.ofInt ((0 : Nat) : Int)))]) (fun q hq => ?_) ?_
  · simp only [List.mem_cons, List.not_mem_nil, or_false] at hq
    rcases hq with rfl | rfl | rfl <;> simp [stL, lv_args, Value.category]
  have e : bqS g 13 = Bt g := of_decide_eq_true (List.all_eq_true.mp bqS_all g (List.mem_range.mpr h))
  exact bitsL h 13 0 (by omega) ⟨hG, FRm_rf, by rw [e]⟩
end GIV
section RDR
variable {l : Launch} {D : va_G} {tys : List (ClassId × FieldType)} {A : Nat → Prop} {ad : Nat → Nat} {ws : va_W} {k d mc ms : Nat} {post : Option Value → va_W → Prop} {cells slots pc : Nat} {lv : List (Nat × Value)} {st : List Value} {a : Int} {x y z : Nat}
theorem idx_in {j n : Nat} (hj : j < n) (hn : n ≤ 100000) : vp_in (Int32.ofInt j) n ∧ (Int32.ofInt j).toNatClampNeg = j := by
  have e : (Int32.ofInt (j : Int)).toInt = (j : Int) := Int32.toInt_ofInt_of_le (by omega) (by omega)
  refine ⟨vp_in_iff.mpr (by rw [e]; omega), ?_⟩
  show (Int32.ofInt (j : Int)).toInt.toNat = j
  rw [e]; rfl
theorem arr_of {c ty n : Nat} {segs : List SG} (hG : GOK ad tys GG ws) (hg : GG[c]? = some ((1, ty, n), segs)) : ∃ (cA : ClassId) (f : Nat → Int32), ws[c]? = some (ad c, .inl (cA, n, .inl f)) ∧ tys[ty]? = some (cA, ftyp ty) := by
  obtain ⟨e, b1, b2, b3⟩ := hG c _ hg
  obtain ⟨cA, f, rfl, c1, -⟩ := b2
  exact ⟨cA, f, b1, c1⟩
theorem rd_arr {c j b n : Nat} {cA : ClassId} {f : Nat → Int32} (he : ws[c]? = some (b, .inl (cA, n, .inl f))) (hj : j < n) : rd ws c j = some (.int (f j)) := by
  rw [rd_at he]
  show (if j < n then _ else _) = _
  rw [if_pos hj]
theorem V_aldR {c n j : Nat} {segs : List SG} {v : Int32} (hi : mI k pc = (19, 0, 0, 0, 0)) (hG : GOK ad tys GG ws) (hg : GG[c]? = some ((1, 0, n), segs)) (hj : j < n) (hn : n ≤ 100000) (hx : rd ws c j = some (.int v)) (kk : V l D tys A k d mc ms post cells slots (pc + 1) lv (.int v :: st) ws) : V l D tys A k d mc ms post cells slots pc lv (.int (Int32.ofInt j) :: .ref (ad c) :: st) ws := by
  obtain ⟨cA, f, h1, h2⟩ := arr_of hG hg
  refine V_iald hi h1 h2 (idx_in hj hn).1 ?_
  rw [(idx_in hj hn).2]
  rw [rd_arr h1 hj] at hx
  cases hx
  exact kk
theorem V_getR {c i : Nat} (hi : mI k pc = (17, a, x, 11, i)) (hs : ∃ g, GG[90]? = some ((0, 11, 36), g) ∧ segAt g i = some (2, (c : Int), (c : Int))) (hi2 : i < 36) (hG : GOK ad tys GG ws) (kk : V l D tys A k d mc ms post cells slots (pc + 3) lv (.ref (ad c) :: st) ws) : V l D tys A k d mc ms post cells slots pc lv (.ref (ad 90) :: st) ws := by
  obtain ⟨g, hg, hs⟩ := hs
  obtain ⟨e, a1, a2, a3⟩ := hG 90 _ hg
  obtain ⟨fs, rfl, hl⟩ := a2
  have hv : fs[i]? = some fs[i] := List.getElem?_eq_getElem (by omega)
  obtain ⟨sp, q1, q2⟩ := a3 i _ hv
  rw [hs] at q1
  cases q1
  have q2 : fs[i] = .ref (ad ((c : Int).toNat)) := q2
  rw [Int.toNat_natCast] at q2
  rw [q2] at hv
  exact V_get hi a1 hv kk
theorem V_astR {c n j : Nat} {lo hi : Int} {segs : List SG} {v : Int32} (hi0 : mI k pc = (20, a, 0, y, z)) (hG : GOK ad tys GG ws) (hg : GG[c]? = some ((1, 0, n), segs)) (hj : j < n) (hn : n ≤ 100000) (hs : segAt segs j = some (0, lo, hi)) (h1 : lo ≤ v.toInt) (h2 : v.toInt ≤ hi) (kk : ∀ w : va_W, GOK ad tys GG w → Upd1 ws w c j (.int v) → V l D tys A k d mc ms post cells slots (pc + 1) lv st w) : V l D tys A k d mc ms post cells slots pc lv (.int v :: .int (Int32.ofInt j) :: .ref (ad c) :: st) ws := by
  obtain ⟨cA, f, q1, q2⟩ := arr_of hG hg
  refine V_iast hi0 q1 q2 (idx_in hj hn).1 ?_
  rw [(idx_in hj hn).2]
  have hu := GOK_upd (j := j) (v := .int v) (e' := .inl (cA, n, .inl (upd f j v))) hG hg q1 ⟨cA, _, rfl, q2, by omega⟩ (fun j' => by
    show (if j' < n then some (Value.int (upd f j v j')) else none) = if j' = j then some (Value.int v) else if j' < n then some (Value.int (f j')) else none
    unfold upd
    by_cases h : j' = j
    · subst h; simp [hj]
    · simp [h]) hs ⟨v.toInt, by rw [Int32.ofInt_toInt], h1, h2⟩
  exact kk _ hu.1 hu.2
theorem min_ct (a b : Int32) (ws : va_W) : CT l D tys A 342 0 0 0 [.int a, .int b] ws (fun r w => w = ws ∧ (r = some (.int a) ∨ cdP 4 a b ∧ r = some (.int b))) := by
  refine CT_of_V (by omega) (show (2 : Nat) ≤ mML 342 by decide +kernel) ?_
  refine V_iload (v := a) mi_342_0 (List.Mem.head _) ?_
  refine V_iload (v := b) mi_342_1 (List.Mem.tail _ (List.Mem.head _)) ?_
  refine V_icmp mi_342_2 (fun h4 => ?_) (fun _ => ?_)
  · refine V_iload (v := b) mi_342_9 (List.Mem.tail _ (List.Mem.head _)) ?_
    exact V_retI mi_342_10 (fun h => absurd h (by decide +kernel)) ⟨rfl, Or.inr ⟨h4, rfl⟩⟩
  · refine V_iload (v := a) mi_342_5 (List.Mem.head _) ?_
    refine V_goto mi_342_6 ?_
    exact V_retI mi_342_10 (fun h => absurd h (by decide +kernel)) ⟨rfl, Or.inl rfl⟩
end RDR
theorem or_nat {s b : Nat} : ibF 6 (Int32.ofInt s) (Int32.ofInt b) = Int32.ofInt ((s ||| b : Nat) : Int) := by
  show Int32.ofInt s ||| Int32.ofInt b = _
  apply Int32.toBitVec_inj.mp
  rw [Int32.toBitVec_or]
  show BitVec.ofInt 32 s ||| BitVec.ofInt 32 b = BitVec.ofInt 32 _
  rw [BitVec.ofInt_natCast, BitVec.ofInt_natCast, BitVec.ofInt_natCast]
  apply BitVec.eq_of_toNat_eq
  rw [BitVec.toNat_or, BitVec.toNat_ofNat, BitVec.toNat_ofNat, BitVec.toNat_ofNat, Nat.or_mod_two_pow]
theorem add_z {i j : Int} : ibF 0 (Int32.ofInt i) (Int32.ofInt j) = Int32.ofInt (i + j) := by
  show Int32.ofInt i + Int32.ofInt j = _
  rw [← Int32.ofInt_add]
/-- every gift's lacks lie within the first m foes -/
noncomputable def GVL (w : va_W) (m : Nat) : Prop := ∀ g : Nat, g < 64 → (∃ b : Nat, b < 2 ^ m ∧ rd w 103 g = some (.int (Int32.ofInt b))) ∧ ∃ x : Int32, rd w 102 g = some (.int x)
/-- what is left at row k, set s: FAR, or what a gift gives with what is left at the next row -/
noncomputable def PC (w : va_W) (k s : Nat) : Prop := ∃ p : Int, rd w 104 (256 * k + s) = some (.int (Int32.ofInt p)) ∧ 0 ≤ p ∧ p ≤ 1000000 ∧ (p = 1000000 ∨ ∃ (g b : Nat) (x : Int32) (v : Int), g < 64 ∧ rd w 102 g = some (.int x) ∧ x ≠ 0 ∧ rd w 103 g = some (.int (Int32.ofInt b)) ∧ rd w 104 (256 * (k + 1) + (s ||| b)) = some (.int (Int32.ofInt v)) ∧ p = Bt g + v)
theorem GVL_upd {w w' : va_W} {m j : Nat} {v : Value} (h : GVL w m) (hu : Upd1 w w' 104 j v) : GVL w' m := by
  intro g hg
  rw [hu 103 g, hu 102 g, if_neg (by omega), if_neg (by omega)]
  exact h g hg
theorem GVL_frm {w w' : va_W} {m : Nat} (h : GVL w m) (hu : FRm [] w w') : GVL w' m := by
  intro g hg
  rw [hu.1 103 (by simp) g, hu.1 102 (by simp) g]
  exact h g hg
theorem PC_frm {w w' : va_W} {k s : Nat} (h : PC w k s) (hu : FRm [] w w') : PC w' k s := by
  unfold PC at h ⊢
  simp only [hu.1 103 (by simp), hu.1 102 (by simp), hu.1 104 (by simp)]
  exact h
theorem PC_upd {w w' : va_W} {k s i s2 : Nat} {v : Value} (h : PC w k s) (hu : Upd1 w w' 104 (256 * i + s2) v) (hs : s < 256) (hs2 : s2 < 256) (hk : i < k ∨ i = k ∧ s ≠ s2) : PC w' k s := by
  obtain ⟨p, h1, h2, h3, h4⟩ := h
  refine ⟨p, ?_, h2, h3, ?_⟩
  · rw [hu, if_neg (by omega)]; exact h1
  · rcases h4 with h4 | ⟨g, b, x, u, q1, q2, q3, q4, q5, q6⟩
    · exact Or.inl h4
    · refine Or.inr ⟨g, b, x, u, q1, ?_, q3, ?_, ?_, q6⟩
      · rw [hu, if_neg (by omega)]; exact q2
      · rw [hu, if_neg (by omega)]; exact q4
      · rw [hu, if_neg (by omega)]; exact q5
noncomputable def PB (w : va_W) (k s : Nat) : Prop := ∃ p : Int, rd w 104 (256 * k + s) = some (.int (Int32.ofInt p)) ∧ 0 ≤ p ∧ p ≤ 1000000
theorem PB_upd {w w' : va_W} {k s i s2 : Nat} {v : Value} (h : PB w k s) (hu : Upd1 w w' 104 (256 * i + s2) v) (hs : s < 256) (hs2 : s2 < 256) (hk : i < k ∨ i = k ∧ s ≠ s2) : PB w' k s := by
  obtain ⟨p, h1, h2, h3⟩ := h
  refine ⟨p, ?_, h2, h3⟩
  rw [hu, if_neg (by omega)]; exact h1
theorem PB_frm {w w' : va_W} {k s : Nat} (h : PB w k s) (hu : FRm [] w w') : PB w' k s := by
  unfold PB at h ⊢
  simp only [hu.1 104 (by simp)]
  exact h
theorem PC_PB {w : va_W} {k s : Nat} (h : PC w k s) : PB w k s := by
  obtain ⟨p, h1, h2, h3, -⟩ := h
  exact ⟨p, h1, h2, h3⟩
noncomputable def INV (ad : Nat → Nat) (tys : List (ClassId × FieldType)) (w0 w : va_W) (N m i s : Nat) : Prop := GOK ad tys GG w ∧ FRm [102, 103, 104] w0 w ∧ GVL w m ∧ (∀ k t, i < k → k < N → t < 2 ^ m → PC w k t) ∧ (∀ t, t < 2 ^ m → PB w N t) ∧ (∀ t, t < s → PC w i t)
theorem INV_frm {ad : Nat → Nat} {tys : List (ClassId × FieldType)} {w0 w w' : va_W} {N m i s : Nat} (h : INV ad tys w0 w N m i s) (hG : GOK ad tys GG w') (hf : FRm [] w w') : INV ad tys w0 w' N m i s := ⟨hG, FRm_tr h.2.1 hf (fun _ q => absurd q (by simp)), GVL_frm h.2.2.1 hf, fun k t a b c => PC_frm (h.2.2.2.1 k t a b c) hf, fun t a => PB_frm (h.2.2.2.2.1 t a) hf, fun t a => PC_frm (h.2.2.2.2.2 t a) hf⟩
theorem INV_upd {ad : Nat → Nat} {tys : List (ClassId × FieldType)} {w0 w w' : va_W} {N m i s : Nat} {v : Value} (h : INV ad tys w0 w N m i s) (hG : GOK ad tys GG w') (hu : Upd1 w w' 104 (256 * i + s) v) (hm : 2 ^ m ≤ 256) (hi : i < N) (hs : s < 2 ^ m) : INV ad tys w0 w' N m i s := ⟨hG, FRm_upd h.2.1 hu (by simp) (by unfold mnC; omega), GVL_upd h.2.2.1 hu, fun k t a b c => PC_upd (h.2.2.2.1 k t a b c) hu (by omega) (by omega) (Or.inl a), fun t a => PB_upd (h.2.2.2.2.1 t a) hu (by omega) (by omega) (Or.inl hi), fun t a => PC_upd (h.2.2.2.2.2 t a) hu (by omega) (by omega) (Or.inr ⟨rfl, by omega⟩)⟩
section GIV2
variable {l : Launch} {D : va_G} {tys : List (ClassId × FieldType)} {A : Nat → Prop} {ad : Nat → Nat} {ws : va_W} {k d mc ms : Nat} {post : Option Value → va_W → Prop} {cells slots pc : Nat} {lv : List (Nat × Value)} {st : List Value} {a : Int} {x y z : Nat}
theorem mul_z {i j : Int} : ibF 2 (Int32.ofInt i) (Int32.ofInt j) = Int32.ofInt (i * j) := by
  show Int32.ofInt i * Int32.ofInt j = _
  rw [← Int32.ofInt_mul]
theorem ofN {i : Int} {j : Nat} (h : i = (j : Int)) : Int32.ofInt i = Int32.ofInt (j : Int) := by rw [h]
theorem V_aldX {c n j : Nat} {segs : List SG} {v ix : Int32} (hi : mI k pc = (19, 0, 0, 0, 0)) (hix : ix = Int32.ofInt (j : Int)) (hG : GOK ad tys GG ws) (hg : GG[c]? = some ((1, 0, n), segs)) (hj : j < n) (hn : n ≤ 100000) (hx : rd ws c j = some (.int v)) (kk : V l D tys A k d mc ms post cells slots (pc + 1) lv (.int v :: st) ws) : V l D tys A k d mc ms post cells slots pc lv (.int ix :: .ref (ad c) :: st) ws := by
  subst hix
  exact V_aldR hi hG hg hj hn hx kk
theorem V_astX {c n j : Nat} {lo hi : Int} {segs : List SG} {v ix : Int32} (hi0 : mI k pc = (20, a, 0, y, z)) (hix : ix = Int32.ofInt (j : Int)) (hG : GOK ad tys GG ws) (hg : GG[c]? = some ((1, 0, n), segs)) (hj : j < n) (hn : n ≤ 100000) (hs : segAt segs j = some (0, lo, hi)) (h1 : lo ≤ v.toInt) (h2 : v.toInt ≤ hi) (kk : ∀ w : va_W, GOK ad tys GG w → Upd1 ws w c j (.int v) → V l D tys A k d mc ms post cells slots (pc + 1) lv st w) : V l D tys A k d mc ms post cells slots pc lv (.int v :: .int ix :: .ref (ad c) :: st) ws := by
  subst hix
  exact V_astR hi0 hG hg hj hn hs h1 h2 kk
theorem V_zldR {c n j : Nat} {segs : List SG} {v : Int32} (hi : mI k pc = (19, 0, 1, 0, 0)) (hG : GOK ad tys GG ws) (hg : GG[c]? = some ((1, 2, n), segs)) (hj : j < n) (hn : n ≤ 100000) (hx : rd ws c j = some (.int v)) (kk : V l D tys A k d mc ms post cells slots (pc + 1) lv (.int v :: st) ws) : V l D tys A k d mc ms post cells slots pc lv (.int (Int32.ofInt j) :: .ref (ad c) :: st) ws := by
  obtain ⟨cA, f, h1, h2⟩ := arr_of hG hg
  refine V_zald hi h1 h2 (idx_in hj hn).1 ?_
  rw [(idx_in hj hn).2]
  rw [rd_arr h1 hj] at hx
  cases hx
  exact kk
theorem gf26 : ∃ g, GG[90]? = some ((0, 11, 36), g) ∧ segAt g 26 = some (2, ((102 : Nat) : Int), ((102 : Nat) : Int)) := ⟨_, rfl, by decide +kernel⟩
theorem gf27 : ∃ g, GG[90]? = some ((0, 11, 36), g) ∧ segAt g 27 = some (2, ((103 : Nat) : Int), ((103 : Nat) : Int)) := ⟨_, rfl, by decide +kernel⟩
theorem gf28 : ∃ g, GG[90]? = some ((0, 11, 36), g) ∧ segAt g 28 = some (2, ((104 : Nat) : Int), ((104 : Nat) : Int)) := ⟨_, rfl, by decide +kernel⟩
theorem gc102 : ∃ s, GG[102]? = some ((1, 2, 64), s) := ⟨_, rfl⟩
theorem gc103 : ∃ s, GG[103]? = some ((1, 0, 64), s) := ⟨_, rfl⟩
theorem gc104 : ∃ s, GG[104]? = some ((1, 0, 1792), s) ∧ ∀ j, j < 1792 → segAt s j = some (0, -2147483648, 2147483647) := by
  refine ⟨_, rfl, fun j hj => ?_⟩
  show (bif Nat.blt j 1792 then some _ else _) = _
  rw [show Nat.blt j 1792 = true from Nat.blt_eq.mpr hj]
  rfl
end GIV2
section GIV3
variable {l : Launch} {D : va_G} {tys : List (ClassId × FieldType)} {A : Nat → Prop} {ad : Nat → Nat} {d : Nat} {post : Option Value → va_W → Prop}
noncomputable def LF6 (ad : Nat → Nat) (n fr fo al : Int32) (i s : Nat) : List (Nat × Value) := [(0, .ref (ad 90)), (1, .int n), (2, .int fr), (3, .int fo), (4, .int al), (5, .int (Int32.ofInt i)), (6, .int (Int32.ofInt s))]
noncomputable def LF7 (ad : Nat → Nat) (n fr fo al : Int32) (i s g : Nat) : List (Nat × Value) := [(0, .ref (ad 90)), (1, .int n), (2, .int fr), (3, .int fo), (4, .int al), (5, .int (Int32.ofInt i)), (6, .int (Int32.ofInt s)), (7, .int (Int32.ofInt g))]
theorem fg_in (hAD : ∀ i : Nat, ad (1000 + i) = D.2 1000 i) (hd : 0 < d) {w0 : va_W} {n fr fo al : Int32} {N m i s : Nat} (hm : 2 ^ m ≤ 256) (hi : i < N) (hN : N ≤ 6) (hs : s < 2 ^ m) (k323 : ∀ w, INV ad tys w0 w N m i s → PC w i s → V l D tys A 302 d 0 0 post 0 0 323 (LF6 ad n fr fo al i s) [] w) : ∀ (f g : Nat) (w : va_W), 64 - g < f → g ≤ 64 → INV ad tys w0 w N m i s → PC w i s → V l D tys A 302 d 0 0 post 0 0 239 (LF7 ad n fr fo al i s g) [] w
  | 0, g, w, h, _, _, _ => by omega
  | f + 1, g, w, h, hg, hI, hP => by
    have m0 : (0, Value.ref (ad 90)) ∈ LF7 ad n fr fo al i s g := by simp [LF7]
    have m5 : (5, Value.int (Int32.ofInt i)) ∈ LF7 ad n fr fo al i s g := by simp [LF7]
    have m6 : (6, Value.int (Int32.ofInt s)) ∈ LF7 ad n fr fo al i s g := by simp [LF7]
    have m7 : (7, Value.int (Int32.ofInt g)) ∈ LF7 ad n fr fo al i s g := by simp [LF7]
    refine V_iload (v := Int32.ofInt g) mi_302_239 m7 ?_
    refine V_ipush mi_302_241 ?_
    have hc := cdP_iff (x := 3) (a := (g : Int)) (b := 64) (by omega) (by omega) (by omega) (by omega)
    refine V_icmp mi_302_243 (fun _ => ?_) (fun hlt => ?_)
    · refine V_sub (lv' := LF6 ad n fr fo al i s) (fun q hq => ?_) (k323 w hI hP)
      simp only [LF6, LF7, List.mem_cons, List.not_mem_nil, or_false] at hq ⊢
      rcases hq with h | h | h | h | h | h | h <;> simp [h]
    have hg : g < 64 := by
      have : ¬ (0 ≤ (g : Int) - 64) := fun q => hlt (hc.mpr q)
      omega
    have h317 : ∀ w', INV ad tys w0 w' N m i s → PC w' i s → V l D tys A 302 d 0 0 post 0 0 317 (LF7 ad n fr fo al i s g) [] w' := by
      intro w' i1 i2
      refine V_iinc (v := Int32.ofInt g) mi_302_317 m7 ?_
      refine V_goto mi_302_320 ?_
      refine V_sub (lv' := LF7 ad n fr fo al i s (g + 1)) (fun q hq => ?_) (fg_in hAD hd hm hi hN hs k323 f (g + 1) w' (by omega) (by omega) i1 i2)
      simp only [LF7, List.mem_cons, List.not_mem_nil, or_false] at hq
      rcases hq with h | h | h | h | h | h | h | h <;> simp [h, LF7, stL, Value.category, Int32.ofInt_add]
    obtain ⟨s2, e102⟩ := gc102
    obtain ⟨s3, e103⟩ := gc103
    obtain ⟨s4, e104, f104⟩ := gc104
    obtain ⟨⟨b, b1, b2⟩, x, x1⟩ := hI.2.2.1 g hg
    obtain ⟨p, p1, p2, p3, p4⟩ := hP
    refine V_aload (v := ad 90) mi_302_246 m0 ?_
    refine V_getR mi_302_247 gf26 (by omega) hI.1 ?_
    refine V_iload (v := Int32.ofInt g) mi_302_250 m7 ?_
    refine V_zldR mi_302_252 hI.1 e102 hg (by omega) x1 ?_
    refine V_if mi_302_253 (fun _ => h317 w hI ⟨p, p1, p2, p3, p4⟩) (fun hx0 => ?_)
    have hx0 : x ≠ 0 := hx0
    refine V_aload (v := ad 90) mi_302_256 m0 ?_
    refine V_getR mi_302_257 gf28 (by omega) hI.1 ?_
    refine V_ipush mi_302_260 ?_
    refine V_iload (v := Int32.ofInt i) mi_302_263 m5 ?_
    refine V_ibin mi_302_265 (by omega) ?_
    refine V_iload (v := Int32.ofInt s) mi_302_266 m6 ?_
    refine V_ibin mi_302_268 (by omega) ?_
    refine V_aload (v := ad 90) mi_302_269 m0 ?_
    refine V_getR mi_302_270 gf28 (by omega) hI.1 ?_
    refine V_ipush mi_302_273 ?_
    refine V_iload (v := Int32.ofInt i) mi_302_276 m5 ?_
    refine V_ibin mi_302_278 (by omega) ?_
    refine V_iload (v := Int32.ofInt s) mi_302_279 m6 ?_
    refine V_ibin mi_302_281 (by omega) ?_
    have ei : ibF 0 (ibF 2 (Int32.ofInt 256) (Int32.ofInt (i : Int))) (Int32.ofInt (s : Int)) = Int32.ofInt ((256 * i + s : Nat) : Int) := by rw [mul_z, add_z]; exact ofN (by omega)
    refine V_aldX (j := 256 * i + s) mi_302_282 ei hI.1 e104 (by omega) (by omega) p1 ?_
    refine V_iload (v := Int32.ofInt g) mi_302_283 m7 ?_
    refine V_stat (As := [.int (Int32.ofInt g)]) (st := [.int (Int32.ofInt p), .int (ibF 0 (ibF 2 (Int32.ofInt 256) (Int32.ofInt (i : Int))) (Int32.ofInt (s : Int))), .ref (ad 104)]) mi_302_285 (by omega) (bits_ct hAD hg hI.1) hd (show 1 = mN 194 by decide +kernel) (by simp [Value.category]) ⟨Nat.le_refl _, Nat.le_refl _⟩ ?_
    rintro r1 w1 ⟨G1, F1, rfl⟩
    have hI1 := INV_frm hI G1 F1
    have b2 : rd w1 103 g = some (.int (Int32.ofInt b)) := by rw [F1.1 103 (by simp) g]; exact b2
    have x1 : rd w1 102 g = some (.int x) := by rw [F1.1 102 (by simp) g]; exact x1
    have hor : s ||| b < 2 ^ m := Nat.or_lt_two_pow hs b1
    have hn : PB w1 (i + 1) (s ||| b) := by
      by_cases h6 : i + 1 = N
      · rw [h6]; exact hI1.2.2.2.2.1 _ hor
      · exact PC_PB (hI1.2.2.2.1 (i + 1) _ (by omega) (by omega) hor)
    obtain ⟨v, v1, v2, v3⟩ := hn
    have bt0 := Bt_ge g
    have bt1 : Bt g ≤ 6 := by
      have q := List.length_filter_le (fun k => g.testBit k) (List.range 6)
      rw [List.length_range] at q
      show ((_ : Nat) : Int) ≤ 6
      omega
    refine V_aload (v := ad 90) mi_302_288 m0 ?_
    refine V_getR mi_302_289 gf28 (by omega) hI1.1 ?_
    refine V_ipush mi_302_292 ?_
    refine V_iload (v := Int32.ofInt i) mi_302_295 m5 ?_
    refine V_ipush mi_302_297 ?_
    refine V_ibin mi_302_298 (by omega) ?_
    refine V_ibin mi_302_299 (by omega) ?_
    refine V_iload (v := Int32.ofInt s) mi_302_300 m6 ?_
    refine V_aload (v := ad 90) mi_302_302 m0 ?_
    refine V_getR mi_302_303 gf27 (by omega) hI1.1 ?_
    refine V_iload (v := Int32.ofInt g) mi_302_306 m7 ?_
    refine V_aldX (j := g) mi_302_308 rfl hI1.1 e103 hg (by omega) b2 ?_
    refine V_ibin mi_302_309 (by omega) ?_
    refine V_ibin mi_302_310 (by omega) ?_
    have en : ibF 0 (ibF 2 (Int32.ofInt 256) (ibF 0 (Int32.ofInt (i : Int)) (Int32.ofInt 1))) (ibF 6 (Int32.ofInt (s : Int)) (Int32.ofInt (b : Int))) = Int32.ofInt ((256 * (i + 1) + (s ||| b) : Nat) : Int) := by rw [or_nat, add_z, mul_z, add_z]; exact ofN (by omega)
    refine V_aldX (j := 256 * (i + 1) + (s ||| b)) mi_302_311 en hI1.1 e104 (by omega) (by omega) v1 ?_
    refine V_ibin mi_302_312 (by omega) ?_
    rw [add_z]
    refine V_stat (As := [.int (Int32.ofInt p), .int (Int32.ofInt (Bt g + v))]) (st := [.int (ibF 0 (ibF 2 (Int32.ofInt 256) (Int32.ofInt (i : Int))) (Int32.ofInt (s : Int))), .ref (ad 104)]) mi_302_313 (by omega) (min_ct (Int32.ofInt p) (Int32.ofInt (Bt g + v)) w1) hd (show 2 = mN 342 by decide +kernel) (by simp [Value.category]) ⟨Nat.le_refl _, Nat.le_refl _⟩ ?_
    rintro r2 w2 ⟨rfl, hr⟩
    have hcm := cdP_iff (x := 4) (a := p) (b := Bt g + v) (by omega) (by omega) (by omega) (by omega)
    have fin : ∀ q : Int, 0 ≤ q → q ≤ 1000000 → (q = p ∨ q = Bt g + v) → ∀ w3 : va_W, GOK ad tys GG w3 → Upd1 w2 w3 104 (256 * i + s) (.int (Int32.ofInt q)) → V l D tys A 302 d 0 0 post 0 0 317 (LF7 ad n fr fo al i s g) [] w3 := by
      intro q q0 q1 hq w3 G3 U3
      refine h317 w3 (INV_upd hI1 G3 U3 hm hi hs) ⟨q, by rw [U3, if_pos ⟨rfl, rfl⟩], q0, q1, ?_⟩
      have old : ∀ j, ¬ j = 256 * i + s → rd w3 104 j = rd w2 104 j := fun j hj => by rw [U3, if_neg (by omega)]
      rcases hq with rfl | rfl
      · rcases p4 with p4 | ⟨g', b', x', v', c1, c2, c3, c4, c5, c6⟩
        · exact Or.inl p4
        · refine Or.inr ⟨g', b', x', v', c1, ?_, c3, ?_, ?_, c6⟩
          · rw [U3, if_neg (by omega), F1.1 102 (by simp)]; exact c2
          · rw [U3, if_neg (by omega), F1.1 103 (by simp)]; exact c4
          · rw [old _ (by omega), F1.1 104 (by simp)]; exact c5
      · refine Or.inr ⟨g, b, x, v, hg, ?_, hx0, ?_, ?_, rfl⟩
        · rw [U3, if_neg (by omega)]; exact x1
        · rw [U3, if_neg (by omega)]; exact b2
        · rw [old _ (by omega)]; exact v1
    have tI : ∀ q : Int, 0 ≤ q → q ≤ 1000000 → (Int32.ofInt q).toInt = q := fun q a b => Int32.toInt_ofInt_of_le (by omega) (by omega)
    rcases hr with rfl | ⟨hlt2, rfl⟩
    · exact V_astX (j := 256 * i + s) mi_302_316 ei hI1.1 e104 (by omega) (by omega) (f104 _ (by omega)) (by rw [tI p p2 p3]; omega) (by rw [tI p p2 p3]; omega) (fin p p2 p3 (Or.inl rfl))
    · have hl : p - (Bt g + v) > 0 := hcm.mp hlt2
      exact V_astX (j := 256 * i + s) mi_302_316 ei hI1.1 e104 (by omega) (by omega) (f104 _ (by omega)) (by rw [tI _ (by omega) (by omega)]; omega) (by rw [tI _ (by omega) (by omega)]; omega) (fin _ (by omega) (by omega) (Or.inr rfl))
end GIV3
section GIV4
variable {l : Launch} {D : va_G} {tys : List (ClassId × FieldType)} {A : Nat → Prop} {ad : Nat → Nat} {d : Nat} {post : Option Value → va_W → Prop}
noncomputable def LF5 (ad : Nat → Nat) (n fr fo al : Int32) (z : Int) : List (Nat × Value) := [(0, .ref (ad 90)), (1, .int n), (2, .int fr), (3, .int fo), (4, .int al), (5, .int (Int32.ofInt z))]
theorem fg_set (hAD : ∀ i : Nat, ad (1000 + i) = D.2 1000 i) (hd : 0 < d) {w0 : va_W} {n fr fo al : Int32} {N m i : Nat} (hal : al = Int32.ofInt ((2 ^ m - 1 : Nat) : Int)) (hm : 2 ^ m ≤ 256) (hi : i < N) (hN : N ≤ 6) (k329 : ∀ w, INV ad tys w0 w N m i (2 ^ m) → V l D tys A 302 d 0 0 post 0 0 329 (LF5 ad n fr fo al i) [] w) : ∀ (f s : Nat) (w : va_W), 2 ^ m - s < f → s ≤ 2 ^ m → INV ad tys w0 w N m i s → V l D tys A 302 d 0 0 post 0 0 212 (LF6 ad n fr fo al i s) [] w
  | 0, s, w, h, _, _ => by omega
  | f + 1, s, w, h, hs, hI => by
    have m0 : (0, Value.ref (ad 90)) ∈ LF6 ad n fr fo al i s := by simp [LF6]
    have m4 : (4, Value.int al) ∈ LF6 ad n fr fo al i s := by simp [LF6]
    have m5 : (5, Value.int (Int32.ofInt i)) ∈ LF6 ad n fr fo al i s := by simp [LF6]
    have m6 : (6, Value.int (Int32.ofInt s)) ∈ LF6 ad n fr fo al i s := by simp [LF6]
    have hp : 0 < 2 ^ m := Nat.two_pow_pos m
    obtain ⟨s4, e104, f104⟩ := gc104
    refine V_iload (v := Int32.ofInt s) mi_302_212 m6 ?_
    refine V_iload (v := al) mi_302_214 m4 ?_
    have hc := cdP_iff (x := 4) (a := (s : Int)) (b := ((2 ^ m - 1 : Nat) : Int)) (by omega) (by omega) (by omega) (by omega)
    rw [← hal] at hc
    refine V_icmp mi_302_216 (fun hgt => ?_) (fun hle => ?_)
    · have : (s : Int) - ((2 ^ m - 1 : Nat) : Int) > 0 := hc.mp hgt
      have e : s = 2 ^ m := by omega
      refine V_sub (lv' := LF5 ad n fr fo al i) (fun q hq => ?_) (k329 w (e ▸ hI))
      simp only [LF5, LF6, List.mem_cons, List.not_mem_nil, or_false] at hq ⊢
      rcases hq with h | h | h | h | h | h <;> simp [h]
    have hs : s < 2 ^ m := by
      have : ¬ ((s : Int) - ((2 ^ m - 1 : Nat) : Int) > 0) := fun q => hle (hc.mpr q)
      omega
    refine V_aload (v := ad 90) mi_302_219 m0 ?_
    refine V_getR mi_302_220 gf28 (by omega) hI.1 ?_
    refine V_ipush mi_302_223 ?_
    refine V_iload (v := Int32.ofInt i) mi_302_226 m5 ?_
    refine V_ibin mi_302_228 (by omega) ?_
    refine V_iload (v := Int32.ofInt s) mi_302_229 m6 ?_
    refine V_ibin mi_302_231 (by omega) ?_
    refine V_ipush mi_302_232 ?_
    have ei : ibF 0 (ibF 2 (Int32.ofInt 256) (Int32.ofInt (i : Int))) (Int32.ofInt (s : Int)) = Int32.ofInt ((256 * i + s : Nat) : Int) := by rw [mul_z, add_z]; exact ofN (by omega)
    have e6 : (Int32.ofInt 1000000).toInt = 1000000 := Int32.toInt_ofInt_of_le (by omega) (by omega)
    refine V_astX (j := 256 * i + s) mi_302_235 ei hI.1 e104 (by omega) (by omega) (f104 _ (by omega)) (by rw [e6]; omega) (by rw [e6]; omega) (fun w1 G1 U1 => ?_)
    have hI1 := INV_upd hI G1 U1 hm hi hs
    have hP1 : PC w1 i s := ⟨1000000, by rw [U1, if_pos ⟨rfl, rfl⟩], by omega, by omega, Or.inl rfl⟩
    refine V_ipush mi_302_236 ?_
    refine V_istore mi_302_237 ?_
    refine V_sub (lv' := LF7 ad n fr fo al i s 0) (fun q hq => ?_) (fg_in hAD hd hm hi hN hs (fun w2 i2 p2 => ?_) 65 0 w1 (by omega) (by omega) hI1 hP1)
    · simp only [LF7, List.mem_cons, List.not_mem_nil, or_false] at hq
      rcases hq with h | h | h | h | h | h | h | h <;> simp [h, LF6, stL, Value.category]
    · refine V_iinc (v := Int32.ofInt s) mi_302_323 m6 ?_
      refine V_goto mi_302_326 ?_
      refine V_sub (lv' := LF6 ad n fr fo al i (s + 1)) (fun q hq => ?_) (fg_set hAD hd hal hm hi hN k329 f (s + 1) w2 (by omega) (by omega) ⟨i2.1, i2.2.1, i2.2.2.1, i2.2.2.2.1, i2.2.2.2.2.1, fun t ht => by
        by_cases h : t = s
        · rw [h]; exact p2
        · exact i2.2.2.2.2.2 t (by omega)⟩)
      simp only [LF6, List.mem_cons, List.not_mem_nil, or_false] at hq
      rcases hq with h | h | h | h | h | h | h <;> simp [h, LF6, stL, Value.category, Int32.ofInt_add]
noncomputable def INR (ad : Nat → Nat) (tys : List (ClassId × FieldType)) (w0 w : va_W) (N m r : Nat) : Prop := GOK ad tys GG w ∧ FRm [102, 103, 104] w0 w ∧ GVL w m ∧ (∀ k t, r ≤ k → k < N → t < 2 ^ m → PC w k t) ∧ (∀ t, t < 2 ^ m → PB w N t)
theorem fg_row (hAD : ∀ i : Nat, ad (1000 + i) = D.2 1000 i) (hd : 0 < d) {w0 : va_W} {n fr fo al : Int32} {N m : Nat} (hal : al = Int32.ofInt ((2 ^ m - 1 : Nat) : Int)) (hm : 2 ^ m ≤ 256) (hN : N ≤ 6) (k335 : ∀ w, INR ad tys w0 w N m 0 → V l D tys A 302 d 0 0 post 0 0 335 (LF5 ad n fr fo al (-1)) [] w) : ∀ (r : Nat) (w : va_W), r ≤ N → INR ad tys w0 w N m r → V l D tys A 302 d 0 0 post 0 0 204 (LF5 ad n fr fo al ((r : Int) - 1)) [] w
  | 0, w, _, hI => by
    refine V_iload (v := Int32.ofInt (-1)) mi_302_204 (by simp [LF5]) ?_
    refine V_if mi_302_206 (fun _ => k335 w hI) (fun h => absurd ((cdP_iff (x := 2) (a := -1) (b := 0) (by omega) (by omega) (by omega) (by omega)).mpr (show (-1 : Int) - 0 < 0 by omega)) h)
  | r + 1, w, hr, hI => by
    have hp : 0 < 2 ^ m := Nat.two_pow_pos m
    have e : ((r + 1 : Nat) : Int) - 1 = (r : Int) := by omega
    rw [e]
    refine V_iload (v := Int32.ofInt (r : Int)) mi_302_204 (by simp [LF5]) ?_
    have hc : cdP 2 (Int32.ofInt (r : Int)) 0 ↔ cdZ 2 ((r : Int) - 0) := cdP_iff (x := 2) (a := (r : Int)) (b := 0) (by omega) (by omega) (by omega) (by omega)
    refine V_if mi_302_206 (fun h => ?_) (fun _ => ?_)
    · have : (r : Int) - 0 < 0 := hc.mp h
      omega
    refine V_ipush mi_302_209 ?_
    refine V_istore mi_302_210 ?_
    refine V_sub (lv' := LF6 ad n fr fo al r 0) (fun q hq => ?_) (fg_set hAD hd hal hm (by omega) hN (fun w2 i2 => ?_) (2 ^ m + 1) 0 w (Nat.lt_succ_self _) (Nat.le_of_lt hp) ⟨hI.1, hI.2.1, hI.2.2.1, fun k t a b c => hI.2.2.2.1 k t (by omega) b c, hI.2.2.2.2, fun t ht => by omega⟩)
    · simp only [LF6, List.mem_cons, List.not_mem_nil, or_false] at hq
      rcases hq with h | h | h | h | h | h | h <;> simp [h, LF5, stL, Value.category]
    · refine V_iinc (v := Int32.ofInt (r : Int)) mi_302_329 (by simp [LF5]) ?_
      refine V_goto mi_302_332 ?_
      refine V_sub (lv' := LF5 ad n fr fo al ((r : Int) - 1)) (fun q hq => ?_) (fg_row hAD hd hal hm hN k335 r w2 (by omega) ⟨i2.1, i2.2.1, i2.2.2.1, fun k t a b c => by
        by_cases h : k = r
        · rw [h]; exact i2.2.2.2.2.2 t c
        · exact i2.2.2.2.1 k t (by omega) b c, i2.2.2.2.2.1⟩)
      simp only [LF5, List.mem_cons, List.not_mem_nil, or_false] at hq
      rcases hq with h | h | h | h | h | h <;> simp [h, LF5, stL, Value.category, Int32.ofInt_sub, Int32.sub_eq_add_neg]
end GIV4
section GIV5
variable {l : Launch} {D : va_G} {tys : List (ClassId × FieldType)} {A : Nat → Prop} {ad : Nat → Nat} {d : Nat} {post : Option Value → va_W → Prop}
noncomputable def INL (ad : Nat → Nat) (tys : List (ClassId × FieldType)) (w0 w : va_W) (N m s : Nat) : Prop := GOK ad tys GG w ∧ FRm [102, 103, 104] w0 w ∧ GVL w m ∧ (∀ t, t < s → PB w N t)
theorem fg_last {w0 : va_W} {fr fo al : Int32} {N m : Nat} (hm : 2 ^ m ≤ 256) (hal : al = Int32.ofInt ((2 ^ m - 1 : Nat) : Int)) (hN : N ≤ 6) (k204 : ∀ w, INR ad tys w0 w N m N → V l D tys A 302 d 0 0 post 0 0 204 (LF5 ad (Int32.ofInt (N : Int)) fr fo al ((N : Int) - 1)) [] w) : ∀ (f s : Nat) (w : va_W), 2 ^ m - s < f → s ≤ 2 ^ m → INL ad tys w0 w N m s → V l D tys A 302 d 0 0 post 0 0 159 (LF5 ad (Int32.ofInt (N : Int)) fr fo al (s : Int)) [] w
  | 0, s, w, h, _, _ => by omega
  | f + 1, s, w, h, hs, hI => by
    have m0 : (0, Value.ref (ad 90)) ∈ LF5 ad (Int32.ofInt (N : Int)) fr fo al (s : Int) := by simp [LF5]
    have m1 : (1, Value.int (Int32.ofInt (N : Int))) ∈ LF5 ad (Int32.ofInt (N : Int)) fr fo al (s : Int) := by simp [LF5]
    have m4 : (4, Value.int al) ∈ LF5 ad (Int32.ofInt (N : Int)) fr fo al (s : Int) := by simp [LF5]
    have m5 : (5, Value.int (Int32.ofInt (s : Int))) ∈ LF5 ad (Int32.ofInt (N : Int)) fr fo al (s : Int) := by simp [LF5]
    have hp : 0 < 2 ^ m := Nat.two_pow_pos m
    obtain ⟨s4, e104, f104⟩ := gc104
    refine V_iload (v := Int32.ofInt (s : Int)) mi_302_159 m5 ?_
    refine V_iload (v := al) mi_302_161 m4 ?_
    have hc := cdP_iff (x := 4) (a := (s : Int)) (b := ((2 ^ m - 1 : Nat) : Int)) (by omega) (by omega) (by omega) (by omega)
    rw [← hal] at hc
    refine V_icmp mi_302_163 (fun hgt => ?_) (fun hle => ?_)
    · have : (s : Int) - ((2 ^ m - 1 : Nat) : Int) > 0 := hc.mp hgt
      have e : s = 2 ^ m := by omega
      refine V_iload (v := Int32.ofInt (N : Int)) mi_302_199 m1 ?_
      refine V_ipush mi_302_200 ?_
      refine V_ibin mi_302_201 (by omega) ?_
      refine V_istore mi_302_202 ?_
      have en : ibF 1 (Int32.ofInt (N : Int)) (Int32.ofInt 1) = Int32.ofInt ((N : Int) - 1) := by
        show Int32.ofInt (N : Int) - Int32.ofInt 1 = _
        rw [← Int32.ofInt_sub]
      rw [en]
      refine V_sub (lv' := LF5 ad (Int32.ofInt (N : Int)) fr fo al ((N : Int) - 1)) (fun q hq => ?_) (k204 w ⟨hI.1, hI.2.1, hI.2.2.1, fun k t a b => by omega, fun t ht => hI.2.2.2 t (by omega)⟩)
      simp only [LF5, List.mem_cons, List.not_mem_nil, or_false] at hq
      rcases hq with h | h | h | h | h | h <;> simp [h, LF5, stL, Value.category]
    have hs : s < 2 ^ m := by
      have : ¬ ((s : Int) - ((2 ^ m - 1 : Nat) : Int) > 0) := fun q => hle (hc.mpr q)
      omega
    have ei : ibF 0 (ibF 2 (Int32.ofInt 256) (Int32.ofInt (N : Int))) (Int32.ofInt (s : Int)) = Int32.ofInt ((256 * N + s : Nat) : Int) := by rw [mul_z, add_z]; exact ofN (by omega)
    have h192 : ∀ q : Int, 0 ≤ q → q ≤ 1000000 → V l D tys A 302 d 0 0 post 0 0 192 (LF5 ad (Int32.ofInt (N : Int)) fr fo al (s : Int)) [.int (Int32.ofInt q), .int (ibF 0 (ibF 2 (Int32.ofInt 256) (Int32.ofInt (N : Int))) (Int32.ofInt (s : Int))), .ref (ad 104)] w := by
      intro q q0 q1
      have eq_ : (Int32.ofInt q).toInt = q := Int32.toInt_ofInt_of_le (by omega) (by omega)
      refine V_astX (j := 256 * N + s) mi_302_192 ei hI.1 e104 (by omega) (by omega) (f104 _ (by omega)) (by rw [eq_]; omega) (by rw [eq_]; omega) (fun w1 G1 U1 => ?_)
      refine V_iinc (v := Int32.ofInt (s : Int)) mi_302_193 m5 ?_
      refine V_goto mi_302_196 ?_
      refine V_sub (lv' := LF5 ad (Int32.ofInt (N : Int)) fr fo al ((s + 1 : Nat) : Int)) (fun q hq => ?_) (fg_last hm hal hN k204 f (s + 1) w1 (by omega) (by omega) ⟨G1, FRm_upd hI.2.1 U1 (by simp) (by unfold mnC; omega), GVL_upd hI.2.2.1 U1, fun t ht => by
        by_cases h : t = s
        · rw [h]; exact ⟨q, by rw [U1, if_pos ⟨rfl, rfl⟩], q0, q1⟩
        · exact PB_upd (hI.2.2.2 t (by omega)) U1 (by omega) (by omega) (Or.inr ⟨rfl, h⟩)⟩)
      simp only [LF5, List.mem_cons, List.not_mem_nil, or_false] at hq
      rcases hq with h | h | h | h | h | h <;> simp [h, LF5, stL, Value.category, Int32.ofInt_add]
    refine V_aload (v := ad 90) mi_302_166 m0 ?_
    refine V_getR mi_302_167 gf28 (by omega) hI.1 ?_
    refine V_ipush mi_302_170 ?_
    refine V_iload (v := Int32.ofInt (N : Int)) mi_302_173 m1 ?_
    refine V_ibin mi_302_174 (by omega) ?_
    refine V_iload (v := Int32.ofInt (s : Int)) mi_302_175 m5 ?_
    refine V_ibin mi_302_177 (by omega) ?_
    refine V_iload (v := Int32.ofInt (s : Int)) mi_302_178 m5 ?_
    refine V_iload (v := al) mi_302_180 m4 ?_
    refine V_icmp mi_302_182 (fun _ => ?_) (fun _ => ?_)
    · refine V_ipush mi_302_189 ?_
      exact h192 1000000 (by omega) (by omega)
    · refine V_ipush mi_302_185 ?_
      refine V_goto mi_302_186 ?_
      exact h192 0 (by omega) (by omega)
theorem gc107 : ∃ s, GG[107]? = some ((1, 0, 4), s) := ⟨_, rfl⟩
theorem gf32 : ∃ g, GG[90]? = some ((0, 11, 36), g) ∧ segAt g 32 = some (2, ((107 : Nat) : Int), ((107 : Nat) : Int)) := ⟨_, rfl, by decide +kernel⟩
theorem all_m : (List.range 9).all (fun m => (@decide _ (instDecidableEqInt32 (ibF 1 (ibF 8 (Int32.ofInt 1) (Int32.ofInt ((m : Nat) : Int))) (Int32.ofInt 1)) (Int32.ofInt ((2 ^ m - 1 : Nat) : Int)))) && decide (2 ^ m ≤ 256)) = true := by decide +kernel
end GIV5
section GIV6
variable {l : Launch} {D : va_G} {tys : List (ClassId × FieldType)} {A : Nat → Prop} {ad : Nat → Nat} {d : Nat} {post : Option Value → va_W → Prop}
noncomputable def LF4 (ad : Nat → Nat) (n fr fo : Int32) (x : Int) : List (Nat × Value) := [(0, .ref (ad 90)), (1, .int n), (2, .int fr), (3, .int fo), (4, .int (Int32.ofInt x))]
theorem fg_144 (hAD : ∀ i : Nat, ad (1000 + i) = D.2 1000 i) (hd : 0 < d) {w0 : va_W} {fr : Int32} {N m F : Nat} {x : Int} (hm : m ≤ 8) (hN : N ≤ 6) (hF : F < 4) (k335 : ∀ w, INR ad tys w0 w N m 0 → post none w) (w : va_W) (hM : rd w 107 F = some (.int (Int32.ofInt (m : Int)))) (hG : GOK ad tys GG w) (hf : FRm [102, 103, 104] w0 w) (hL : GVL w m) : V l D tys A 302 d 0 0 post 0 0 144 (LF4 ad (Int32.ofInt (N : Int)) fr (Int32.ofInt (F : Int)) x) [] w := by
  obtain ⟨s7, e107⟩ := gc107
  have am := List.all_eq_true.mp all_m m (List.mem_range.mpr (by omega))
  rw [Bool.and_eq_true, decide_eq_true_eq, decide_eq_true_eq] at am
  refine V_ipush mi_302_144 ?_
  refine V_aload (v := ad 90) mi_302_145 (by simp [LF4]) ?_
  refine V_getR mi_302_146 gf32 (by omega) hG ?_
  refine V_iload (v := Int32.ofInt (F : Int)) mi_302_149 (by simp [LF4]) ?_
  refine V_aldX (j := F) mi_302_150 rfl hG e107 hF (by omega) hM ?_
  refine V_ibin mi_302_151 (by omega) ?_
  refine V_ipush mi_302_152 ?_
  refine V_ibin mi_302_153 (by omega) ?_
  rw [am.1]
  refine V_istore mi_302_154 ?_
  refine V_ipush mi_302_156 ?_
  refine V_istore mi_302_157 ?_
  refine V_sub (lv' := LF5 ad (Int32.ofInt (N : Int)) fr (Int32.ofInt (F : Int)) (Int32.ofInt ((2 ^ m - 1 : Nat) : Int)) ((0 : Nat) : Int)) (fun q hq => ?_) (fg_last am.2 rfl hN (fun w1 h1 => fg_row hAD hd rfl am.2 hN (fun w2 h2 => V_retV mi_302_335 (k335 w2 h2)) N w1 (Nat.le_refl _) h1) (2 ^ m + 1) 0 w (Nat.lt_succ_self _) (Nat.zero_le _) ⟨hG, hf, hL, fun t ht => absurd ht (Nat.not_lt_zero t)⟩)
  simp only [LF5, List.mem_cons, List.not_mem_nil, or_false] at hq
  rcases hq with h | h | h | h | h | h <;> simp [h, LF4, stL, Value.category]
theorem V_zstX {ws : va_W} {k mc ms cells slots pc : Nat} {lv : List (Nat × Value)} {st : List Value} {a : Int} {y z c n j : Nat} {segs : List SG} {v : Int32} (hi0 : mI k pc = (20, a, 1, y, z)) (hv : v = 0 ∨ v = 1) (hG : GOK ad tys GG ws) (hg : GG[c]? = some ((1, 2, n), segs)) (hj : j < n) (hn : n ≤ 100000) (hs : segAt segs j = some (0, 0, 1)) (kk : ∀ w : va_W, GOK ad tys GG w → Upd1 ws w c j (.int v) → V l D tys A k d mc ms post cells slots (pc + 1) lv st w) : V l D tys A k d mc ms post cells slots pc lv (.int v :: .int (Int32.ofInt j) :: .ref (ad c) :: st) ws := by
  obtain ⟨cA, f, q1, q2⟩ := arr_of hG hg
  refine V_zast hi0 q1 q2 (idx_in hj hn).1 ?_
  rw [(idx_in hj hn).2]
  have ev : vp_nar .boolean v = v := by rcases hv with rfl | rfl <;> decide
  rw [ev]
  have hu := GOK_upd (j := j) (v := .int v) (e' := .inl (cA, n, .inl (upd f j v))) hG hg q1 ⟨cA, _, rfl, q2, by omega⟩ (fun j' => by
    show (if j' < n then some (Value.int (upd f j v j')) else none) = if j' = j then some (Value.int v) else if j' < n then some (Value.int (f j')) else none
    unfold upd
    by_cases h : j' = j
    · subst h; simp [hj]
    · simp [h]) hs (by
      rcases hv with rfl | rfl
      · exact ⟨0, rfl, by decide, by decide⟩
      · exact ⟨1, rfl, by decide, by decide⟩)
  exact kk _ hu.1 hu.2
end GIV6
noncomputable def cNA : CR := (300, [(2, 90, 90), (0, 0, 3), (0, 0, 59)], [], some (1, -9223372036854775808, 9223372036854775807), [], [])
theorem vNA : vrf GG [] [] 300 0 cNA [] = true := by decide +kernel
theorem all_s : (List.range 8).all (fun m => (@decide _ (instDecidableEqInt32 (ibF 8 (Int32.ofInt 1) (Int32.ofInt ((m : Nat) : Int))) (Int32.ofInt ((2 ^ m : Nat) : Int))))) = true := by decide +kernel
theorem gs107 : ∃ s, GG[107]? = some ((1, 0, 4), s) ∧ ∀ j, j < 4 → segAt s j = some (0, -1, 60) := by
  refine ⟨_, rfl, fun j hj => ?_⟩
  show (bif Nat.blt j 4 then some _ else _) = _
  rw [show Nat.blt j 4 = true from Nat.blt_eq.mpr hj]
  rfl
theorem gs103 : ∃ s, GG[103]? = some ((1, 0, 64), s) ∧ ∀ j, j < 64 → segAt s j = some (0, 0, 255) := by
  refine ⟨_, rfl, fun j hj => ?_⟩
  show (bif Nat.blt j 64 then some _ else _) = _
  rw [show Nat.blt j 64 = true from Nat.blt_eq.mpr hj]
  rfl
theorem gs102 : ∃ s, GG[102]? = some ((1, 2, 64), s) ∧ ∀ j, j < 64 → segAt s j = some (0, 0, 1) := by
  refine ⟨_, rfl, fun j hj => ?_⟩
  show (bif Nat.blt j 64 then some _ else _) = _
  rw [show Nat.blt j 64 = true from Nat.blt_eq.mpr hj]
  rfl
section GIV7
variable {l : Launch} {D : va_G} {tys : List (ClassId × FieldType)} {A : Nat → Prop} {ad : Nat → Nat} {d : Nat} {post : Option Value → va_W → Prop}
theorem many_bd {w : va_W} {F : Nat} (hF : F < 4) (hG : GOK ad tys GG w) : ∃ q : Int, rd w 107 F = some (.int (Int32.ofInt q)) ∧ -1 ≤ q ∧ q ≤ 60 := by
  obtain ⟨s, h1, h2⟩ := gs107
  obtain ⟨cA, f, a1, -⟩ := arr_of hG h1
  have hr := rd_arr a1 hF
  obtain ⟨sp, r1, r2⟩ := GOK_rd hG h1 hr
  rw [h2 F hF] at r1
  cases r1
  obtain ⟨z, z1, z2, z3⟩ := r2
  exact ⟨z, by rw [hr, z1], z2, z3⟩
theorem V_na (hAD : ∀ i : Nat, ad (1000 + i) = D.2 1000 i) {k pc S I : Nat} {lv : List (Nat × Value)} {st : List Value} {a : Int} {x : Nat} {ws : va_W} (hi : mI k pc = (26, a, x, 300, 0)) (hS : S < 4) (hI : I < 60) (hd : 0 < d) (hst : (st.map fun v => v.category).sum ≤ 8) (hG : GOK ad tys GG ws) (kk : ∀ (q : Int64) (w : va_W), GOK ad tys GG w → FRm [] ws w → V l D tys A k d 0 0 post 0 0 (pc + 3) lv (.long q :: st) w) : V l D tys A k d 0 0 post 0 0 pc lv (.int (Int32.ofInt (I : Int)) :: .int (Int32.ofInt (S : Int)) :: .ref (ad 90) :: st) ws := by
  obtain ⟨d', k1, k2⟩ := CR_of_vrf (l := l) (tys := tys) (A := A) (dep := 0) hAD (fun c hc => by cases hc) T2OK_nil vNA [.ref (ad 90), .int (Int32.ofInt (S : Int)), .int (Int32.ofInt (I : Int))] ws ⟨rfl, ⟨(S : Int), rfl, (by show (0 : Int) ≤ S; omega), (by show (S : Int) ≤ 3; omega)⟩, ⟨(I : Int), rfl, (by show (0 : Int) ≤ I; omega), (by show (I : Int) ≤ 59; omega)⟩, trivial⟩ hG (fun q hq => by cases hq)
  obtain rfl : d' = 0 := by omega
  obtain ⟨fs, cA, f, z, e1, -⟩ := folk_of hG
  obtain ⟨T, N, hcl⟩ := ci_at (y := 300) (by omega) (by decide +kernel) (by decide +kernel)
  refine V_virt (As := [.int (Int32.ofInt (S : Int)), .int (Int32.ofInt (I : Int))]) (st := st) hi (by omega) k2 hd (show 2 = mN 300 by decide +kernel) e1 (by rw [← show mCi 300 = 11 by decide +kernel]; exact hcl) hst ⟨Nat.le_refl _, Nat.le_refl _⟩ ?_
  rintro r w ⟨q1, q2, q3, -⟩
  cases r with
  | none => exact q3.elim
  | some v =>
    obtain ⟨zz, rfl, -, -⟩ := q3
    exact kk _ w q1 q2
noncomputable def IG (ad : Nat → Nat) (tys : List (ClassId × FieldType)) (w0 w : va_W) (m g : Nat) : Prop := GOK ad tys GG w ∧ FRm [102, 103, 104] w0 w ∧ ∀ j, j < g → ∃ b : Nat, b < 2 ^ m ∧ rd w 103 j = some (.int (Int32.ofInt b))
theorem IG_frm {w0 w w' : va_W} {m g : Nat} (h : IG ad tys w0 w m g) (hG : GOK ad tys GG w') (hf : FRm [] w w') : IG ad tys w0 w' m g := ⟨hG, FRm_tr h.2.1 hf (fun _ q => absurd q (by simp)), fun j hj => by rw [hf.1 103 (by simp) j]; exact h.2.2 j hj⟩
theorem IG_102 {w0 w w' : va_W} {m g j : Nat} {v : Value} (h : IG ad tys w0 w m g) (hG : GOK ad tys GG w') (hu : Upd1 w w' 102 j v) : IG ad tys w0 w' m g := ⟨hG, FRm_upd h.2.1 hu (by simp) (by unfold mnC; omega), fun i hi => by rw [hu, if_neg (by omega)]; exact h.2.2 i hi⟩
theorem IG_103 {w0 w w' : va_W} {m g j b : Nat} (hb : b < 2 ^ m) (h : IG ad tys w0 w m g) (hG : GOK ad tys GG w') (hu : Upd1 w w' 103 j (.int (Int32.ofInt (b : Int)))) : IG ad tys w0 w' m g := ⟨hG, FRm_upd h.2.1 hu (by simp) (by unfold mnC; omega), fun i hi => by
  by_cases e : i = j
  · exact ⟨b, hb, by rw [hu, if_pos ⟨rfl, e⟩]⟩
  · rw [hu, if_neg (by omega)]; exact h.2.2 i hi⟩
theorem fg_29 (hAD : ∀ i : Nat, ad (1000 + i) = D.2 1000 i) (hd : 0 < d) {w0 : va_W} {n fo : Int32} {R m g : Nat} (hR : R < 4) (hg : g < 64) (k84 : ∀ (w : va_W) (z : Int), IG ad tys w0 w m (g + 1) → V l D tys A 302 d 0 0 post 0 0 84 (LF5 ad n (Int32.ofInt (R : Int)) fo (Int32.ofInt (g : Int)) z) [] w) : ∀ (f i : Nat) (w : va_W), 61 - i < f → i ≤ 60 → IG ad tys w0 w m (g + 1) → V l D tys A 302 d 0 0 post 0 0 29 (LF5 ad n (Int32.ofInt (R : Int)) fo (Int32.ofInt (g : Int)) (i : Int)) [] w
  | 0, i, w, h, _, _ => by omega
  | f + 1, i, w, h, hi, hI => by
    have m0 : (0, Value.ref (ad 90)) ∈ LF5 ad n (Int32.ofInt (R : Int)) fo (Int32.ofInt (g : Int)) (i : Int) := by simp [LF5]
    have m2 : (2, Value.int (Int32.ofInt (R : Int))) ∈ LF5 ad n (Int32.ofInt (R : Int)) fo (Int32.ofInt (g : Int)) (i : Int) := by simp [LF5]
    have m4 : (4, Value.int (Int32.ofInt (g : Int))) ∈ LF5 ad n (Int32.ofInt (R : Int)) fo (Int32.ofInt (g : Int)) (i : Int) := by simp [LF5]
    have m5 : (5, Value.int (Int32.ofInt (i : Int))) ∈ LF5 ad n (Int32.ofInt (R : Int)) fo (Int32.ofInt (g : Int)) (i : Int) := by simp [LF5]
    obtain ⟨s7, e107⟩ := gc107
    obtain ⟨s2, e102, f102⟩ := gs102
    obtain ⟨q, q1, q2, q3⟩ := many_bd hR hI.1
    obtain ⟨cA, fx, ax, -⟩ := arr_of hI.1 e102
    have x1 := rd_arr ax hg
    refine V_iload (v := Int32.ofInt (i : Int)) mi_302_29 m5 ?_
    refine V_aload (v := ad 90) mi_302_31 m0 ?_
    refine V_getR mi_302_32 gf32 (by omega) hI.1 ?_
    refine V_iload (v := Int32.ofInt (R : Int)) mi_302_35 m2 ?_
    refine V_aldX (j := R) mi_302_36 rfl hI.1 e107 hR (by omega) q1 ?_
    have hc := cdP_iff (x := 3) (a := (i : Int)) (b := q) (by omega) (by omega) (by omega) (by omega)
    refine V_icmp mi_302_37 (fun _ => k84 w _ hI) (fun hlt => ?_)
    have hiq : (i : Int) < q := by
      have : ¬ (0 ≤ (i : Int) - q) := fun z => hlt (hc.mpr z)
      omega
    have h77 : ∀ (v : Int32) (w1 : va_W), (v = 0 ∨ v = 1) → IG ad tys w0 w1 m (g + 1) → V l D tys A 302 d 0 0 post 0 0 77 (LF5 ad n (Int32.ofInt (R : Int)) fo (Int32.ofInt (g : Int)) (i : Int)) [.int v, .int (Int32.ofInt (g : Int)), .ref (ad 102)] w1 := by
      intro v w1 hv i1
      refine V_zstX mi_302_77 hv i1.1 e102 hg (by omega) (f102 g hg) (fun w2 G2 U2 => ?_)
      refine V_iinc (v := Int32.ofInt (i : Int)) mi_302_78 m5 ?_
      refine V_goto mi_302_81 ?_
      refine V_sub (lv' := LF5 ad n (Int32.ofInt (R : Int)) fo (Int32.ofInt (g : Int)) ((i + 1 : Nat) : Int)) (fun q hq => ?_) (fg_29 hAD hd hR hg k84 f (i + 1) w2 (by omega) (by omega) (IG_102 i1 G2 U2))
      simp only [LF5, List.mem_cons, List.not_mem_nil, or_false] at hq
      rcases hq with h | h | h | h | h | h <;> simp [h, LF5, stL, Value.category, Int32.ofInt_add]
    have h76 : ∀ w1 : va_W, IG ad tys w0 w1 m (g + 1) → V l D tys A 302 d 0 0 post 0 0 76 (LF5 ad n (Int32.ofInt (R : Int)) fo (Int32.ofInt (g : Int)) (i : Int)) [.int (Int32.ofInt (g : Int)), .ref (ad 102)] w1 := by
      intro w1 i1
      refine V_ipush mi_302_76 ?_
      exact h77 _ w1 (Or.inl rfl) i1
    refine V_aload (v := ad 90) mi_302_40 m0 ?_
    refine V_getR mi_302_41 gf26 (by omega) hI.1 ?_
    refine V_iload (v := Int32.ofInt (g : Int)) mi_302_44 m4 ?_
    refine V_aload (v := ad 90) mi_302_46 m0 ?_
    refine V_getR mi_302_47 gf26 (by omega) hI.1 ?_
    refine V_iload (v := Int32.ofInt (g : Int)) mi_302_50 m4 ?_
    refine V_zldR mi_302_52 hI.1 e102 hg (by omega) x1 ?_
    refine V_if mi_302_53 (fun _ => h76 w hI) (fun _ => ?_)
    refine V_iload (v := Int32.ofInt (g : Int)) mi_302_56 m4 ?_
    refine V_i2l mi_302_58 ?_
    refine V_aload (v := ad 90) mi_302_59 m0 ?_
    refine V_iload (v := Int32.ofInt (R : Int)) mi_302_60 m2 ?_
    refine V_iload (v := Int32.ofInt (i : Int)) mi_302_61 m5 ?_
    refine V_na hAD mi_302_63 hR (by omega) hd (by simp [Value.category]) hI.1 (fun q2 w2 G2 F2 => ?_)
    refine V_lbin mi_302_66 (by omega) ?_
    refine V_lpush mi_302_67 ?_
    refine V_lcmp mi_302_68 ?_
    refine V_if mi_302_69 (fun _ => h76 w2 (IG_frm hI G2 F2)) (fun _ => ?_)
    refine V_ipush mi_302_72 ?_
    refine V_goto mi_302_73 ?_
    exact h77 _ w2 (Or.inr rfl) (IG_frm hI G2 F2)
end GIV7
section GIV8
variable {l : Launch} {D : va_G} {tys : List (ClassId × FieldType)} {A : Nat → Prop} {ad : Nat → Nat} {d : Nat} {post : Option Value → va_W → Prop}
theorem fg_87 (hAD : ∀ i : Nat, ad (1000 + i) = D.2 1000 i) (hd : 0 < d) {w0 : va_W} {n fr : Int32} {F m g : Nat} (hF : F < 4) (hm : m ≤ 8) (hM : rd w0 107 F = some (.int (Int32.ofInt (m : Int)))) (hg : g < 64) (k138 : ∀ (w : va_W) (z : Int), IG ad tys w0 w m (g + 1) → V l D tys A 302 d 0 0 post 0 0 138 (LF5 ad n fr (Int32.ofInt (F : Int)) (Int32.ofInt (g : Int)) z) [] w) : ∀ (f i : Nat) (w : va_W), 9 - i < f → i ≤ m → IG ad tys w0 w m (g + 1) → V l D tys A 302 d 0 0 post 0 0 87 (LF5 ad n fr (Int32.ofInt (F : Int)) (Int32.ofInt (g : Int)) (i : Int)) [] w
  | 0, i, w, h, _, _ => by omega
  | f + 1, i, w, h, hi, hI => by
    have m0 : (0, Value.ref (ad 90)) ∈ LF5 ad n fr (Int32.ofInt (F : Int)) (Int32.ofInt (g : Int)) (i : Int) := by simp [LF5]
    have m3 : (3, Value.int (Int32.ofInt (F : Int))) ∈ LF5 ad n fr (Int32.ofInt (F : Int)) (Int32.ofInt (g : Int)) (i : Int) := by simp [LF5]
    have m4 : (4, Value.int (Int32.ofInt (g : Int))) ∈ LF5 ad n fr (Int32.ofInt (F : Int)) (Int32.ofInt (g : Int)) (i : Int) := by simp [LF5]
    have m5 : (5, Value.int (Int32.ofInt (i : Int))) ∈ LF5 ad n fr (Int32.ofInt (F : Int)) (Int32.ofInt (g : Int)) (i : Int) := by simp [LF5]
    obtain ⟨s7, e107⟩ := gc107
    obtain ⟨s3, e103, f103⟩ := gs103
    have hMw : rd w 107 F = some (.int (Int32.ofInt (m : Int))) := by rw [hI.2.1.1 107 (by simp) F]; exact hM
    obtain ⟨b, b1, b2⟩ := hI.2.2 g (by omega)
    refine V_iload (v := Int32.ofInt (i : Int)) mi_302_87 m5 ?_
    refine V_aload (v := ad 90) mi_302_89 m0 ?_
    refine V_getR mi_302_90 gf32 (by omega) hI.1 ?_
    refine V_iload (v := Int32.ofInt (F : Int)) mi_302_93 m3 ?_
    refine V_aldX (j := F) mi_302_94 rfl hI.1 e107 hF (by omega) hMw ?_
    have hc := cdP_iff (x := 3) (a := (i : Int)) (b := (m : Int)) (by omega) (by omega) (by omega) (by omega)
    refine V_icmp mi_302_95 (fun _ => k138 w _ hI) (fun hlt => ?_)
    have him : i < m := by
      have : ¬ (0 ≤ (i : Int) - m) := fun z => hlt (hc.mpr z)
      omega
    have h130 : ∀ (c : Nat) (w1 : va_W), c < 2 ^ m → IG ad tys w0 w1 m (g + 1) → V l D tys A 302 d 0 0 post 0 0 130 (LF5 ad n fr (Int32.ofInt (F : Int)) (Int32.ofInt (g : Int)) (i : Int)) [.int (Int32.ofInt (c : Int)), .int (Int32.ofInt (b : Int)), .int (Int32.ofInt (g : Int)), .ref (ad 103)] w1 := by
      intro c w1 hc1 i1
      have hbc : b ||| c < 2 ^ m := Nat.or_lt_two_pow b1 hc1
      have am := List.all_eq_true.mp all_m m (List.mem_range.mpr (by omega))
      rw [Bool.and_eq_true, decide_eq_true_eq, decide_eq_true_eq] at am
      have am2 := am.2
      have et : (Int32.ofInt ((b ||| c : Nat) : Int)).toInt = ((b ||| c : Nat) : Int) := Int32.toInt_ofInt_of_le (by omega) (by omega)
      refine V_ibin mi_302_130 (by omega) ?_
      rw [or_nat]
      refine V_astX (j := g) mi_302_131 rfl i1.1 e103 hg (by omega) (f103 g hg) (by rw [et]; omega) (by rw [et]; omega) (fun w2 G2 U2 => ?_)
      refine V_iinc (v := Int32.ofInt (i : Int)) mi_302_132 m5 ?_
      refine V_goto mi_302_135 ?_
      refine V_sub (lv' := LF5 ad n fr (Int32.ofInt (F : Int)) (Int32.ofInt (g : Int)) ((i + 1 : Nat) : Int)) (fun q hq => ?_) (fg_87 hAD hd hF hm hM hg k138 f (i + 1) w2 (by omega) (by omega) (IG_103 hbc i1 G2 U2))
      simp only [LF5, List.mem_cons, List.not_mem_nil, or_false] at hq
      rcases hq with h | h | h | h | h | h <;> simp [h, LF5, stL, Value.category, Int32.ofInt_add]
    refine V_aload (v := ad 90) mi_302_98 m0 ?_
    refine V_getR mi_302_99 gf27 (by omega) hI.1 ?_
    refine V_iload (v := Int32.ofInt (g : Int)) mi_302_102 m4 ?_
    refine V_dup2 mi_302_104 rfl rfl ?_
    refine V_aldX (j := g) mi_302_105 rfl hI.1 e103 hg (by omega) b2 ?_
    refine V_iload (v := Int32.ofInt (g : Int)) mi_302_106 m4 ?_
    refine V_i2l mi_302_108 ?_
    refine V_aload (v := ad 90) mi_302_109 m0 ?_
    refine V_iload (v := Int32.ofInt (F : Int)) mi_302_110 m3 ?_
    refine V_iload (v := Int32.ofInt (i : Int)) mi_302_111 m5 ?_
    refine V_na hAD mi_302_113 hF (by omega) hd (by simp [Value.category]) hI.1 (fun q2 w2 G2 F2 => ?_)
    refine V_lbin mi_302_116 (by omega) ?_
    refine V_lpush mi_302_117 ?_
    refine V_lcmp mi_302_118 ?_
    have as := List.all_eq_true.mp all_s i (List.mem_range.mpr (by omega))
    rw [decide_eq_true_eq] at as
    refine V_if mi_302_119 (fun _ => ?_) (fun _ => ?_)
    · refine V_ipush mi_302_129 ?_
      exact h130 0 w2 (Nat.two_pow_pos m) (IG_frm hI G2 F2)
    · refine V_ipush mi_302_122 ?_
      refine V_iload (v := Int32.ofInt (i : Int)) mi_302_123 m5 ?_
      refine V_ibin mi_302_125 (by omega) ?_
      rw [as]
      refine V_goto mi_302_126 ?_
      exact h130 (2 ^ i) w2 (Nat.pow_lt_pow_right (by omega) him) (IG_frm hI G2 F2)
theorem fg_3 (hAD : ∀ i : Nat, ad (1000 + i) = D.2 1000 i) (hd : 0 < d) {w0 : va_W} {n : Int32} {R F m : Nat} (hR : R < 4) (hF : F < 4) (hm : m ≤ 8) (hM : rd w0 107 F = some (.int (Int32.ofInt (m : Int)))) (k144 : ∀ w : va_W, IG ad tys w0 w m 64 → V l D tys A 302 d 0 0 post 0 0 144 (LF4 ad n (Int32.ofInt (R : Int)) (Int32.ofInt (F : Int)) 64) [] w) : ∀ (f g : Nat) (w : va_W), 64 - g < f → g ≤ 64 → IG ad tys w0 w m g → V l D tys A 302 d 0 0 post 0 0 3 (LF4 ad n (Int32.ofInt (R : Int)) (Int32.ofInt (F : Int)) (g : Int)) [] w
  | 0, g, w, h, _, _ => by omega
  | f + 1, g, w, h, hg, hI => by
    have m0 : (0, Value.ref (ad 90)) ∈ LF4 ad n (Int32.ofInt (R : Int)) (Int32.ofInt (F : Int)) (g : Int) := by simp [LF4]
    have m4 : (4, Value.int (Int32.ofInt (g : Int))) ∈ LF4 ad n (Int32.ofInt (R : Int)) (Int32.ofInt (F : Int)) (g : Int) := by simp [LF4]
    obtain ⟨s2, e102, f102⟩ := gs102
    obtain ⟨s3, e103, f103⟩ := gs103
    refine V_iload (v := Int32.ofInt (g : Int)) mi_302_3 m4 ?_
    refine V_ipush mi_302_5 ?_
    have hc := cdP_iff (x := 3) (a := (g : Int)) (b := 64) (by omega) (by omega) (by omega) (by omega)
    refine V_icmp mi_302_7 (fun hge => ?_) (fun hlt => ?_)
    · have : 0 ≤ (g : Int) - 64 := hc.mp hge
      obtain rfl : g = 64 := by omega
      exact k144 w hI
    have hg : g < 64 := by
      have : ¬ (0 ≤ (g : Int) - 64) := fun q => hlt (hc.mpr q)
      omega
    refine V_aload (v := ad 90) mi_302_10 m0 ?_
    refine V_getR mi_302_11 gf26 (by omega) hI.1 ?_
    refine V_iload (v := Int32.ofInt (g : Int)) mi_302_14 m4 ?_
    refine V_ipush mi_302_16 ?_
    refine V_zstX mi_302_17 (Or.inr rfl) hI.1 e102 hg (by omega) (f102 g hg) (fun w1 G1 U1 => ?_)
    have i1 := IG_102 hI G1 U1
    refine V_aload (v := ad 90) mi_302_18 m0 ?_
    refine V_getR mi_302_19 gf27 (by omega) i1.1 ?_
    refine V_iload (v := Int32.ofInt (g : Int)) mi_302_22 m4 ?_
    refine V_ipush mi_302_24 ?_
    refine V_astX (j := g) mi_302_25 rfl i1.1 e103 hg (by omega) (f103 g hg) (by decide) (by decide) (fun w2 G2 U2 => ?_)
    have i2 : IG ad tys w0 w2 m (g + 1) := ⟨G2, FRm_upd i1.2.1 U2 (by simp) (by unfold mnC; omega), fun j hj => by
      by_cases e : j = g
      · exact ⟨0, Nat.two_pow_pos m, by rw [U2, if_pos ⟨rfl, e⟩]; rfl⟩
      · rw [U2, if_neg (by omega)]; exact i1.2.2 j (by omega)⟩
    refine V_ipush mi_302_26 ?_
    refine V_istore mi_302_27 ?_
    refine V_sub (lv' := LF5 ad n (Int32.ofInt (R : Int)) (Int32.ofInt (F : Int)) (Int32.ofInt (g : Int)) ((0 : Nat) : Int)) (fun q hq => ?_) (fg_29 hAD hd hR hg (fun w3 z3 i3 => ?_) 62 0 w2 (by omega) (by omega) i2)
    · simp only [LF5, List.mem_cons, List.not_mem_nil, or_false] at hq
      rcases hq with h | h | h | h | h | h <;> simp [h, LF4, stL, Value.category]
    refine V_ipush mi_302_84 ?_
    refine V_istore mi_302_85 ?_
    refine V_sub (lv' := LF5 ad n (Int32.ofInt (R : Int)) (Int32.ofInt (F : Int)) (Int32.ofInt (g : Int)) ((0 : Nat) : Int)) (fun q hq => ?_) (fg_87 hAD hd hF hm hM hg (fun w4 z4 i4 => ?_) 10 0 w3 (by omega) (by omega) i3)
    · simp only [LF5, List.mem_cons, List.not_mem_nil, or_false] at hq
      rcases hq with h | h | h | h | h | h <;> simp [h, LF5, stL, Value.category]
    refine V_iinc (v := Int32.ofInt (g : Int)) mi_302_138 (by simp [LF5]) ?_
    refine V_goto mi_302_141 ?_
    refine V_sub (lv' := LF4 ad n (Int32.ofInt (R : Int)) (Int32.ofInt (F : Int)) ((g + 1 : Nat) : Int)) (fun q hq => ?_) (fg_3 hAD hd hR hF hm hM k144 f (g + 1) w4 (by omega) (by omega) i4)
    simp only [LF4, List.mem_cons, List.not_mem_nil, or_false] at hq
    rcases hq with h | h | h | h | h <;> simp [h, LF5, stL, Value.category, Int32.ofInt_add]
theorem fillGive_ct (hAD : ∀ i : Nat, ad (1000 + i) = D.2 1000 i) {N R F m : Nat} (hN : N ≤ 6) (hR : R < 4) (hF : F < 4) (hm : m ≤ 8) {w0 : va_W} (hM : rd w0 107 F = some (.int (Int32.ofInt (m : Int)))) (hG : GOK ad tys GG w0) : CT l D tys A 302 1 0 0 [.ref (ad 90), .int (Int32.ofInt (N : Int)), .int (Int32.ofInt (R : Int)), .int (Int32.ofInt (F : Int))] w0 (fun r w => r = none ∧ INR ad tys w0 w N m 0) := by
  refine CT_of_V (by omega) (show (4 : Nat) ≤ mML 302 by decide +kernel) ?_
  refine V_ipush mi_302_0 ?_
  refine V_istore mi_302_1 ?_
  refine V_sub (lv' := LF4 ad (Int32.ofInt (N : Int)) (Int32.ofInt (R : Int)) (Int32.ofInt (F : Int)) ((0 : Nat) : Int)) (fun q hq => ?_) (fg_3 hAD (by omega) hR hF hm hM (fun w i => ?_) 65 0 w0 (by omega) (by omega) ⟨hG, FRm_rf, fun j hj => absurd hj (Nat.not_lt_zero j)⟩)
  · simp only [LF4, List.mem_cons, List.not_mem_nil, or_false] at hq
    rcases hq with h | h | h | h | h <;> simp [h, lv_args, stL, Value.category]
  · obtain ⟨s2, e102, f102⟩ := gs102
    obtain ⟨cA, fx, ax, -⟩ := arr_of i.1 e102
    exact fg_144 hAD (by omega) hm hN hF (fun w2 h2 => ⟨rfl, h2⟩) w (by rw [i.2.1.1 107 (by simp) F]; exact hM) i.1 i.2.1 (fun g hg => ⟨i.2.2 g hg, _, rd_arr ax hg⟩)
end GIV8
section GIV9
variable {l : Launch} {D : va_G} {tys : List (ClassId × FieldType)} {A : Nat → Prop} {ad : Nat → Nat} {d : Nat} {post : Option Value → va_W → Prop}
theorem INR_frm {w0 w w' : va_W} {N m r : Nat} (h : INR ad tys w0 w N m r) (hG : GOK ad tys GG w') (hf : FRm [] w w') : INR ad tys w0 w' N m r := ⟨hG, FRm_tr h.2.1 hf (fun _ q => absurd q (by simp)), GVL_frm h.2.2.1 hf, fun k t a b c => PC_frm (h.2.2.2.1 k t a b c) hf, fun t a => PB_frm (h.2.2.2.2 t a) hf⟩
noncomputable def LG9 (ad : Nat → Nat) (n fr fo no : Int32) (i s g k : Nat) : List (Nat × Value) := [(0, .ref (ad 90)), (1, .int n), (2, .int fr), (3, .int fo), (4, .int (Int32.ofInt i)), (5, .int no), (6, .int (Int32.ofInt s)), (7, .int (Int32.ofInt g)), (8, .int (Int32.ofInt k))]
theorem gv_while (hAD : ∀ i : Nat, ad (1000 + i) = D.2 1000 i) (hd : 0 < d) {w0 : va_W} {n fr fo no : Int32} {N m i s k gf : Nat} {p : Int} (hm : 2 ^ m ≤ 256) (hN : N ≤ 6) (hk : k < N) (hs : s < 2 ^ m) (p2 : 0 ≤ p) (p3 : p < 1000000) (hgf : gf < 64)
    (k134 : ∀ (w : va_W) (g b : Nat) (v : Int), INR ad tys w0 w N m 0 → g < 64 → b < 2 ^ m → rd w 103 g = some (.int (Int32.ofInt b)) → rd w 104 (256 * (k + 1) + (s ||| b)) = some (.int (Int32.ofInt v)) → 0 ≤ v → v < 1000000 → V l D tys A 304 d 0 0 post 0 0 134 (LG9 ad n fr fo no i s g k) [] w) :
    ∀ (f g : Nat) (w : va_W), 64 - g < f → g ≤ gf → INR ad tys w0 w N m 0 → rd w 104 (256 * k + s) = some (.int (Int32.ofInt p)) → (∃ (b : Nat) (x : Int32) (v : Int), rd w 102 gf = some (.int x) ∧ x ≠ 0 ∧ rd w 103 gf = some (.int (Int32.ofInt b)) ∧ rd w 104 (256 * (k + 1) + (s ||| b)) = some (.int (Int32.ofInt v)) ∧ p = Bt gf + v) → V l D tys A 304 d 0 0 post 0 0 71 (LG9 ad n fr fo no i s g k) [] w
  | 0, g, w, h, hg, _, _, _ => by omega
  | f + 1, g, w, h, hg, hI, hp, hfit => by
    have m0 : (0, Value.ref (ad 90)) ∈ LG9 ad n fr fo no i s g k := by simp [LG9]
    have m6 : (6, Value.int (Int32.ofInt s)) ∈ LG9 ad n fr fo no i s g k := by simp [LG9]
    have m7 : (7, Value.int (Int32.ofInt g)) ∈ LG9 ad n fr fo no i s g k := by simp [LG9]
    have m8 : (8, Value.int (Int32.ofInt k)) ∈ LG9 ad n fr fo no i s g k := by simp [LG9]
    obtain ⟨s2, e102⟩ := gc102
    obtain ⟨s3, e103⟩ := gc103
    obtain ⟨s4, e104, f104⟩ := gc104
    obtain ⟨⟨b, b1, b2⟩, x, x1⟩ := hI.2.2.1 g (by omega)
    have next : ∀ w' : va_W, g ≠ gf → INR ad tys w0 w' N m 0 → FRm [] w w' → V l D tys A 304 d 0 0 post 0 0 128 (LG9 ad n fr fo no i s g k) [] w' := by
      intro w' hne i1 f1
      refine V_iinc (v := Int32.ofInt g) mi_304_128 m7 ?_
      refine V_goto mi_304_131 ?_
      refine V_sub (lv' := LG9 ad n fr fo no i s (g + 1) k) (fun q hq => ?_) (gv_while hAD hd hm hN hk hs p2 p3 hgf k134 f (g + 1) w' (by omega) (by omega) i1 (by rw [f1.1 104 (by simp)]; exact hp) (by simp only [f1.1 102 (by simp), f1.1 103 (by simp), f1.1 104 (by simp)]; exact hfit))
      simp only [LG9, List.mem_cons, List.not_mem_nil, or_false] at hq
      rcases hq with h | h | h | h | h | h | h | h | h <;> simp [h, LG9, stL, Value.category, Int32.ofInt_add]
    refine V_aload (v := ad 90) mi_304_71 m0 ?_
    refine V_getR mi_304_72 gf26 (by omega) hI.1 ?_
    refine V_iload (v := Int32.ofInt g) mi_304_75 m7 ?_
    refine V_zldR mi_304_77 hI.1 e102 (by omega) (by omega) x1 ?_
    refine V_if mi_304_78 (fun hx0 => ?_) (fun hx0 => ?_)
    · refine next w (fun e => ?_) hI FRm_rf
      obtain ⟨b', x', v', c1, c2, -⟩ := hfit
      rw [← e, x1] at c1
      cases c1
      exact c2 hx0
    refine V_iload (v := Int32.ofInt g) mi_304_81 m7 ?_
    refine V_stat (As := [.int (Int32.ofInt g)]) (st := []) mi_304_83 (by omega) (bits_ct hAD (show g < 64 by omega) hI.1) hd (show 1 = mN 194 by decide +kernel) (by simp) ⟨Nat.le_refl _, Nat.le_refl _⟩ ?_
    rintro r1 w1 ⟨G1, F1, rfl⟩
    have hI1 := INR_frm hI G1 F1
    have b2 : rd w1 103 g = some (.int (Int32.ofInt b)) := by rw [F1.1 103 (by simp) g]; exact b2
    have hp1 : rd w1 104 (256 * k + s) = some (.int (Int32.ofInt p)) := by rw [F1.1 104 (by simp)]; exact hp
    have hor : s ||| b < 2 ^ m := Nat.or_lt_two_pow hs b1
    have hn : PB w1 (k + 1) (s ||| b) := by
      by_cases h6 : k + 1 = N
      · rw [h6]; exact hI1.2.2.2.2 _ hor
      · exact PC_PB (hI1.2.2.2.1 (k + 1) _ (by omega) (by omega) hor)
    obtain ⟨v, v1, v2, v3⟩ := hn
    have bt0 := Bt_ge g
    have bt1 : Bt g ≤ 6 := by
      have q := List.length_filter_le (fun k => g.testBit k) (List.range 6)
      rw [List.length_range] at q
      show ((_ : Nat) : Int) ≤ 6
      omega
    refine V_aload (v := ad 90) mi_304_86 m0 ?_
    refine V_getR mi_304_87 gf28 (by omega) hI1.1 ?_
    refine V_ipush mi_304_90 ?_
    refine V_iload (v := Int32.ofInt k) mi_304_93 m8 ?_
    refine V_ipush mi_304_95 ?_
    refine V_ibin mi_304_96 (by omega) ?_
    refine V_ibin mi_304_97 (by omega) ?_
    refine V_iload (v := Int32.ofInt s) mi_304_98 m6 ?_
    refine V_aload (v := ad 90) mi_304_100 m0 ?_
    refine V_getR mi_304_101 gf27 (by omega) hI1.1 ?_
    refine V_iload (v := Int32.ofInt g) mi_304_104 m7 ?_
    refine V_aldX (j := g) mi_304_106 rfl hI1.1 e103 (by omega) (by omega) b2 ?_
    refine V_ibin mi_304_107 (by omega) ?_
    refine V_ibin mi_304_108 (by omega) ?_
    have en : ibF 0 (ibF 2 (Int32.ofInt 256) (ibF 0 (Int32.ofInt (k : Int)) (Int32.ofInt 1))) (ibF 6 (Int32.ofInt (s : Int)) (Int32.ofInt (b : Int))) = Int32.ofInt ((256 * (k + 1) + (s ||| b) : Nat) : Int) := by rw [or_nat, add_z, mul_z, add_z]; exact ofN (by omega)
    refine V_aldX (j := 256 * (k + 1) + (s ||| b)) mi_304_109 en hI1.1 e104 (by omega) (by omega) v1 ?_
    refine V_ibin mi_304_110 (by omega) ?_
    rw [add_z]
    refine V_aload (v := ad 90) mi_304_111 m0 ?_
    refine V_getR mi_304_112 gf28 (by omega) hI1.1 ?_
    refine V_ipush mi_304_115 ?_
    refine V_iload (v := Int32.ofInt k) mi_304_118 m8 ?_
    refine V_ibin mi_304_120 (by omega) ?_
    refine V_iload (v := Int32.ofInt s) mi_304_121 m6 ?_
    refine V_ibin mi_304_123 (by omega) ?_
    have ei : ibF 0 (ibF 2 (Int32.ofInt 256) (Int32.ofInt (k : Int))) (Int32.ofInt (s : Int)) = Int32.ofInt ((256 * k + s : Nat) : Int) := by rw [mul_z, add_z]; exact ofN (by omega)
    refine V_aldX (j := 256 * k + s) mi_304_124 ei hI1.1 e104 (by omega) (by omega) hp1 ?_
    have hc := cdP_iff (x := 0) (a := Bt g + v) (b := p) (by omega) (by omega) (by omega) (by omega)
    refine V_icmp mi_304_125 (fun he => ?_) (fun hne => ?_)
    · have he : Bt g + v - p = 0 := hc.mp he
      exact k134 w1 g b v hI1 (by omega) b1 b2 v1 v2 (by omega)
    · refine next w1 (fun e => ?_) hI1 F1
      obtain ⟨b', x', v', c1, c2, c3, c4, c5⟩ := hfit
      subst e
      rw [← F1.1 103 (by simp) g, b2] at c3
      obtain ⟨cA, fx, ax, -⟩ := arr_of hI.1 e104
      have hb' : b' < 1792 := by
        have q := c4
        rw [rd_at ax] at q
        have q : (if 256 * (k + 1) + (s ||| b') < 1792 then some (Value.int (fx (256 * (k + 1) + (s ||| b')))) else none) = some (Value.int (Int32.ofInt v')) := q
        by_cases hh : 256 * (k + 1) + (s ||| b') < 1792
        · have := (Nat.right_le_or : b' ≤ s ||| b'); omega
        · rw [if_neg hh] at q; cases q
      have eb : b = b' := by
        have q := congrArg Int32.toInt (Value.int.inj (Option.some.inj c3))
        rw [Int32.toInt_ofInt_of_le (by omega) (by omega), Int32.toInt_ofInt_of_le (by omega) (by omega)] at q
        omega
      subst eb
      rw [← F1.1 104 (by simp), v1] at c4
      have ev : v = v' := by
        have q := congrArg Int32.toInt (Value.int.inj (Option.some.inj c4))
        rw [Int32.toInt_ofInt_of_le (by omega) (by omega), Int32.toInt_ofInt_of_le (by omega) (by omega)] at q
        exact q
      exact hne (hc.mpr (show Bt g + v - p = 0 by omega))
theorem gv_k (hAD : ∀ i : Nat, ad (1000 + i) = D.2 1000 i) (hd : 0 < d) {w0 : va_W} {n fr fo no : Int32} {N m i : Nat} (hm : 2 ^ m ≤ 256) (hN : N ≤ 6) (hi : i < N) (hpost : ∀ (z : Int32) (w : va_W), INR ad tys w0 w N m 0 → post (some (.int z)) w) : ∀ (f k s g : Nat) (w : va_W), i + 1 - k < f → k ≤ i + 1 → s < 2 ^ m → INR ad tys w0 w N m 0 → (∃ p : Int, rd w 104 (256 * k + s) = some (.int (Int32.ofInt p)) ∧ 0 ≤ p ∧ p < 1000000) → V l D tys A 304 d 0 0 post 0 0 61 (LG9 ad n fr fo no i s g k) [] w
  | 0, k, s, g, w, h, _, _, _, _ => by omega
  | f + 1, k, s, g, w, h, hk, hs, hI, hp => by
    have m4 : (4, Value.int (Int32.ofInt i)) ∈ LG9 ad n fr fo no i s g k := by simp [LG9]
    have m7 : (7, Value.int (Int32.ofInt g)) ∈ LG9 ad n fr fo no i s g k := by simp [LG9]
    have m8 : (8, Value.int (Int32.ofInt k)) ∈ LG9 ad n fr fo no i s g k := by simp [LG9]
    refine V_iload (v := Int32.ofInt k) mi_304_61 m8 ?_
    refine V_iload (v := Int32.ofInt i) mi_304_63 m4 ?_
    have hc := cdP_iff (x := 4) (a := (k : Int)) (b := (i : Int)) (by omega) (by omega) (by omega) (by omega)
    refine V_icmp mi_304_65 (fun _ => ?_) (fun hle => ?_)
    · refine V_iload (v := Int32.ofInt g) mi_304_152 m7 ?_
      exact V_retI mi_304_154 (fun h => absurd h (by decide +kernel)) (hpost _ w hI)
    have hki : k ≤ i := by
      have : ¬ ((k : Int) - i > 0) := fun q => hle (hc.mpr q)
      omega
    obtain ⟨p, p1, p2, p3⟩ := hp
    obtain ⟨p', c1, c2, c3, c4⟩ := hI.2.2.2.1 k s (Nat.zero_le _) (by omega) hs
    have ep : p = p' := by
      rw [p1] at c1
      have q := congrArg Int32.toInt (Value.int.inj (Option.some.inj c1))
      rw [Int32.toInt_ofInt_of_le (by omega) (by omega), Int32.toInt_ofInt_of_le (by omega) (by omega)] at q
      exact q
    subst ep
    rcases c4 with c4 | ⟨gf, b', x', v', e1, e2, e3, e4, e5, e6⟩
    · omega
    refine V_ipush mi_304_68 ?_
    refine V_istore mi_304_69 ?_
    refine V_sub (lv' := LG9 ad n fr fo no i s 0 k) (fun q hq => ?_) (gv_while hAD hd hm hN (show k < N by omega) hs p2 p3 e1 (fun w2 g2 b v I2 hg2 hb2 r2 r3 v2 v3 => ?_) 65 0 w (by omega) (by omega) hI p1 ⟨b', x', v', e2, e3, e4, e5, e6⟩)
    · simp only [LG9, List.mem_cons, List.not_mem_nil, or_false] at hq
      rcases hq with h | h | h | h | h | h | h | h | h <;> simp [h, LG9, stL, Value.category]
    obtain ⟨s3, e103⟩ := gc103
    refine V_iload (v := Int32.ofInt s) mi_304_134 (by simp [LG9]) ?_
    refine V_aload (v := ad 90) mi_304_136 (by simp [LG9]) ?_
    refine V_getR mi_304_137 gf27 (by omega) I2.1 ?_
    refine V_iload (v := Int32.ofInt g2) mi_304_140 (by simp [LG9]) ?_
    refine V_aldX (j := g2) mi_304_142 rfl I2.1 e103 hg2 (by omega) r2 ?_
    refine V_ibin mi_304_143 (by omega) ?_
    rw [or_nat]
    refine V_istore mi_304_144 ?_
    refine V_iinc (v := Int32.ofInt k) mi_304_146 (by simp [LG9, stL, Value.category]) ?_
    refine V_goto mi_304_149 ?_
    refine V_sub (lv' := LG9 ad n fr fo no i (s ||| b) g2 (k + 1)) (fun q hq => ?_) (gv_k hAD hd hm hN hi hpost f (k + 1) (s ||| b) g2 w2 (by omega) (by omega) (Nat.or_lt_two_pow hs hb2) I2 ⟨v, r3, v2, v3⟩)
    simp only [LG9, List.mem_cons, List.not_mem_nil, or_false] at hq
    rcases hq with h | h | h | h | h | h | h | h | h <;> simp [h, LG9, stL, Value.category, Int32.ofInt_add]
end GIV9
