theorem mi_212_0 : mI 212 0 = (3, 0, 1, 0, 0) := by decide +kernel
theorem mi_212_1 : mI 212 1 = (5, 0, 0, 0, 0) := by decide +kernel
theorem mi_212_2 : mI 212 2 = (17, 1213, 100, 11, 7) := by decide +kernel
theorem mi_212_5 : mI 212 5 = (15, 16, 3, 21, 0) := by decide +kernel
theorem mi_212_8 : mI 212 8 = (5, 0, 0, 0, 0) := by decide +kernel
theorem mi_212_9 : mI 212 9 = (17, 1210, 20, 11, 4) := by decide +kernel
theorem mi_212_12 : mI 212 12 = (3, 0, 1, 0, 0) := by decide +kernel
theorem mi_212_13 : mI 212 13 = (19, 0, 1, 0, 0) := by decide +kernel
theorem mi_212_14 : mI 212 14 = (1, 255, 2, 0, 0) := by decide +kernel
theorem mi_212_17 : mI 212 17 = (10, 0, 5, 0, 0) := by decide +kernel
theorem mi_212_18 : mI 212 18 = (16, 4, 0, 22, 0) := by decide +kernel
theorem mi_212_21 : mI 212 21 = (1, (-1), 0, 0, 0) := by decide +kernel
theorem mi_212_22 : mI 212 22 = (27, 0, 0, 0, 0) := by decide +kernel
theorem mi_213_0 : mI 213 0 = (5, 0, 0, 0, 0) := by decide +kernel
theorem mi_213_1 : mI 213 1 = (5, 0, 0, 0, 0) := by decide +kernel
theorem mi_213_2 : mI 213 2 = (17, 1214, 103, 11, 8) := by decide +kernel
theorem mi_213_5 : mI 213 5 = (26, 1348, 106, 212, 0) := by decide +kernel
theorem mi_213_8 : mI 213 8 = (1, 32, 1, 0, 0) := by decide +kernel
theorem mi_213_10 : mI 213 10 = (15, 16, 0, 26, 0) := by decide +kernel
theorem mi_213_13 : mI 213 13 = (5, 0, 0, 0, 0) := by decide +kernel
theorem mi_213_14 : mI 213 14 = (5, 0, 0, 0, 0) := by decide +kernel
theorem mi_213_15 : mI 213 15 = (17, 1214, 103, 11, 8) := by decide +kernel
theorem mi_213_18 : mI 213 18 = (26, 1348, 106, 212, 0) := by decide +kernel
theorem mi_213_21 : mI 213 21 = (1, 10, 1, 0, 0) := by decide +kernel
theorem mi_213_23 : mI 213 23 = (15, 16, 1, 39, 0) := by decide +kernel
theorem mi_213_26 : mI 213 26 = (5, 0, 0, 0, 0) := by decide +kernel
theorem mi_213_27 : mI 213 27 = (22, 0, 0, 0, 0) := by decide +kernel
theorem mi_213_28 : mI 213 28 = (17, 1214, 103, 11, 8) := by decide +kernel
theorem mi_213_31 : mI 213 31 = (1, 1, 0, 0, 0) := by decide +kernel
theorem mi_213_32 : mI 213 32 = (10, 0, 0, 0, 0) := by decide +kernel
theorem mi_213_33 : mI 213 33 = (18, 1214, 103, 11, 8) := by decide +kernel
theorem mi_213_36 : mI 213 36 = (16, (-36), 0, 0, 0) := by decide +kernel
theorem mi_213_39 : mI 213 39 = (5, 0, 0, 0, 0) := by decide +kernel
theorem mi_213_40 : mI 213 40 = (5, 0, 0, 0, 0) := by decide +kernel
theorem mi_213_41 : mI 213 41 = (17, 1214, 103, 11, 8) := by decide +kernel
theorem mi_213_44 : mI 213 44 = (18, 1215, 109, 11, 9) := by decide +kernel
theorem mi_213_47 : mI 213 47 = (5, 0, 0, 0, 0) := by decide +kernel
theorem mi_213_48 : mI 213 48 = (5, 0, 0, 0, 0) := by decide +kernel
theorem mi_213_49 : mI 213 49 = (17, 1214, 103, 11, 8) := by decide +kernel
theorem mi_213_52 : mI 213 52 = (26, 1348, 106, 212, 0) := by decide +kernel
theorem mi_213_55 : mI 213 55 = (6, 0, 1, 0, 0) := by decide +kernel
theorem mi_213_56 : mI 213 56 = (3, 0, 1, 0, 0) := by decide +kernel
theorem mi_213_57 : mI 213 57 = (1, (-1), 0, 0, 0) := by decide +kernel
theorem mi_213_58 : mI 213 58 = (15, 11, 1, 69, 0) := by decide +kernel
theorem mi_213_61 : mI 213 61 = (5, 0, 0, 0, 0) := by decide +kernel
theorem mi_213_62 : mI 213 62 = (1, 0, 0, 0, 0) := by decide +kernel
theorem mi_213_63 : mI 213 63 = (18, 1216, 112, 11, 10) := by decide +kernel
theorem mi_213_66 : mI 213 66 = (16, 173, 0, 239, 0) := by decide +kernel
theorem mi_213_69 : mI 213 69 = (3, 0, 1, 0, 0) := by decide +kernel
theorem mi_213_70 : mI 213 70 = (12, 0, 1, 0, 0) := by decide +kernel
theorem mi_213_71 : mI 213 71 = (2, 97, 1, 115, 1352) := by decide +kernel
theorem mi_213_74 : mI 213 74 = (2, 122, 1, 117, 1353) := by decide +kernel
theorem mi_213_77 : mI 213 77 = (26, 1321, 85, 193, 1) := by decide +kernel
theorem mi_213_80 : mI 213 80 = (14, 45, 0, 125, 0) := by decide +kernel
theorem mi_213_83 : mI 213 83 = (5, 0, 0, 0, 0) := by decide +kernel
theorem mi_213_84 : mI 213 84 = (5, 0, 0, 0, 0) := by decide +kernel
theorem mi_213_85 : mI 213 85 = (17, 1214, 103, 11, 8) := by decide +kernel
theorem mi_213_88 : mI 213 88 = (26, 1348, 106, 212, 0) := by decide +kernel
theorem mi_213_91 : mI 213 91 = (12, 0, 1, 0, 0) := by decide +kernel
theorem mi_213_92 : mI 213 92 = (2, 97, 1, 115, 1352) := by decide +kernel
theorem mi_213_95 : mI 213 95 = (2, 122, 1, 117, 1353) := by decide +kernel
theorem mi_213_98 : mI 213 98 = (26, 1321, 85, 193, 1) := by decide +kernel
theorem mi_213_101 : mI 213 101 = (14, 16, 0, 117, 0) := by decide +kernel
theorem mi_213_104 : mI 213 104 = (5, 0, 0, 0, 0) := by decide +kernel
theorem mi_213_105 : mI 213 105 = (22, 0, 0, 0, 0) := by decide +kernel
theorem mi_213_106 : mI 213 106 = (17, 1214, 103, 11, 8) := by decide +kernel
theorem mi_213_109 : mI 213 109 = (1, 1, 0, 0, 0) := by decide +kernel
theorem mi_213_110 : mI 213 110 = (10, 0, 0, 0, 0) := by decide +kernel
theorem mi_213_111 : mI 213 111 = (18, 1214, 103, 11, 8) := by decide +kernel
theorem mi_213_114 : mI 213 114 = (16, (-31), 0, 83, 0) := by decide +kernel
theorem mi_213_117 : mI 213 117 = (5, 0, 0, 0, 0) := by decide +kernel
theorem mi_213_118 : mI 213 118 = (1, 1, 0, 0, 0) := by decide +kernel
theorem mi_213_119 : mI 213 119 = (18, 1216, 112, 11, 10) := by decide +kernel
theorem mi_213_122 : mI 213 122 = (16, 117, 0, 239, 0) := by decide +kernel
theorem mi_213_125 : mI 213 125 = (3, 0, 1, 0, 0) := by decide +kernel
theorem mi_213_126 : mI 213 126 = (12, 0, 1, 0, 0) := by decide +kernel
theorem mi_213_127 : mI 213 127 = (2, 48, 1, 119, 1354) := by decide +kernel
theorem mi_213_130 : mI 213 130 = (2, 57, 1, 121, 1355) := by decide +kernel
theorem mi_213_133 : mI 213 133 = (26, 1321, 85, 193, 1) := by decide +kernel
theorem mi_213_136 : mI 213 136 = (14, 78, 0, 214, 0) := by decide +kernel
theorem mi_213_139 : mI 213 139 = (5, 0, 0, 0, 0) := by decide +kernel
theorem mi_213_140 : mI 213 140 = (1, 0, 0, 0, 0) := by decide +kernel
theorem mi_213_141 : mI 213 141 = (18, 1217, 123, 11, 11) := by decide +kernel
theorem mi_213_144 : mI 213 144 = (5, 0, 0, 0, 0) := by decide +kernel
theorem mi_213_145 : mI 213 145 = (5, 0, 0, 0, 0) := by decide +kernel
theorem mi_213_146 : mI 213 146 = (17, 1214, 103, 11, 8) := by decide +kernel
theorem mi_213_149 : mI 213 149 = (26, 1348, 106, 212, 0) := by decide +kernel
theorem mi_213_152 : mI 213 152 = (12, 0, 1, 0, 0) := by decide +kernel
theorem mi_213_153 : mI 213 153 = (2, 48, 1, 119, 1354) := by decide +kernel
theorem mi_213_156 : mI 213 156 = (2, 57, 1, 121, 1355) := by decide +kernel
theorem mi_213_159 : mI 213 159 = (26, 1321, 85, 193, 1) := by decide +kernel
theorem mi_213_162 : mI 213 162 = (14, 44, 0, 206, 0) := by decide +kernel
theorem mi_213_165 : mI 213 165 = (5, 0, 0, 0, 0) := by decide +kernel
theorem mi_213_166 : mI 213 166 = (1, 99999, 3, 126, 1356) := by decide +kernel
theorem mi_213_168 : mI 213 168 = (1, 10, 1, 0, 0) := by decide +kernel
theorem mi_213_170 : mI 213 170 = (5, 0, 0, 0, 0) := by decide +kernel
theorem mi_213_171 : mI 213 171 = (17, 1217, 123, 11, 11) := by decide +kernel
theorem mi_213_174 : mI 213 174 = (10, 0, 2, 0, 0) := by decide +kernel
theorem mi_213_175 : mI 213 175 = (5, 0, 0, 0, 0) := by decide +kernel
theorem mi_213_176 : mI 213 176 = (5, 0, 0, 0, 0) := by decide +kernel
theorem mi_213_177 : mI 213 177 = (17, 1214, 103, 11, 8) := by decide +kernel
theorem mi_213_180 : mI 213 180 = (26, 1348, 106, 212, 0) := by decide +kernel
theorem mi_213_183 : mI 213 183 = (10, 0, 0, 0, 0) := by decide +kernel
theorem mi_213_184 : mI 213 184 = (1, 48, 1, 0, 0) := by decide +kernel
theorem mi_213_186 : mI 213 186 = (10, 0, 1, 0, 0) := by decide +kernel
theorem mi_213_187 : mI 213 187 = (26, 1357, 127, 342, 1) := by decide +kernel
theorem mi_213_190 : mI 213 190 = (18, 1217, 123, 11, 11) := by decide +kernel
theorem mi_213_193 : mI 213 193 = (5, 0, 0, 0, 0) := by decide +kernel
theorem mi_213_194 : mI 213 194 = (22, 0, 0, 0, 0) := by decide +kernel
theorem mi_213_195 : mI 213 195 = (17, 1214, 103, 11, 8) := by decide +kernel
theorem mi_213_198 : mI 213 198 = (1, 1, 0, 0, 0) := by decide +kernel
theorem mi_213_199 : mI 213 199 = (10, 0, 0, 0, 0) := by decide +kernel
theorem mi_213_200 : mI 213 200 = (18, 1214, 103, 11, 8) := by decide +kernel
theorem mi_213_203 : mI 213 203 = (16, (-59), 0, 144, 0) := by decide +kernel
theorem mi_213_206 : mI 213 206 = (5, 0, 0, 0, 0) := by decide +kernel
theorem mi_213_207 : mI 213 207 = (1, 2, 0, 0, 0) := by decide +kernel
theorem mi_213_208 : mI 213 208 = (18, 1216, 112, 11, 10) := by decide +kernel
theorem mi_213_211 : mI 213 211 = (16, 28, 0, 239, 0) := by decide +kernel
theorem mi_213_214 : mI 213 214 = (5, 0, 0, 0, 0) := by decide +kernel
theorem mi_213_215 : mI 213 215 = (3, 0, 1, 0, 0) := by decide +kernel
theorem mi_213_216 : mI 213 216 = (1, 59, 1, 0, 0) := by decide +kernel
theorem mi_213_218 : mI 213 218 = (15, 7, 1, 225, 0) := by decide +kernel
theorem mi_213_221 : mI 213 221 = (1, 3, 0, 0, 0) := by decide +kernel
theorem mi_213_222 : mI 213 222 = (16, 4, 0, 226, 0) := by decide +kernel
theorem mi_213_225 : mI 213 225 = (1, 4, 0, 0, 0) := by decide +kernel
theorem mi_213_226 : mI 213 226 = (18, 1216, 112, 11, 10) := by decide +kernel
theorem mi_213_229 : mI 213 229 = (5, 0, 0, 0, 0) := by decide +kernel
theorem mi_213_230 : mI 213 230 = (22, 0, 0, 0, 0) := by decide +kernel
theorem mi_213_231 : mI 213 231 = (17, 1214, 103, 11, 8) := by decide +kernel
theorem mi_213_234 : mI 213 234 = (1, 1, 0, 0, 0) := by decide +kernel
theorem mi_213_235 : mI 213 235 = (10, 0, 0, 0, 0) := by decide +kernel
theorem mi_213_236 : mI 213 236 = (18, 1214, 103, 11, 8) := by decide +kernel
theorem mi_213_239 : mI 213 239 = (27, 0, 2, 0, 0) := by decide +kernel
theorem mi_214_0 : mI 214 0 = (5, 0, 0, 0, 0) := by decide +kernel
theorem mi_214_1 : mI 214 1 = (17, 1218, 133, 11, 12) := by decide +kernel
theorem mi_214_4 : mI 214 4 = (14, 7, 1, 11, 0) := by decide +kernel
theorem mi_214_7 : mI 214 7 = (1, 1, 0, 0, 0) := by decide +kernel
theorem mi_214_8 : mI 214 8 = (16, 4, 0, 12, 0) := by decide +kernel
theorem mi_214_11 : mI 214 11 = (1, 0, 0, 0, 0) := by decide +kernel
theorem mi_214_12 : mI 214 12 = (27, 0, 0, 0, 0) := by decide +kernel
theorem mi_215_0 : mI 215 0 = (5, 0, 0, 0, 0) := by decide +kernel
theorem mi_215_1 : mI 215 1 = (26, 1358, 136, 214, 0) := by decide +kernel
theorem mi_215_4 : mI 215 4 = (14, 4, 1, 8, 0) := by decide +kernel
theorem mi_215_7 : mI 215 7 = (27, 0, 2, 0, 0) := by decide +kernel
theorem mi_215_8 : mI 215 8 = (5, 0, 0, 0, 0) := by decide +kernel
theorem mi_215_9 : mI 215 9 = (3, 0, 1, 0, 0) := by decide +kernel
theorem mi_215_10 : mI 215 10 = (18, 1218, 133, 11, 12) := by decide +kernel
theorem mi_215_13 : mI 215 13 = (5, 0, 0, 0, 0) := by decide +kernel
theorem mi_215_14 : mI 215 14 = (5, 0, 0, 0, 0) := by decide +kernel
theorem mi_215_15 : mI 215 15 = (17, 1215, 109, 11, 9) := by decide +kernel
theorem mi_215_18 : mI 215 18 = (18, 1219, 27, 11, 13) := by decide +kernel
theorem mi_215_21 : mI 215 21 = (27, 0, 2, 0, 0) := by decide +kernel
theorem mi_216_0 : mI 216 0 = (5, 0, 0, 0, 0) := by decide +kernel
theorem mi_216_1 : mI 216 1 = (26, 1358, 136, 214, 0) := by decide +kernel
theorem mi_216_4 : mI 216 4 = (14, 31, 0, 35, 0) := by decide +kernel
theorem mi_216_7 : mI 216 7 = (5, 0, 0, 0, 0) := by decide +kernel
theorem mi_216_8 : mI 216 8 = (17, 1216, 112, 11, 10) := by decide +kernel
theorem mi_216_11 : mI 216 11 = (1, 1, 0, 0, 0) := by decide +kernel
theorem mi_216_12 : mI 216 12 = (15, 23, 1, 35, 0) := by decide +kernel
theorem mi_216_15 : mI 216 15 = (5, 0, 0, 0, 0) := by decide +kernel
theorem mi_216_16 : mI 216 16 = (17, 1214, 103, 11, 8) := by decide +kernel
theorem mi_216_19 : mI 216 19 = (5, 0, 0, 0, 0) := by decide +kernel
theorem mi_216_20 : mI 216 20 = (17, 1215, 109, 11, 9) := by decide +kernel
theorem mi_216_23 : mI 216 23 = (10, 0, 1, 0, 0) := by decide +kernel
theorem mi_216_24 : mI 216 24 = (5, 0, 1, 0, 0) := by decide +kernel
theorem mi_216_25 : mI 216 25 = (26, 1383, 140, 345, 0) := by decide +kernel
theorem mi_216_28 : mI 216 28 = (15, 7, 1, 35, 0) := by decide +kernel
theorem mi_216_31 : mI 216 31 = (1, 1, 0, 0, 0) := by decide +kernel
theorem mi_216_32 : mI 216 32 = (16, 4, 0, 36, 0) := by decide +kernel
theorem mi_216_35 : mI 216 35 = (1, 0, 0, 0, 0) := by decide +kernel
theorem mi_216_36 : mI 216 36 = (6, 0, 2, 0, 0) := by decide +kernel
theorem mi_216_37 : mI 216 37 = (1, 0, 0, 0, 0) := by decide +kernel
theorem mi_216_38 : mI 216 38 = (6, 0, 3, 0, 0) := by decide +kernel
theorem mi_216_39 : mI 216 39 = (3, 0, 3, 0, 0) := by decide +kernel
theorem mi_216_40 : mI 216 40 = (5, 0, 1, 0, 0) := by decide +kernel
theorem mi_216_41 : mI 216 41 = (26, 1383, 140, 345, 0) := by decide +kernel
theorem mi_216_44 : mI 216 44 = (15, 38, 3, 82, 0) := by decide +kernel
theorem mi_216_47 : mI 216 47 = (3, 0, 2, 0, 0) := by decide +kernel
theorem mi_216_48 : mI 216 48 = (14, 34, 0, 82, 0) := by decide +kernel
theorem mi_216_51 : mI 216 51 = (5, 0, 0, 0, 0) := by decide +kernel
theorem mi_216_52 : mI 216 52 = (17, 1210, 20, 11, 4) := by decide +kernel
theorem mi_216_55 : mI 216 55 = (5, 0, 0, 0, 0) := by decide +kernel
theorem mi_216_56 : mI 216 56 = (17, 1215, 109, 11, 9) := by decide +kernel
theorem mi_216_59 : mI 216 59 = (3, 0, 3, 0, 0) := by decide +kernel
theorem mi_216_60 : mI 216 60 = (10, 0, 0, 0, 0) := by decide +kernel
theorem mi_216_61 : mI 216 61 = (19, 0, 1, 0, 0) := by decide +kernel
theorem mi_216_62 : mI 216 62 = (5, 0, 1, 0, 0) := by decide +kernel
theorem mi_216_63 : mI 216 63 = (3, 0, 3, 0, 0) := by decide +kernel
theorem mi_216_64 : mI 216 64 = (26, 1384, 146, 346, 0) := by decide +kernel
theorem mi_216_67 : mI 216 67 = (15, 7, 1, 74, 0) := by decide +kernel
theorem mi_216_70 : mI 216 70 = (1, 1, 0, 0, 0) := by decide +kernel
theorem mi_216_71 : mI 216 71 = (16, 4, 0, 75, 0) := by decide +kernel
theorem mi_216_74 : mI 216 74 = (1, 0, 0, 0, 0) := by decide +kernel
theorem mi_216_75 : mI 216 75 = (6, 0, 2, 0, 0) := by decide +kernel
theorem mi_216_76 : mI 216 76 = (9, 1, 3, 0, 0) := by decide +kernel
theorem mi_216_79 : mI 216 79 = (16, (-40), 0, 39, 0) := by decide +kernel
theorem mi_216_82 : mI 216 82 = (3, 0, 2, 0, 0) := by decide +kernel
theorem mi_216_83 : mI 216 83 = (27, 0, 0, 0, 0) := by decide +kernel
theorem mi_217_0 : mI 217 0 = (5, 0, 0, 0, 0) := by decide +kernel
theorem mi_217_1 : mI 217 1 = (5, 0, 1, 0, 0) := by decide +kernel
theorem mi_217_2 : mI 217 2 = (26, 1379, 150, 216, 0) := by decide +kernel
theorem mi_217_5 : mI 217 5 = (6, 0, 2, 0, 0) := by decide +kernel
theorem mi_217_6 : mI 217 6 = (3, 0, 2, 0, 0) := by decide +kernel
theorem mi_217_7 : mI 217 7 = (14, 7, 0, 14, 0) := by decide +kernel
theorem mi_217_10 : mI 217 10 = (5, 0, 0, 0, 0) := by decide +kernel
theorem mi_217_11 : mI 217 11 = (26, 1344, 154, 213, 0) := by decide +kernel
theorem mi_217_14 : mI 217 14 = (3, 0, 2, 0, 0) := by decide +kernel
theorem mi_217_15 : mI 217 15 = (27, 0, 0, 0, 0) := by decide +kernel
theorem mi_231_0 : mI 231 0 = (5, 0, 0, 0, 0) := by decide +kernel
theorem mi_231_1 : mI 231 1 = (35, 0, 196, 17, 0) := by decide +kernel
theorem mi_231_3 : mI 231 3 = (26, 1379, 150, 216, 0) := by decide +kernel
theorem mi_231_6 : mI 231 6 = (14, 57, 1, 63, 0) := by decide +kernel
theorem mi_231_9 : mI 231 9 = (5, 0, 0, 0, 0) := by decide +kernel
theorem mi_231_10 : mI 231 10 = (35, 0, 198, 18, 0) := by decide +kernel
theorem mi_231_12 : mI 231 12 = (26, 1379, 150, 216, 0) := by decide +kernel
theorem mi_231_15 : mI 231 15 = (14, 48, 1, 63, 0) := by decide +kernel
theorem mi_231_18 : mI 231 18 = (5, 0, 0, 0, 0) := by decide +kernel
theorem mi_231_19 : mI 231 19 = (35, 0, 200, 19, 0) := by decide +kernel
theorem mi_231_21 : mI 231 21 = (26, 1379, 150, 216, 0) := by decide +kernel
theorem mi_231_24 : mI 231 24 = (14, 39, 1, 63, 0) := by decide +kernel
theorem mi_231_27 : mI 231 27 = (5, 0, 0, 0, 0) := by decide +kernel
theorem mi_231_28 : mI 231 28 = (35, 0, 202, 20, 0) := by decide +kernel
theorem mi_231_30 : mI 231 30 = (26, 1379, 150, 216, 0) := by decide +kernel
theorem mi_231_33 : mI 231 33 = (14, 30, 1, 63, 0) := by decide +kernel
theorem mi_231_36 : mI 231 36 = (5, 0, 0, 0, 0) := by decide +kernel
theorem mi_231_37 : mI 231 37 = (35, 0, 204, 21, 0) := by decide +kernel
theorem mi_231_39 : mI 231 39 = (26, 1379, 150, 216, 0) := by decide +kernel
theorem mi_231_42 : mI 231 42 = (14, 21, 1, 63, 0) := by decide +kernel
theorem mi_231_45 : mI 231 45 = (5, 0, 0, 0, 0) := by decide +kernel
theorem mi_231_46 : mI 231 46 = (35, 0, 206, 22, 0) := by decide +kernel
theorem mi_231_48 : mI 231 48 = (26, 1379, 150, 216, 0) := by decide +kernel
theorem mi_231_51 : mI 231 51 = (14, 12, 1, 63, 0) := by decide +kernel
theorem mi_231_54 : mI 231 54 = (5, 0, 0, 0, 0) := by decide +kernel
theorem mi_231_55 : mI 231 55 = (35, 0, 208, 23, 0) := by decide +kernel
theorem mi_231_57 : mI 231 57 = (26, 1379, 150, 216, 0) := by decide +kernel
theorem mi_231_60 : mI 231 60 = (14, 7, 0, 67, 0) := by decide +kernel
theorem mi_231_63 : mI 231 63 = (1, 1, 0, 0, 0) := by decide +kernel
theorem mi_231_64 : mI 231 64 = (16, 4, 0, 68, 0) := by decide +kernel
theorem mi_231_67 : mI 231 67 = (1, 0, 0, 0, 0) := by decide +kernel
theorem mi_231_68 : mI 231 68 = (6, 0, 1, 0, 0) := by decide +kernel
theorem mi_231_69 : mI 231 69 = (3, 0, 1, 0, 0) := by decide +kernel
theorem mi_231_70 : mI 231 70 = (14, 8, 1, 78, 0) := by decide +kernel
theorem mi_231_73 : mI 231 73 = (5, 0, 0, 0, 0) := by decide +kernel
theorem mi_231_74 : mI 231 74 = (1, 1, 0, 0, 0) := by decide +kernel
theorem mi_231_75 : mI 231 75 = (26, 1385, 160, 215, 0) := by decide +kernel
theorem mi_231_78 : mI 231 78 = (5, 0, 0, 0, 0) := by decide +kernel
theorem mi_231_79 : mI 231 79 = (35, 0, 196, 17, 0) := by decide +kernel
theorem mi_231_81 : mI 231 81 = (26, 1379, 150, 216, 0) := by decide +kernel
theorem mi_231_84 : mI 231 84 = (14, 14, 0, 98, 0) := by decide +kernel
theorem mi_231_87 : mI 231 87 = (5, 0, 0, 0, 0) := by decide +kernel
theorem mi_231_88 : mI 231 88 = (17, 1220, 31, 11, 14) := by decide +kernel
theorem mi_231_91 : mI 231 91 = (1, 3, 0, 0, 0) := by decide +kernel
theorem mi_231_92 : mI 231 92 = (19, 0, 0, 0, 0) := by decide +kernel
theorem mi_231_93 : mI 231 93 = (1, 6, 1, 0, 0) := by decide +kernel
theorem mi_231_95 : mI 231 95 = (15, 23, 0, 118, 0) := by decide +kernel
theorem mi_231_98 : mI 231 98 = (5, 0, 0, 0, 0) := by decide +kernel
theorem mi_231_99 : mI 231 99 = (35, 0, 206, 22, 0) := by decide +kernel
theorem mi_231_101 : mI 231 101 = (26, 1379, 150, 216, 0) := by decide +kernel
theorem mi_231_104 : mI 231 104 = (14, 19, 0, 123, 0) := by decide +kernel
theorem mi_231_107 : mI 231 107 = (5, 0, 0, 0, 0) := by decide +kernel
theorem mi_231_108 : mI 231 108 = (17, 1220, 31, 11, 14) := by decide +kernel
theorem mi_231_111 : mI 231 111 = (1, 4, 0, 0, 0) := by decide +kernel
theorem mi_231_112 : mI 231 112 = (19, 0, 0, 0, 0) := by decide +kernel
theorem mi_231_113 : mI 231 113 = (1, 12, 1, 0, 0) := by decide +kernel
theorem mi_231_115 : mI 231 115 = (15, 8, 1, 123, 0) := by decide +kernel
theorem mi_231_118 : mI 231 118 = (5, 0, 0, 0, 0) := by decide +kernel
theorem mi_231_119 : mI 231 119 = (1, 3, 0, 0, 0) := by decide +kernel
theorem mi_231_120 : mI 231 120 = (26, 1385, 160, 215, 0) := by decide +kernel
theorem mi_231_123 : mI 231 123 = (5, 0, 0, 0, 0) := by decide +kernel
theorem mi_231_124 : mI 231 124 = (26, 1358, 136, 214, 0) := by decide +kernel
theorem mi_231_127 : mI 231 127 = (14, 4, 1, 131, 0) := by decide +kernel
theorem mi_231_130 : mI 231 130 = (27, 0, 2, 0, 0) := by decide +kernel
theorem mi_231_131 : mI 231 131 = (5, 0, 0, 0, 0) := by decide +kernel
theorem mi_231_132 : mI 231 132 = (35, 0, 196, 17, 0) := by decide +kernel
theorem mi_231_134 : mI 231 134 = (26, 1375, 157, 217, 0) := by decide +kernel
theorem mi_231_137 : mI 231 137 = (14, 10, 0, 147, 0) := by decide +kernel
theorem mi_231_140 : mI 231 140 = (5, 0, 0, 0, 0) := by decide +kernel
theorem mi_231_141 : mI 231 141 = (26, 1411, 210, 226, 0) := by decide +kernel
theorem mi_231_144 : mI 231 144 = (16, 171, 0, 315, 0) := by decide +kernel
theorem mi_231_147 : mI 231 147 = (5, 0, 0, 0, 0) := by decide +kernel
theorem mi_231_148 : mI 231 148 = (35, 0, 198, 18, 0) := by decide +kernel
theorem mi_231_150 : mI 231 150 = (26, 1375, 157, 217, 0) := by decide +kernel
theorem mi_231_153 : mI 231 153 = (14, 35, 0, 188, 0) := by decide +kernel
theorem mi_231_156 : mI 231 156 = (5, 0, 0, 0, 0) := by decide +kernel
theorem mi_231_157 : mI 231 157 = (26, 1415, 171, 222, 0) := by decide +kernel
theorem mi_231_160 : mI 231 160 = (6, 0, 2, 0, 0) := by decide +kernel
theorem mi_231_161 : mI 231 161 = (5, 0, 0, 0, 0) := by decide +kernel
theorem mi_231_162 : mI 231 162 = (1, 1, 0, 0, 0) := by decide +kernel
theorem mi_231_163 : mI 231 163 = (1, 4, 0, 0, 0) := by decide +kernel
theorem mi_231_164 : mI 231 164 = (26, 1394, 168, 219, 0) := by decide +kernel
theorem mi_231_167 : mI 231 167 = (6, 0, 3, 0, 0) := by decide +kernel
theorem mi_231_168 : mI 231 168 = (5, 0, 0, 0, 0) := by decide +kernel
theorem mi_231_169 : mI 231 169 = (26, 1358, 136, 214, 0) := by decide +kernel
theorem mi_231_172 : mI 231 172 = (14, 13, 0, 185, 0) := by decide +kernel
theorem mi_231_175 : mI 231 175 = (5, 0, 0, 0, 0) := by decide +kernel
theorem mi_231_176 : mI 231 176 = (17, 1220, 31, 11, 14) := by decide +kernel
theorem mi_231_179 : mI 231 179 = (1, 48, 1, 0, 0) := by decide +kernel
theorem mi_231_181 : mI 231 181 = (3, 0, 2, 0, 0) := by decide +kernel
theorem mi_231_182 : mI 231 182 = (10, 0, 0, 0, 0) := by decide +kernel
theorem mi_231_183 : mI 231 183 = (3, 0, 3, 0, 0) := by decide +kernel
theorem mi_231_184 : mI 231 184 = (20, 0, 0, 0, 0) := by decide +kernel
theorem mi_231_185 : mI 231 185 = (16, 130, 0, 315, 0) := by decide +kernel
theorem mi_231_188 : mI 231 188 = (5, 0, 0, 0, 0) := by decide +kernel
theorem mi_231_189 : mI 231 189 = (35, 0, 200, 19, 0) := by decide +kernel
theorem mi_231_191 : mI 231 191 = (26, 1375, 157, 217, 0) := by decide +kernel
theorem mi_231_194 : mI 231 194 = (14, 36, 0, 230, 0) := by decide +kernel
theorem mi_231_197 : mI 231 197 = (5, 0, 0, 0, 0) := by decide +kernel
theorem mi_231_198 : mI 231 198 = (26, 1415, 171, 222, 0) := by decide +kernel
theorem mi_231_201 : mI 231 201 = (6, 0, 2, 0, 0) := by decide +kernel
theorem mi_231_202 : mI 231 202 = (5, 0, 0, 0, 0) := by decide +kernel
theorem mi_231_203 : mI 231 203 = (1, 0, 0, 0, 0) := by decide +kernel
theorem mi_231_204 : mI 231 204 = (1, 100, 1, 0, 0) := by decide +kernel
theorem mi_231_206 : mI 231 206 = (26, 1394, 168, 219, 0) := by decide +kernel
theorem mi_231_209 : mI 231 209 = (6, 0, 3, 0, 0) := by decide +kernel
theorem mi_231_210 : mI 231 210 = (5, 0, 0, 0, 0) := by decide +kernel
theorem mi_231_211 : mI 231 211 = (26, 1358, 136, 214, 0) := by decide +kernel
theorem mi_231_214 : mI 231 214 = (14, 13, 0, 227, 0) := by decide +kernel
theorem mi_231_217 : mI 231 217 = (5, 0, 0, 0, 0) := by decide +kernel
theorem mi_231_218 : mI 231 218 = (17, 1220, 31, 11, 14) := by decide +kernel
theorem mi_231_221 : mI 231 221 = (1, 54, 1, 0, 0) := by decide +kernel
theorem mi_231_223 : mI 231 223 = (3, 0, 2, 0, 0) := by decide +kernel
theorem mi_231_224 : mI 231 224 = (10, 0, 0, 0, 0) := by decide +kernel
theorem mi_231_225 : mI 231 225 = (3, 0, 3, 0, 0) := by decide +kernel
theorem mi_231_226 : mI 231 226 = (20, 0, 0, 0, 0) := by decide +kernel
theorem mi_231_227 : mI 231 227 = (16, 88, 0, 315, 0) := by decide +kernel
theorem mi_231_230 : mI 231 230 = (5, 0, 0, 0, 0) := by decide +kernel
theorem mi_231_231 : mI 231 231 = (35, 0, 202, 20, 0) := by decide +kernel
theorem mi_231_233 : mI 231 233 = (26, 1375, 157, 217, 0) := by decide +kernel
theorem mi_231_236 : mI 231 236 = (14, 10, 0, 246, 0) := by decide +kernel
theorem mi_231_239 : mI 231 239 = (5, 0, 0, 0, 0) := by decide +kernel
theorem mi_231_240 : mI 231 240 = (26, 1419, 213, 228, 0) := by decide +kernel
theorem mi_231_243 : mI 231 243 = (16, 72, 0, 315, 0) := by decide +kernel
theorem mi_231_246 : mI 231 246 = (5, 0, 0, 0, 0) := by decide +kernel
theorem mi_231_247 : mI 231 247 = (35, 0, 204, 21, 0) := by decide +kernel
theorem mi_231_249 : mI 231 249 = (26, 1375, 157, 217, 0) := by decide +kernel
theorem mi_231_252 : mI 231 252 = (14, 10, 0, 262, 0) := by decide +kernel
theorem mi_231_255 : mI 231 255 = (5, 0, 0, 0, 0) := by decide +kernel
theorem mi_231_256 : mI 231 256 = (26, 1428, 216, 229, 0) := by decide +kernel
theorem mi_231_259 : mI 231 259 = (16, 56, 0, 315, 0) := by decide +kernel
theorem mi_231_262 : mI 231 262 = (5, 0, 0, 0, 0) := by decide +kernel
theorem mi_231_263 : mI 231 263 = (35, 0, 206, 22, 0) := by decide +kernel
theorem mi_231_265 : mI 231 265 = (26, 1375, 157, 217, 0) := by decide +kernel
theorem mi_231_268 : mI 231 268 = (14, 10, 0, 278, 0) := by decide +kernel
theorem mi_231_271 : mI 231 271 = (5, 0, 0, 0, 0) := by decide +kernel
theorem mi_231_272 : mI 231 272 = (26, 1440, 219, 230, 0) := by decide +kernel
theorem mi_231_275 : mI 231 275 = (16, 40, 0, 315, 0) := by decide +kernel
theorem mi_231_278 : mI 231 278 = (5, 0, 0, 0, 0) := by decide +kernel
theorem mi_231_279 : mI 231 279 = (26, 1344, 154, 213, 0) := by decide +kernel
theorem mi_231_282 : mI 231 282 = (5, 0, 0, 0, 0) := by decide +kernel
theorem mi_231_283 : mI 231 283 = (26, 1415, 171, 222, 0) := by decide +kernel
theorem mi_231_286 : mI 231 286 = (6, 0, 2, 0, 0) := by decide +kernel
theorem mi_231_287 : mI 231 287 = (5, 0, 0, 0, 0) := by decide +kernel
theorem mi_231_288 : mI 231 288 = (3, 0, 2, 0, 0) := by decide +kernel
theorem mi_231_289 : mI 231 289 = (26, 1432, 190, 223, 0) := by decide +kernel
theorem mi_231_292 : mI 231 292 = (6, 0, 3, 0, 0) := by decide +kernel
theorem mi_231_293 : mI 231 293 = (5, 0, 0, 0, 0) := by decide +kernel
theorem mi_231_294 : mI 231 294 = (26, 1358, 136, 214, 0) := by decide +kernel
theorem mi_231_297 : mI 231 297 = (14, 18, 0, 315, 0) := by decide +kernel
theorem mi_231_300 : mI 231 300 = (5, 0, 0, 0, 0) := by decide +kernel
theorem mi_231_301 : mI 231 301 = (17, 1220, 31, 11, 14) := by decide +kernel
theorem mi_231_304 : mI 231 304 = (1, 60, 1, 0, 0) := by decide +kernel
theorem mi_231_306 : mI 231 306 = (3, 0, 3, 0, 0) := by decide +kernel
theorem mi_231_307 : mI 231 307 = (10, 0, 0, 0, 0) := by decide +kernel
theorem mi_231_308 : mI 231 308 = (22, 0, 1, 0, 0) := by decide +kernel
theorem mi_231_309 : mI 231 309 = (19, 0, 0, 0, 0) := by decide +kernel
theorem mi_231_310 : mI 231 310 = (1, 1, 0, 0, 0) := by decide +kernel
theorem mi_231_311 : mI 231 311 = (3, 0, 2, 0, 0) := by decide +kernel
theorem mi_231_312 : mI 231 312 = (10, 0, 8, 0, 0) := by decide +kernel
theorem mi_231_313 : mI 231 313 = (10, 0, 6, 0, 0) := by decide +kernel
theorem mi_231_314 : mI 231 314 = (20, 0, 0, 0, 0) := by decide +kernel
theorem mi_231_315 : mI 231 315 = (27, 0, 2, 0, 0) := by decide +kernel
theorem mi_232_0 : mI 232 0 = (5, 0, 0, 0, 0) := by decide +kernel
theorem mi_232_1 : mI 232 1 = (17, 1220, 31, 11, 14) := by decide +kernel
theorem mi_232_4 : mI 232 4 = (1, 5, 0, 0, 0) := by decide +kernel
theorem mi_232_5 : mI 232 5 = (19, 0, 0, 0, 0) := by decide +kernel
theorem mi_232_6 : mI 232 6 = (14, 10, 1, 16, 0) := by decide +kernel
theorem mi_232_9 : mI 232 9 = (5, 0, 0, 0, 0) := by decide +kernel
theorem mi_232_10 : mI 232 10 = (26, 1366, 222, 225, 0) := by decide +kernel
theorem mi_232_13 : mI 232 13 = (16, 7, 0, 20, 0) := by decide +kernel
theorem mi_232_16 : mI 232 16 = (5, 0, 0, 0, 0) := by decide +kernel
theorem mi_232_17 : mI 232 17 = (26, 1400, 225, 231, 0) := by decide +kernel
theorem mi_232_20 : mI 232 20 = (5, 0, 0, 0, 0) := by decide +kernel
theorem mi_232_21 : mI 232 21 = (26, 1358, 136, 214, 0) := by decide +kernel
theorem mi_232_24 : mI 232 24 = (14, 16, 0, 40, 0) := by decide +kernel
theorem mi_232_27 : mI 232 27 = (5, 0, 0, 0, 0) := by decide +kernel
theorem mi_232_28 : mI 232 28 = (17, 1216, 112, 11, 10) := by decide +kernel
theorem mi_232_31 : mI 232 31 = (1, 3, 0, 0, 0) := by decide +kernel
theorem mi_232_32 : mI 232 32 = (15, 8, 0, 40, 0) := by decide +kernel
theorem mi_232_35 : mI 232 35 = (5, 0, 0, 0, 0) := by decide +kernel
theorem mi_232_36 : mI 232 36 = (1, 1, 0, 0, 0) := by decide +kernel
theorem mi_232_37 : mI 232 37 = (26, 1385, 160, 215, 0) := by decide +kernel
theorem mi_232_40 : mI 232 40 = (5, 0, 0, 0, 0) := by decide +kernel
theorem mi_232_41 : mI 232 41 = (26, 1358, 136, 214, 0) := by decide +kernel
theorem mi_232_44 : mI 232 44 = (14, 7, 0, 51, 0) := by decide +kernel
theorem mi_232_47 : mI 232 47 = (5, 0, 0, 0, 0) := by decide +kernel
theorem mi_232_48 : mI 232 48 = (26, 1344, 154, 213, 0) := by decide +kernel
theorem mi_232_51 : mI 232 51 = (5, 0, 0, 0, 0) := by decide +kernel
theorem mi_232_52 : mI 232 52 = (17, 1220, 31, 11, 14) := by decide +kernel
theorem mi_232_55 : mI 232 55 = (1, 5, 0, 0, 0) := by decide +kernel
theorem mi_232_56 : mI 232 56 = (22, 0, 1, 0, 0) := by decide +kernel
theorem mi_232_57 : mI 232 57 = (19, 0, 0, 0, 0) := by decide +kernel
theorem mi_232_58 : mI 232 58 = (1, 1, 0, 0, 0) := by decide +kernel
theorem mi_232_59 : mI 232 59 = (10, 0, 0, 0, 0) := by decide +kernel
theorem mi_232_60 : mI 232 60 = (20, 0, 0, 0, 0) := by decide +kernel
theorem mi_232_61 : mI 232 61 = (27, 0, 2, 0, 0) := by decide +kernel
theorem mi_233_0 : mI 233 0 = (5, 0, 0, 0, 0) := by decide +kernel
theorem mi_233_1 : mI 233 1 = (5, 0, 0, 0, 0) := by decide +kernel
theorem mi_233_2 : mI 233 2 = (17, 1211, 97, 11, 5) := by decide +kernel
theorem mi_233_5 : mI 233 5 = (18, 1213, 100, 11, 7) := by decide +kernel
theorem mi_233_8 : mI 233 8 = (5, 0, 0, 0, 0) := by decide +kernel
theorem mi_233_9 : mI 233 9 = (1, 0, 0, 0, 0) := by decide +kernel
theorem mi_233_10 : mI 233 10 = (18, 1211, 97, 11, 5) := by decide +kernel
theorem mi_233_13 : mI 233 13 = (5, 0, 0, 0, 0) := by decide +kernel
theorem mi_233_14 : mI 233 14 = (1, 0, 0, 0, 0) := by decide +kernel
theorem mi_233_15 : mI 233 15 = (18, 1214, 103, 11, 8) := by decide +kernel
theorem mi_233_18 : mI 233 18 = (5, 0, 0, 0, 0) := by decide +kernel
theorem mi_233_19 : mI 233 19 = (1, 0, 0, 0, 0) := by decide +kernel
theorem mi_233_20 : mI 233 20 = (18, 1218, 133, 11, 12) := by decide +kernel
theorem mi_233_23 : mI 233 23 = (5, 0, 0, 0, 0) := by decide +kernel
theorem mi_233_24 : mI 233 24 = (1, (-1), 0, 0, 0) := by decide +kernel
theorem mi_233_25 : mI 233 25 = (18, 1219, 27, 11, 13) := by decide +kernel
theorem mi_233_28 : mI 233 28 = (1, 0, 0, 0, 0) := by decide +kernel
theorem mi_233_29 : mI 233 29 = (6, 0, 1, 0, 0) := by decide +kernel
theorem mi_233_30 : mI 233 30 = (3, 0, 1, 0, 0) := by decide +kernel
theorem mi_233_31 : mI 233 31 = (1, 294, 2, 0, 0) := by decide +kernel
theorem mi_233_34 : mI 233 34 = (15, 16, 3, 50, 0) := by decide +kernel
theorem mi_233_37 : mI 233 37 = (5, 0, 0, 0, 0) := by decide +kernel
theorem mi_233_38 : mI 233 38 = (17, 1220, 31, 11, 14) := by decide +kernel
theorem mi_233_41 : mI 233 41 = (3, 0, 1, 0, 0) := by decide +kernel
theorem mi_233_42 : mI 233 42 = (1, 0, 0, 0, 0) := by decide +kernel
theorem mi_233_43 : mI 233 43 = (20, 0, 0, 0, 0) := by decide +kernel
theorem mi_233_44 : mI 233 44 = (9, 1, 1, 0, 0) := by decide +kernel
theorem mi_233_47 : mI 233 47 = (16, (-17), 0, 30, 0) := by decide +kernel
theorem mi_233_50 : mI 233 50 = (1, 0, 0, 0, 0) := by decide +kernel
theorem mi_233_51 : mI 233 51 = (6, 0, 1, 0, 0) := by decide +kernel
theorem mi_233_52 : mI 233 52 = (3, 0, 1, 0, 0) := by decide +kernel
theorem mi_233_53 : mI 233 53 = (5, 0, 0, 0, 0) := by decide +kernel
theorem mi_233_54 : mI 233 54 = (17, 1221, 34, 11, 15) := by decide +kernel
theorem mi_233_57 : mI 233 57 = (21, 0, 0, 0, 0) := by decide +kernel
theorem mi_233_58 : mI 233 58 = (15, 16, 3, 74, 0) := by decide +kernel
theorem mi_233_61 : mI 233 61 = (5, 0, 0, 0, 0) := by decide +kernel
theorem mi_233_62 : mI 233 62 = (17, 1221, 34, 11, 15) := by decide +kernel
theorem mi_233_65 : mI 233 65 = (3, 0, 1, 0, 0) := by decide +kernel
theorem mi_233_66 : mI 233 66 = (1, (-1), 0, 0, 0) := by decide +kernel
theorem mi_233_67 : mI 233 67 = (20, 0, 0, 0, 0) := by decide +kernel
theorem mi_233_68 : mI 233 68 = (9, 1, 1, 0, 0) := by decide +kernel
theorem mi_233_71 : mI 233 71 = (16, (-19), 0, 52, 0) := by decide +kernel
theorem mi_233_74 : mI 233 74 = (5, 0, 0, 0, 0) := by decide +kernel
theorem mi_233_75 : mI 233 75 = (26, 1344, 154, 213, 0) := by decide +kernel
theorem mi_233_78 : mI 233 78 = (5, 0, 0, 0, 0) := by decide +kernel
theorem mi_233_79 : mI 233 79 = (26, 1358, 136, 214, 0) := by decide +kernel
theorem mi_233_82 : mI 233 82 = (14, 17, 0, 99, 0) := by decide +kernel
theorem mi_233_85 : mI 233 85 = (5, 0, 0, 0, 0) := by decide +kernel
theorem mi_233_86 : mI 233 86 = (17, 1216, 112, 11, 10) := by decide +kernel
theorem mi_233_89 : mI 233 89 = (14, 10, 0, 99, 0) := by decide +kernel
theorem mi_233_92 : mI 233 92 = (5, 0, 0, 0, 0) := by decide +kernel
theorem mi_233_93 : mI 233 93 = (26, 1362, 228, 232, 0) := by decide +kernel
theorem mi_233_96 : mI 233 96 = (16, (-18), 0, 78, 0) := by decide +kernel
theorem mi_233_99 : mI 233 99 = (5, 0, 0, 0, 0) := by decide +kernel
theorem mi_233_100 : mI 233 100 = (26, 1358, 136, 214, 0) := by decide +kernel
theorem mi_233_103 : mI 233 103 = (14, 6, 1, 109, 0) := by decide +kernel
theorem mi_233_106 : mI 233 106 = (1, (-4), 1, 0, 0) := by decide +kernel
theorem mi_233_108 : mI 233 108 = (27, 0, 0, 0, 0) := by decide +kernel
theorem mi_233_109 : mI 233 109 = (1, 0, 0, 0, 0) := by decide +kernel
theorem mi_233_110 : mI 233 110 = (6, 0, 1, 0, 0) := by decide +kernel
theorem mi_233_111 : mI 233 111 = (3, 0, 1, 0, 0) := by decide +kernel
theorem mi_233_112 : mI 233 112 = (1, 6, 1, 0, 0) := by decide +kernel
theorem mi_233_114 : mI 233 114 = (15, 71, 3, 185, 0) := by decide +kernel
theorem mi_233_117 : mI 233 117 = (1, 0, 0, 0, 0) := by decide +kernel
theorem mi_233_118 : mI 233 118 = (6, 0, 2, 0, 0) := by decide +kernel
theorem mi_233_119 : mI 233 119 = (1, 0, 0, 0, 0) := by decide +kernel
theorem mi_233_120 : mI 233 120 = (6, 0, 3, 0, 0) := by decide +kernel
theorem mi_233_121 : mI 233 121 = (3, 0, 3, 0, 0) := by decide +kernel
theorem mi_233_122 : mI 233 122 = (1, 24, 1, 0, 0) := by decide +kernel
theorem mi_233_124 : mI 233 124 = (15, 55, 3, 179, 0) := by decide +kernel
theorem mi_233_127 : mI 233 127 = (5, 0, 0, 0, 0) := by decide +kernel
theorem mi_233_128 : mI 233 128 = (17, 1221, 34, 11, 15) := by decide +kernel
theorem mi_233_131 : mI 233 131 = (1, 24, 1, 0, 0) := by decide +kernel
theorem mi_233_133 : mI 233 133 = (3, 0, 1, 0, 0) := by decide +kernel
theorem mi_233_134 : mI 233 134 = (10, 0, 2, 0, 0) := by decide +kernel
theorem mi_233_135 : mI 233 135 = (3, 0, 3, 0, 0) := by decide +kernel
theorem mi_233_136 : mI 233 136 = (10, 0, 0, 0, 0) := by decide +kernel
theorem mi_233_137 : mI 233 137 = (19, 0, 0, 0, 0) := by decide +kernel
theorem mi_233_138 : mI 233 138 = (1, (-1), 0, 0, 0) := by decide +kernel
theorem mi_233_139 : mI 233 139 = (15, 7, 1, 146, 0) := by decide +kernel
theorem mi_233_142 : mI 233 142 = (3, 0, 2, 0, 0) := by decide +kernel
theorem mi_233_143 : mI 233 143 = (16, 14, 0, 157, 0) := by decide +kernel
theorem mi_233_146 : mI 233 146 = (5, 0, 0, 0, 0) := by decide +kernel
theorem mi_233_147 : mI 233 147 = (17, 1221, 34, 11, 15) := by decide +kernel
theorem mi_233_150 : mI 233 150 = (1, 24, 1, 0, 0) := by decide +kernel
theorem mi_233_152 : mI 233 152 = (3, 0, 1, 0, 0) := by decide +kernel
theorem mi_233_153 : mI 233 153 = (10, 0, 2, 0, 0) := by decide +kernel
theorem mi_233_154 : mI 233 154 = (3, 0, 3, 0, 0) := by decide +kernel
theorem mi_233_155 : mI 233 155 = (10, 0, 0, 0, 0) := by decide +kernel
theorem mi_233_156 : mI 233 156 = (19, 0, 0, 0, 0) := by decide +kernel
theorem mi_233_157 : mI 233 157 = (6, 0, 2, 0, 0) := by decide +kernel
theorem mi_233_158 : mI 233 158 = (5, 0, 0, 0, 0) := by decide +kernel
theorem mi_233_159 : mI 233 159 = (17, 1220, 31, 11, 14) := by decide +kernel
theorem mi_233_162 : mI 233 162 = (1, 102, 1, 0, 0) := by decide +kernel
theorem mi_233_164 : mI 233 164 = (1, 24, 1, 0, 0) := by decide +kernel
theorem mi_233_166 : mI 233 166 = (3, 0, 1, 0, 0) := by decide +kernel
theorem mi_233_167 : mI 233 167 = (10, 0, 2, 0, 0) := by decide +kernel
theorem mi_233_168 : mI 233 168 = (10, 0, 0, 0, 0) := by decide +kernel
theorem mi_233_169 : mI 233 169 = (3, 0, 3, 0, 0) := by decide +kernel
theorem mi_233_170 : mI 233 170 = (10, 0, 0, 0, 0) := by decide +kernel
theorem mi_233_171 : mI 233 171 = (3, 0, 2, 0, 0) := by decide +kernel
theorem mi_233_172 : mI 233 172 = (20, 0, 0, 0, 0) := by decide +kernel
theorem mi_233_173 : mI 233 173 = (9, 1, 3, 0, 0) := by decide +kernel
theorem mi_233_176 : mI 233 176 = (16, (-55), 0, 121, 0) := by decide +kernel
theorem mi_233_179 : mI 233 179 = (9, 1, 1, 0, 0) := by decide +kernel
theorem mi_233_182 : mI 233 182 = (16, (-71), 0, 111, 0) := by decide +kernel
theorem mi_233_185 : mI 233 185 = (1, 0, 0, 0, 0) := by decide +kernel
theorem mi_233_186 : mI 233 186 = (6, 0, 1, 0, 0) := by decide +kernel
theorem mi_233_187 : mI 233 187 = (3, 0, 1, 0, 0) := by decide +kernel
theorem mi_233_188 : mI 233 188 = (1, 294, 2, 0, 0) := by decide +kernel
theorem mi_233_191 : mI 233 191 = (15, 21, 3, 212, 0) := by decide +kernel
theorem mi_233_194 : mI 233 194 = (5, 0, 0, 0, 0) := by decide +kernel
theorem mi_233_195 : mI 233 195 = (17, 1207, 9, 11, 1) := by decide +kernel
theorem mi_233_198 : mI 233 198 = (3, 0, 1, 0, 0) := by decide +kernel
theorem mi_233_199 : mI 233 199 = (5, 0, 0, 0, 0) := by decide +kernel
theorem mi_233_200 : mI 233 200 = (17, 1220, 31, 11, 14) := by decide +kernel
theorem mi_233_203 : mI 233 203 = (3, 0, 1, 0, 0) := by decide +kernel
theorem mi_233_204 : mI 233 204 = (19, 0, 0, 0, 0) := by decide +kernel
theorem mi_233_205 : mI 233 205 = (20, 0, 0, 0, 0) := by decide +kernel
theorem mi_233_206 : mI 233 206 = (9, 1, 1, 1, 0) := by decide +kernel
theorem mi_233_209 : mI 233 209 = (16, (-22), 0, 187, 0) := by decide +kernel
theorem mi_233_212 : mI 233 212 = (5, 0, 0, 0, 0) := by decide +kernel
theorem mi_233_213 : mI 233 213 = (17, 1207, 9, 11, 1) := by decide +kernel
theorem mi_233_216 : mI 233 216 = (1, 5, 0, 0, 0) := by decide +kernel
theorem mi_233_217 : mI 233 217 = (19, 0, 0, 0, 0) := by decide +kernel
theorem mi_233_218 : mI 233 218 = (27, 0, 0, 0, 0) := by decide +kernel
theorem mi_345_0 : mI 345 0 = (5, 0, 0, 0, 0) := by decide +kernel
theorem mi_345_1 : mI 345 1 = (39, 1939, 9, 0, 0) := by decide +kernel
theorem mi_345_4 : mI 345 4 = (21, 0, 0, 0, 0) := by decide +kernel
theorem mi_345_5 : mI 345 5 = (5, 0, 0, 0, 0) := by decide +kernel
theorem mi_345_6 : mI 345 6 = (26, 402, 335, 347, 0) := by decide +kernel
theorem mi_345_9 : mI 345 9 = (10, 0, 9, 0, 0) := by decide +kernel
theorem mi_345_10 : mI 345 10 = (27, 0, 0, 0, 0) := by decide +kernel
theorem mi_346_0 : mI 346 0 = (5, 0, 0, 0, 0) := by decide +kernel
theorem mi_346_1 : mI 346 1 = (26, 412, 492, 348, 0) := by decide +kernel
theorem mi_346_4 : mI 346 4 = (14, 12, 0, 16, 0) := by decide +kernel
theorem mi_346_7 : mI 346 7 = (5, 0, 0, 0, 0) := by decide +kernel
theorem mi_346_8 : mI 346 8 = (39, 1939, 9, 0, 0) := by decide +kernel
theorem mi_346_11 : mI 346 11 = (3, 0, 1, 0, 0) := by decide +kernel
theorem mi_346_12 : mI 346 12 = (26, 416, 495, 349, 1) := by decide +kernel
theorem mi_346_15 : mI 346 15 = (38, 0, 0, 0, 0) := by decide +kernel
theorem mi_346_16 : mI 346 16 = (5, 0, 0, 0, 0) := by decide +kernel
theorem mi_346_17 : mI 346 17 = (39, 1939, 9, 0, 0) := by decide +kernel
theorem mi_346_20 : mI 346 20 = (3, 0, 1, 0, 0) := by decide +kernel
theorem mi_346_24 : mI 346 24 = (38, 0, 0, 0, 0) := by decide +kernel
theorem mi_347_0 : mI 347 0 = (23, 406, 38, 0, 0) := by decide +kernel
theorem mi_347_3 : mI 347 3 = (14, 10, 0, 13, 0) := by decide +kernel
theorem mi_347_6 : mI 347 6 = (5, 0, 0, 0, 0) := by decide +kernel
theorem mi_347_7 : mI 347 7 = (39, 1940, 15, 1, 0) := by decide +kernel
theorem mi_347_10 : mI 347 10 = (16, 4, 0, 14, 0) := by decide +kernel
theorem mi_347_13 : mI 347 13 = (1, 1, 0, 0, 0) := by decide +kernel
theorem mi_347_14 : mI 347 14 = (38, 0, 0, 0, 0) := by decide +kernel
theorem mi_348_0 : mI 348 0 = (23, 406, 38, 0, 0) := by decide +kernel
theorem mi_348_3 : mI 348 3 = (14, 14, 0, 17, 0) := by decide +kernel
theorem mi_348_6 : mI 348 6 = (5, 0, 0, 0, 0) := by decide +kernel
theorem mi_348_7 : mI 348 7 = (39, 1940, 15, 1, 0) := by decide +kernel
theorem mi_348_10 : mI 348 10 = (14, 7, 1, 17, 0) := by decide +kernel
theorem mi_348_13 : mI 348 13 = (1, 1, 0, 0, 0) := by decide +kernel
theorem mi_348_14 : mI 348 14 = (16, 4, 0, 18, 0) := by decide +kernel
theorem mi_348_17 : mI 348 17 = (1, 0, 0, 0, 0) := by decide +kernel
theorem mi_348_18 : mI 348 18 = (27, 0, 0, 0, 0) := by decide +kernel
theorem mi_349_0 : mI 349 0 = (3, 0, 1, 0, 0) := by decide +kernel
theorem mi_349_1 : mI 349 1 = (5, 0, 0, 0, 0) := by decide +kernel
theorem mi_349_2 : mI 349 2 = (21, 0, 0, 0, 0) := by decide +kernel
theorem mi_349_3 : mI 349 3 = (26, 419, 9, 350, 1) := by decide +kernel
theorem mi_349_6 : mI 349 6 = (5, 0, 0, 0, 0) := by decide +kernel
theorem mi_349_7 : mI 349 7 = (3, 0, 1, 0, 0) := by decide +kernel
theorem mi_349_8 : mI 349 8 = (19, 0, 1, 0, 0) := by decide +kernel
theorem mi_349_9 : mI 349 9 = (1, 255, 2, 0, 0) := by decide +kernel
theorem mi_349_12 : mI 349 12 = (10, 0, 5, 0, 0) := by decide +kernel
theorem mi_349_13 : mI 349 13 = (12, 0, 5, 0, 0) := by decide +kernel
theorem mi_349_14 : mI 349 14 = (38, 0, 0, 0, 0) := by decide +kernel
theorem mi_350_0 : mI 350 0 = (3, 0, 0, 0, 0) := by decide +kernel
theorem mi_350_1 : mI 350 1 = (3, 0, 1, 0, 0) := by decide +kernel
theorem mi_350_2 : mI 350 2 = (23, 422, 1053, 1, 0) := by decide +kernel
theorem mi_350_5 : mI 350 5 = (26, 424, 1059, 351, 1) := by decide +kernel
theorem mi_350_8 : mI 350 8 = (22, 0, 2, 0, 0) := by decide +kernel
theorem mi_350_9 : mI 350 9 = (27, 0, 2, 0, 0) := by decide +kernel
theorem mi_351_0 : mI 351 0 = (3, 0, 0, 0, 0) := by decide +kernel
theorem mi_351_1 : mI 351 1 = (14, 8, 2, 9, 0) := by decide +kernel
theorem mi_351_4 : mI 351 4 = (3, 0, 0, 0, 0) := by decide +kernel
theorem mi_351_5 : mI 351 5 = (3, 0, 1, 0, 0) := by decide +kernel
theorem mi_351_6 : mI 351 6 = (15, 10, 2, 16, 0) := by decide +kernel
theorem mi_351_9 : mI 351 9 = (5, 0, 2, 0, 0) := by decide +kernel
theorem mi_351_10 : mI 351 10 = (3, 0, 0, 0, 0) := by decide +kernel
theorem mi_351_11 : mI 351 11 = (3, 0, 1, 0, 0) := by decide +kernel
theorem mi_351_16 : mI 351 16 = (3, 0, 0, 0, 0) := by decide +kernel
theorem mi_351_17 : mI 351 17 = (27, 0, 0, 0, 0) := by decide +kernel
section HA
variable {l : Launch} {D : va_G} {tys : List (ClassId × FieldType)} {A : Nat → Prop} {ad : Nat → Nat} {ws : va_W} {k d : Nat} {post : Option Value → va_W → Prop} {pc : Nat} {lv : List (Nat × Value)} {st : List Value} {a : Int} {x y z : Nat}
def gF (i : Nat) (lo hi : Int) : Prop := ∃ g, GG[90]? = some ((0, 11, 36), g) ∧ segAt g i = some (0, lo, hi)
theorem fld {i : Nat} {lo hi : Int} (hG : GOK ad tys GG ws) (hs : gF i lo hi) (h36 : i < 36) : ∃ z : Int, rd ws 90 i = some (.int (Int32.ofInt z)) ∧ lo ≤ z ∧ z ≤ hi := by
  obtain ⟨g, hg, hs⟩ := hs
  obtain ⟨e, a1, a2, a3⟩ := hG 90 _ hg
  obtain ⟨fs, rfl, hl⟩ := a2
  have hv : fs[i]? = some fs[i] := List.getElem?_eq_getElem (by omega)
  obtain ⟨sp, q1, q2⟩ := a3 i _ hv
  rw [hs] at q1
  cases q1
  obtain ⟨z, z1, z2, z3⟩ := q2
  exact ⟨z, by rw [rd_at a1]; show fs[i]? = _; rw [hv, z1], z2, z3⟩
theorem o90 (hG : GOK ad tys GG ws) : ∃ fs : List Value, ws[90]? = some (ad 90, .inr (11, fs)) ∧ fs.length = 36 := by
  obtain ⟨e, a1, a2, a3⟩ := hG 90 _ rfl
  obtain ⟨fs, rfl, hl⟩ := a2
  exact ⟨fs, a1, hl⟩
theorem V_getI {i : Nat} {v : Value} (hi : mI k pc = (17, a, x, 11, i)) (hG : GOK ad tys GG ws) (hx : rd ws 90 i = some v) (kk : V l D tys A k d 0 0 post 0 0 (pc + 3) lv (v :: st) ws) : V l D tys A k d 0 0 post 0 0 pc lv (.ref (ad 90) :: st) ws := by
  obtain ⟨fs, a1, hl⟩ := o90 hG
  rw [rd_at a1] at hx
  exact V_get hi a1 hx kk
theorem V_putI {i : Nat} {lo hi : Int} {v : Int32} (hi0 : mI k pc = (18, a, x, 11, i)) (hG : GOK ad tys GG ws) (hs : gF i lo hi) (h36 : i < 36) (hty : clTy 11 i = .int) (hn : nfin 11 i = true) (h1 : lo ≤ v.toInt) (h2 : v.toInt ≤ hi) (kk : ∀ w : va_W, GOK ad tys GG w → Upd1 ws w 90 i (.int v) → V l D tys A k d 0 0 post 0 0 (pc + 3) lv st w) : V l D tys A k d 0 0 post 0 0 pc lv (.int v :: .ref (ad 90) :: st) ws := by
  obtain ⟨g, hg, hs⟩ := hs
  obtain ⟨e, a1, a2, a3⟩ := hG 90 _ hg
  obtain ⟨fs, rfl, hl⟩ := a2
  refine V_put hi0 a1 (by omega) (fun C T N hc => ?_) (by rw [hty]; rfl) (by rw [hty]; rfl) ?_
  · unfold nfin at hn
    rw [hc] at hn
    simpa using hn
  · obtain ⟨u1, u2⟩ := GOK_upd (e' := .inr (11, fs.set i (.int v))) hG hg a1 ⟨_, rfl, by rw [List.length_set]; exact hl⟩ (rdE_obj (by omega) _) hs ⟨v.toInt, by rw [Int32.ofInt_toInt], h1, h2⟩
    exact kk _ u1 u2
theorem V_callM {d' : Nat} {As : List Value} {post' : Option Value → va_W → Prop} (hi : mI k pc = (26, a, x, y, 0)) (hy : y < 352) (hk : mKind y = 0) (hci : mCi y = 11) (hG : GOK ad tys GG ws) (hc : CT l D tys A y d' 0 0 (.ref (ad 90) :: As) ws post') (hd : d' < d) (hn : As.length = mN y) (hst : (st.map fun v => v.category).sum ≤ 8) (kk : ∀ (r : Option Value) (ws' : va_W), post' r ws' → V l D tys A k d 0 0 post 0 0 (pc + 3) lv (r.toList ++ st) ws') : V l D tys A k d 0 0 post 0 0 pc lv (As.reverse ++ .ref (ad 90) :: st) ws := by
  obtain ⟨fs, a1, hl⟩ := o90 hG
  obtain ⟨T, N, hcl⟩ := ci_at hy hk (by omega)
  rw [hci] at hcl
  exact V_virt hi hy hc hd hn a1 hcl hst ⟨Nat.le_refl _, Nat.le_refl _⟩ kk
theorem ar_of {c ty n : Nat} {segs : List SG} (hG : GOK ad tys GG ws) (hg : GG[c]? = some ((1, ty, n), segs)) : ∃ (cA : ClassId) (f : Nat → Int32), ws[c]? = some (ad c, .inl (cA, n, .inl f)) ∧ tys[ty]? = some (cA, ftyp ty) := by
  obtain ⟨e, b1, b2, b3⟩ := hG c _ hg
  obtain ⟨cA, f, rfl, c1, -⟩ := b2
  exact ⟨cA, f, b1, c1⟩
theorem cel {c j ty n : Nat} {lo hi : Int} {segs : List SG} (hG : GOK ad tys GG ws) (hg : GG[c]? = some ((1, ty, n), segs)) (hj : j < n) (hs : segAt segs j = some (0, lo, hi)) : ∃ z : Int, rd ws c j = some (.int (Int32.ofInt z)) ∧ lo ≤ z ∧ z ≤ hi := by
  obtain ⟨e, b1, b2, b3⟩ := hG c _ hg
  obtain ⟨cA, f, rfl, c1, -⟩ := b2
  have hr : rdE (.inl (cA, n, .inl f)) j = some (.int (f j)) := by show (if j < n then _ else _) = _; rw [if_pos hj]
  obtain ⟨sp, r1, r2⟩ := b3 j _ hr
  rw [hs] at r1
  cases r1
  obtain ⟨z, z1, z2, z3⟩ := r2
  exact ⟨z, by rw [rd_at b1, hr, z1], z2, z3⟩
theorem ix_in {j n : Nat} (hj : j < n) (hn : n ≤ 100000) : vp_in (Int32.ofInt j) n ∧ (Int32.ofInt j).toNatClampNeg = j := by
  have e : (Int32.ofInt (j : Int)).toInt = (j : Int) := Int32.toInt_ofInt_of_le (by omega) (by omega)
  refine ⟨vp_in_iff.mpr (by rw [e]; omega), ?_⟩
  show (Int32.ofInt (j : Int)).toInt.toNat = j
  rw [e]; rfl
theorem V_bldI {c n j : Nat} {segs : List SG} {v ix : Int32} (hi : mI k pc = (19, a, 1, y, z)) (hix : ix = Int32.ofInt (j : Int)) (hG : GOK ad tys GG ws) (hg : GG[c]? = some ((1, 1, n), segs)) (hj : j < n) (hn : n ≤ 100000) (hx : rd ws c j = some (.int v)) (kk : V l D tys A k d 0 0 post 0 0 (pc + 1) lv (.int v :: st) ws) : V l D tys A k d 0 0 post 0 0 pc lv (.int ix :: .ref (ad c) :: st) ws := by
  subst hix
  obtain ⟨cA, f, h1, h2⟩ := ar_of hG hg
  refine V_bald hi h1 h2 (ix_in hj hn).1 ?_
  rw [(ix_in hj hn).2]
  rw [rd_at h1] at hx
  have hx : (if j < n then some (Value.int (f j)) else none) = some (.int v) := hx
  rw [if_pos hj] at hx
  cases hx
  exact kk
theorem f5 : gF 5 0 1400 := ⟨_, rfl, by decide +kernel⟩
theorem f7 : gF 7 0 1400 := ⟨_, rfl, by decide +kernel⟩
theorem f8 : gF 8 0 1400 := ⟨_, rfl, by decide +kernel⟩
theorem f9 : gF 9 0 1400 := ⟨_, rfl, by decide +kernel⟩
theorem f10 : gF 10 0 4 := ⟨_, rfl, by decide +kernel⟩
theorem f11 : gF 11 (-2147483648) 2147483647 := ⟨_, rfl, by decide +kernel⟩
theorem f12 : gF 12 0 3 := ⟨_, rfl, by decide +kernel⟩
theorem f13 : gF 13 (-1) 1400 := ⟨_, rfl, by decide +kernel⟩
theorem gr4 : ∃ g, GG[90]? = some ((0, 11, 36), g) ∧ segAt g 4 = some (2, ((94 : Nat) : Int), ((94 : Nat) : Int)) := ⟨_, rfl, by decide +kernel⟩
theorem gr14 : ∃ g, GG[90]? = some ((0, 11, 36), g) ∧ segAt g 14 = some (2, ((96 : Nat) : Int), ((96 : Nat) : Int)) := ⟨_, rfl, by decide +kernel⟩
theorem rref {c i : Nat} (hs : ∃ g, GG[90]? = some ((0, 11, 36), g) ∧ segAt g i = some (2, (c : Int), (c : Int))) (hi2 : i < 36) (hG : GOK ad tys GG ws) : rd ws 90 i = some (.ref (ad c)) := by
  obtain ⟨g, hg, hs⟩ := hs
  obtain ⟨e, a1, a2, a3⟩ := hG 90 _ hg
  obtain ⟨fs, rfl, hl⟩ := a2
  have hv : fs[i]? = some fs[i] := List.getElem?_eq_getElem (by omega)
  obtain ⟨sp, q1, q2⟩ := a3 i _ hv
  rw [hs] at q1
  cases q1
  have q2 : fs[i] = .ref (ad ((c : Int).toNat)) := q2
  rw [Int.toNat_natCast] at q2
  rw [rd_at a1]
  show fs[i]? = _
  rw [hv, q2]
theorem gt94 : ∃ s, GG[94]? = some ((1, 1, 1400), s) ∧ ∀ j, j < 1400 → segAt s j = some (0, -128, 127) := by
  refine ⟨_, rfl, fun j hj => ?_⟩
  show (bif Nat.blt j 1400 then some _ else _) = _
  rw [show Nat.blt j 1400 = true from Nat.blt_eq.mpr hj]
  rfl
def SAME (w0 w : va_W) : Prop := ∀ c j, rd w c j = rd w0 c j
theorem SAME_of {w0 w : va_W} (h : FRm [] w0 w) : SAME w0 w := fun c j => h.1 c (by simp) j
theorem good_ct (hG : GOK ad tys GG ws) {f : Int} (hf : rd ws 90 12 = some (.int (Int32.ofInt f))) (f0 : 0 ≤ f) (f3 : f ≤ 3) : CT l D tys A 214 0 0 0 [.ref (ad 90)] ws (fun r w => w = ws ∧ r = some (.int (if f = 0 then 1 else 0))) := by
  refine CT_of_V (by omega) (show (1 : Nat) ≤ mML 214 by decide +kernel) ?_
  refine V_aload (v := ad 90) mi_214_0 (List.Mem.head _) ?_
  refine V_getI mi_214_1 hG hf ?_
  have hc : cdP 1 (Int32.ofInt f) 0 ↔ cdZ 1 (f - 0) := cdP_iff (x := 1) (a := f) (b := 0) (by omega) (by omega) (by omega) (by omega)
  refine V_if mi_214_4 (fun h => ?_) (fun h => ?_)
  · have h : f - 0 ≠ 0 := hc.mp h
    refine V_ipush mi_214_11 ?_
    exact V_retI mi_214_12 (fun _ => by decide) ⟨rfl, by rw [if_neg (by omega)]; rfl⟩
  · have h : ¬ (f - 0 ≠ 0) := fun q => h (hc.mpr q)
    refine V_ipush mi_214_7 ?_
    refine V_goto mi_214_8 ?_
    exact V_retI mi_214_12 (fun _ => by decide) ⟨rfl, by rw [if_pos (by omega)]; rfl⟩
theorem and255 (b : Int32) : ∃ m : Int, ibF 5 b (Int32.ofInt 255) = Int32.ofInt m ∧ 0 ≤ m ∧ m ≤ 255 := by
  have h := (and_b (a := b) (b := Int32.ofInt 255)).2
  have h2 : (Int32.ofInt 255).toBitVec.toNat = 255 := by decide
  rw [h2] at h
  refine ⟨((b &&& Int32.ofInt 255).toBitVec.toNat : Int), ?_, by omega, by omega⟩
  show b &&& Int32.ofInt 255 = _
  apply Int32.toBitVec_inj.mp
  show _ = BitVec.ofInt 32 _
  rw [BitVec.ofInt_natCast]
  apply BitVec.eq_of_toNat_eq
  rw [BitVec.toNat_ofNat]
  exact (Nat.mod_eq_of_lt (by omega)).symm
theorem see_ct (hG : GOK ad tys GG ws) {n p : Int} (hs : rd ws 90 7 = some (.int (Int32.ofInt n))) (n0 : 0 ≤ n) (n1 : n ≤ 1400) (p0 : 0 ≤ p) (p1 : p ≤ 1400) : ∃ m : Int, -1 ≤ m ∧ m ≤ 255 ∧ (m = -1 ↔ n ≤ p) ∧ ∀ w : va_W, GOK ad tys GG w → rd w 90 7 = rd ws 90 7 → (∀ j, rd w 94 j = rd ws 94 j) → CT l D tys A 212 0 0 0 [.ref (ad 90), .int (Int32.ofInt p)] w (fun r w' => w' = w ∧ r = some (.int (Int32.ofInt m))) := by
  have hc := cdP_iff (x := 3) (a := p) (b := n) (by omega) (by omega) (by omega) (by omega)
  by_cases hpn : n ≤ p
  · refine ⟨-1, by omega, by omega, ⟨fun _ => hpn, fun _ => rfl⟩, fun w hw e7 e94 => ?_⟩
    refine CT_of_V (by omega) (show (2 : Nat) ≤ mML 212 by decide +kernel) ?_
    refine V_iload (v := Int32.ofInt p) mi_212_0 (List.Mem.tail _ (List.Mem.head _)) ?_
    refine V_aload (v := ad 90) mi_212_1 (List.Mem.head _) ?_
    refine V_getI mi_212_2 hw (e7.trans hs) ?_
    refine V_icmp mi_212_5 (fun _ => ?_) (fun h => absurd (hc.mpr (show 0 ≤ p - n by omega)) h)
    refine V_ipush mi_212_21 ?_
    exact V_retI mi_212_22 (fun h => absurd h (by decide +kernel)) ⟨rfl, rfl⟩
  · obtain ⟨s4, e4, f4⟩ := gt94
    obtain ⟨b, b1, b2, b3⟩ := cel (j := p.toNat) hG e4 (by omega) (f4 _ (by omega))
    obtain ⟨m, m1, m2, m3⟩ := and255 (Int32.ofInt b)
    refine ⟨m, by omega, m3, ⟨fun h => by omega, fun h => absurd h hpn⟩, fun w hw e7 e94 => ?_⟩
    refine CT_of_V (by omega) (show (2 : Nat) ≤ mML 212 by decide +kernel) ?_
    refine V_iload (v := Int32.ofInt p) mi_212_0 (List.Mem.tail _ (List.Mem.head _)) ?_
    refine V_aload (v := ad 90) mi_212_1 (List.Mem.head _) ?_
    refine V_getI mi_212_2 hw (e7.trans hs) ?_
    refine V_icmp mi_212_5 (fun h => absurd (show 0 ≤ p - n from hc.mp h) (by omega)) (fun _ => ?_)
    refine V_aload (v := ad 90) mi_212_8 (List.Mem.head _) ?_
    refine V_getI mi_212_9 hw (rref gr4 (by omega) hw) ?_
    refine V_iload (v := Int32.ofInt p) mi_212_12 (List.Mem.tail _ (List.Mem.head _)) ?_
    refine V_bldI (j := p.toNat) mi_212_13 (by rw [Int.toNat_of_nonneg p0]) hw e4 (by omega) (by omega) ((e94 _).trans b1) ?_
    refine V_ipush mi_212_14 ?_
    refine V_ibin mi_212_17 (by omega) ?_
    refine V_goto mi_212_18 ?_
    exact V_retI mi_212_22 (fun h => absurd h (by decide +kernel)) ⟨rfl, by rw [m1]⟩
theorem Mn (n : Nat) : Int32.ofNat n = Int32.ofInt (n : Int) := rfl
theorem coder_ct {i : Nat} {q : String × Nat × String × List Int32} (hq : xsT[i]? = some q) : CT l D tys A 347 0 0 0 [.ref (D.2 1000 i)] ws (fun r w => w = ws ∧ r = some (.int 0)) := by
  refine CT_of_V (by omega) (show (1 : Nat) ≤ mML 347 by decide +kernel) ?_
  refine V_gets mi_347_0 (fun _ => ?_) (fun h => absurd rfl h) (fun h => absurd rfl h)
  refine V_if mi_347_3 (fun h => absurd (show (1 : Int32) = 0 from h) (by decide)) (fun _ => ?_)
  refine V_aload (v := D.2 1000 i) mi_347_6 (List.Mem.head _) ?_
  refine V_getX mi_347_7 hq (fun h => absurd h (by decide)) (fun _ => ?_)
  refine V_goto mi_347_10 ?_
  exact V_retX mi_347_14 (by decide) (by decide) ⟨rfl, rfl⟩
theorem lat_ct {i : Nat} {q : String × Nat × String × List Int32} (hq : xsT[i]? = some q) : CT l D tys A 348 0 0 0 [.ref (D.2 1000 i)] ws (fun r w => w = ws ∧ r = some (.int 1)) := by
  refine CT_of_V (by omega) (show (1 : Nat) ≤ mML 348 by decide +kernel) ?_
  refine V_gets mi_348_0 (fun _ => ?_) (fun h => absurd rfl h) (fun h => absurd rfl h)
  refine V_if mi_348_3 (fun h => absurd (show (1 : Int32) = 0 from h) (by decide)) (fun _ => ?_)
  refine V_aload (v := D.2 1000 i) mi_348_6 (List.Mem.head _) ?_
  refine V_getX mi_348_7 hq (fun h => absurd h (by decide)) (fun _ => ?_)
  refine V_if mi_348_10 (fun h => absurd (show (0 : Int32) = 0 from rfl) h) (fun _ => ?_)
  refine V_ipush mi_348_13 ?_
  refine V_goto mi_348_14 ?_
  exact V_retI mi_348_18 (fun _ => by decide) ⟨rfl, rfl⟩
theorem shr0 (v : Int32) : ibF 9 v 0 = v := by
  show v >>> (0 : Int32) = v
  simp
theorem len_ct {i : Nat} {q : String × Nat × String × List Int32} (hq : xsT[i]? = some q) : CT l D tys A 345 1 0 0 [.ref (D.2 1000 i)] ws (fun r w => w = ws ∧ r = some (.int (Int32.ofInt (q.2.2.2.length : Int)))) := by
  refine CT_of_V (by omega) (show (1 : Nat) ≤ mML 345 by decide +kernel) ?_
  refine V_aload (v := D.2 1000 i) mi_345_0 (List.Mem.head _) ?_
  refine V_getX mi_345_1 hq (fun _ => ?_) (fun h => absurd rfl h)
  refine V_lenX mi_345_4 hq ?_
  refine V_aload (v := D.2 1000 i) mi_345_5 (List.Mem.head _) ?_
  refine V_virtX (As := []) (st := [.int (Int32.ofNat q.2.2.2.length)]) mi_345_6 (by omega) (coder_ct hq) (by omega) (show 0 = mN 347 by decide +kernel) hq (by decide +kernel) (by simp [Value.category]) ⟨Nat.le_refl _, Nat.le_refl _⟩ ?_
  rintro r w ⟨rfl, rfl⟩
  refine V_ibin mi_345_9 (by omega) ?_
  rw [shr0]
  exact V_retI mi_345_10 (fun h => absurd h (by decide +kernel)) ⟨rfl, rfl⟩
theorem chk_ct {p n : Int} {v : Value} (hv : v = .null ∨ v = .ref (D.2 1000 200)) (p0 : 0 ≤ p) (pn : p < n) (n1 : n ≤ 100) : CT l D tys A 351 0 0 0 [.int (Int32.ofInt p), .int (Int32.ofInt n), v] ws (fun r w => w = ws ∧ r = some (.int (Int32.ofInt p))) := by
  refine CT_of_V (by omega) (by rcases hv with rfl | rfl <;> exact (show (3 : Nat) ≤ mML 351 by decide +kernel)) ?_
  refine V_iload (v := Int32.ofInt p) mi_351_0 (List.Mem.head _) ?_
  have h1 : cdP 2 (Int32.ofInt p) 0 ↔ cdZ 2 (p - 0) := cdP_iff (x := 2) (a := p) (b := 0) (by omega) (by omega) (by omega) (by omega)
  refine V_if mi_351_1 (fun h => absurd (show p - 0 < 0 from h1.mp h) (by omega)) (fun _ => ?_)
  refine V_iload (v := Int32.ofInt p) mi_351_4 (List.Mem.head _) ?_
  refine V_iload (v := Int32.ofInt n) mi_351_5 (List.Mem.tail _ (List.Mem.head _)) ?_
  have h2 := cdP_iff (x := 2) (a := p) (b := n) (by omega) (by omega) (by omega) (by omega)
  refine V_icmp mi_351_6 (fun _ => ?_) (fun h => absurd (h2.mpr (show p - n < 0 by omega)) h)
  refine V_iload (v := Int32.ofInt p) mi_351_16 (List.Mem.head _) ?_
  exact V_retI mi_351_17 (fun h => absurd h (by decide +kernel)) ⟨rfl, rfl⟩
theorem idx_ct {p n : Int} (p0 : 0 ≤ p) (pn : p < n) (n1 : n ≤ 100) : CT l D tys A 350 1 0 0 [.int (Int32.ofInt p), .int (Int32.ofInt n)] ws (fun r w => w = ws ∧ r = none) := by
  refine CT_of_V (by omega) (show (2 : Nat) ≤ mML 350 by decide +kernel) ?_
  refine V_iload (v := Int32.ofInt p) mi_350_0 (List.Mem.head _) ?_
  refine V_iload (v := Int32.ofInt n) mi_350_1 (List.Mem.tail _ (List.Mem.head _)) ?_
  have go : ∀ (v : Value) (lv : List (Nat × Value)), v = .null ∨ v = .ref (D.2 1000 200) → V l D tys A 350 1 0 0 (fun r w => w = ws ∧ r = none) 0 0 5 lv [v, .int (Int32.ofInt n), .int (Int32.ofInt p)] ws := by
    intro v lv hv
    refine V_stat (As := [.int (Int32.ofInt p), .int (Int32.ofInt n), v]) (st := []) mi_350_5 (by omega) (chk_ct hv p0 pn n1) (by omega) (show 3 = mN 351 by decide +kernel) (by simp) ⟨Nat.le_refl _, Nat.le_refl _⟩ ?_
    rintro r w ⟨rfl, rfl⟩
    refine V_pop mi_350_8 rfl ?_
    exact V_retV mi_350_9 ⟨rfl, rfl⟩
  exact V_gets mi_350_2 (fun h => absurd h (by decide)) (fun _ => go _ _ (Or.inr rfl)) (fun _ => go _ _ (Or.inl rfl))
def chF (b : Int32) : Int32 := ((ibF 5 b (Int32.ofInt 255)).toUInt32 % 65536).toInt32
theorem chF_all : (List.range 26).all (fun m => decide (chF (Int32.ofInt (97 + m : Nat)) = Int32.ofInt (97 + m : Nat)) && (decide ((Int32.ofInt (97 + m : Nat)).toUInt32.toUInt16.toUInt32.toInt32 = Int32.ofInt (97 + m : Nat)) && decide ((Int32.ofInt (97 + m : Nat)).toInt8.toInt32 = Int32.ofInt (97 + m : Nat)))) = true := by decide +kernel
theorem chF_ok {b : Int32} (h1 : 97 ≤ b.toInt) (h2 : b.toInt ≤ 122) : chF b = b ∧ b.toUInt32.toUInt16.toUInt32.toInt32 = b ∧ b.toInt8.toInt32 = b := by
  have e : b = Int32.ofInt ((97 + (b.toInt - 97).toNat : Nat) : Int) := by
    rw [show ((97 + (b.toInt - 97).toNat : Nat) : Int) = b.toInt by omega, Int32.ofInt_toInt]
  have h := List.all_eq_true.mp chF_all (b.toInt - 97).toNat (List.mem_range.mpr (by omega))
  rw [← e] at h
  simpa using h
theorem xb {i : Nat} {q : String × Nat × String × List Int32} (hq : xsT[i]? = some q) {j : Nat} (hj : j < q.2.2.2.length) : 97 ≤ (q.2.2.2.getD j 0).toInt ∧ (q.2.2.2.getD j 0).toInt ≤ 122 := by
  have h := List.all_eq_true.mp xs_byt q (List.mem_of_getElem? hq)
  have h := List.all_eq_true.mp h (q.2.2.2.getD j 0) (by rw [List.getD_eq_getElem?_getD, List.getElem?_eq_getElem hj]; exact List.getElem_mem hj)
  simpa using h
theorem lc_ct {i j : Nat} {q : String × Nat × String × List Int32} (hq : xsT[i]? = some q) (hj : j < q.2.2.2.length) (hl : q.2.2.2.length ≤ 9) : CT l D tys A 349 2 0 0 [.ref (D.2 1000 (100 + i)), .int (Int32.ofInt (j : Int))] ws (fun r w => w = ws ∧ r = some (.int (q.2.2.2.getD j 0))) := by
  refine CT_of_V (by omega) (show (2 : Nat) ≤ mML 349 by decide +kernel) ?_
  refine V_iload (v := Int32.ofInt (j : Int)) mi_349_0 (List.Mem.tail _ (List.Mem.head _)) ?_
  refine V_aload (v := D.2 1000 (100 + i)) mi_349_1 (List.Mem.head _) ?_
  refine V_lenX mi_349_2 hq ?_
  refine V_stat (As := [.int (Int32.ofInt (j : Int)), .int (Int32.ofInt (q.2.2.2.length : Int))]) (st := []) mi_349_3 (by omega) (idx_ct (by omega) (by omega) (by omega)) (by omega) (show 2 = mN 350 by decide +kernel) (by simp) ⟨Nat.le_refl _, Nat.le_refl _⟩ ?_
  rintro r w ⟨rfl, rfl⟩
  refine V_aload (v := D.2 1000 (100 + i)) mi_349_6 (List.Mem.head _) ?_
  refine V_iload (v := Int32.ofInt (j : Int)) mi_349_7 (List.Mem.tail _ (List.Mem.head _)) ?_
  refine V_bldX mi_349_8 hq (ix_in hj (by omega)).1 ?_
  rw [(ix_in hj (by omega)).2]
  refine V_ipush mi_349_9 ?_
  refine V_ibin mi_349_12 (by omega) ?_
  refine V_i2c mi_349_13 ?_
  obtain ⟨x1, x2⟩ := xb hq hj
  obtain ⟨c1, c2, c3⟩ := chF_ok x1 x2
  rw [show ((ibF 5 (q.2.2.2.getD j 0) (Int32.ofInt 255)).toUInt32 % 65536).toInt32 = q.2.2.2.getD j 0 from c1]
  exact V_retX mi_349_14 c2 c3 ⟨rfl, rfl⟩
theorem chr_ct {i j : Nat} {q : String × Nat × String × List Int32} (hq : xsT[i]? = some q) (hj : j < q.2.2.2.length) (hl : q.2.2.2.length ≤ 9) : CT l D tys A 346 3 0 0 [.ref (D.2 1000 i), .int (Int32.ofInt (j : Int))] ws (fun r w => w = ws ∧ r = some (.int (q.2.2.2.getD j 0))) := by
  refine CT_of_V (by omega) (show (2 : Nat) ≤ mML 346 by decide +kernel) ?_
  refine V_aload (v := D.2 1000 i) mi_346_0 (List.Mem.head _) ?_
  refine V_virtX (As := []) (st := []) mi_346_1 (by omega) (lat_ct hq) (by omega) (show 0 = mN 348 by decide +kernel) hq (by decide +kernel) (by simp) ⟨Nat.le_refl _, Nat.le_refl _⟩ ?_
  rintro r w ⟨rfl, rfl⟩
  refine V_if mi_346_4 (fun h => absurd (show (1 : Int32) = 0 from h) (by decide)) (fun _ => ?_)
  refine V_aload (v := D.2 1000 i) mi_346_7 (List.Mem.head _) ?_
  refine V_getX mi_346_8 hq (fun _ => ?_) (fun h => absurd rfl h)
  refine V_iload (v := Int32.ofInt (j : Int)) mi_346_11 (List.Mem.tail _ (List.Mem.head _)) ?_
  refine V_stat (As := [.ref (D.2 1000 (100 + i)), .int (Int32.ofInt (j : Int))]) (st := []) mi_346_12 (by omega) (lc_ct hq hj hl) (by omega) (show 2 = mN 349 by decide +kernel) (by simp) ⟨Nat.le_refl _, Nat.le_refl _⟩ ?_
  rintro r w ⟨rfl, rfl⟩
  obtain ⟨x1, x2⟩ := xb hq hj
  obtain ⟨c1, c2, c3⟩ := chF_ok x1 x2
  exact V_retX mi_346_15 c2 c3 ⟨rfl, rfl⟩
theorem V_callS {d' i : Nat} {q : String × Nat × String × List Int32} {As : List Value} {post' : Option Value → va_W → Prop} (hi : mI k pc = (26, a, x, y, 0)) (hy : y < 352) (hc : CT l D tys A y d' 0 0 (.ref (D.2 1000 i) :: As) ws post') (hd : d' < d) (hn : As.length = mN y) (hq : xsT[i]? = some q) (hcl : (mY y).cls = "java/lang/String") (hst : (st.map fun v => v.category).sum ≤ 8) (kk : ∀ (r : Option Value) (ws' : va_W), post' r ws' → V l D tys A k d 0 0 post 0 0 (pc + 3) lv (r.toList ++ st) ws') : V l D tys A k d 0 0 post 0 0 pc lv (As.reverse ++ .ref (D.2 1000 i) :: st) ws := V_virtX hi hy hc hd hn hq hcl hst ⟨Nat.le_refl _, Nat.le_refl _⟩ kk
def LI (D : va_G) (ad : Nat → Nat) (i : Nat) (b : Int32) (j : Nat) : List (Nat × Value) := [(0, .ref (ad 90)), (1, .ref (D.2 1000 i)), (2, .int b), (3, .int (Int32.ofInt (j : Int)))]
theorem is_zero {i j : Nat} {q : String × Nat × String × List Int32} (hq : xsT[i]? = some q) (hl : q.2.2.2.length ≤ 9) (hj : j ≤ 10) : V l D tys A 216 4 0 0 (fun r w => w = ws ∧ r = some (.int (Int32.ofInt 0))) 0 0 39 (LI D ad i (Int32.ofInt 0) j) [] ws := by
  refine V_iload (v := Int32.ofInt (j : Int)) mi_216_39 (by simp [LI]) ?_
  refine V_aload (v := D.2 1000 i) mi_216_40 (by simp [LI]) ?_
  refine V_callS (As := []) (st := [.int (Int32.ofInt (j : Int))]) mi_216_41 (by omega) (len_ct hq) (by omega) (show 0 = mN 345 by decide +kernel) hq (by decide +kernel) (by simp [Value.category]) ?_
  rintro r w ⟨rfl, rfl⟩
  have out : V l D tys A 216 4 0 0 (fun r w' => w' = w ∧ r = some (.int (Int32.ofInt 0))) 0 0 82 (LI D ad i (Int32.ofInt 0) j) [] w := by
    refine V_iload (v := Int32.ofInt 0) mi_216_82 (by simp [LI]) ?_
    exact V_retI mi_216_83 (fun _ => by decide) ⟨rfl, rfl⟩
  refine V_icmp mi_216_44 (fun _ => out) (fun _ => ?_)
  refine V_iload (v := Int32.ofInt 0) mi_216_47 (by simp [LI]) ?_
  exact V_if mi_216_48 (fun _ => out) (fun h => absurd (show Int32.ofInt 0 = 0 from rfl) h)
def bI (b : Bool) : Int32 := if b then Int32.ofInt 1 else Int32.ofInt 0
theorem is_loop {i : Nat} {q : String × Nat × String × List Int32} {f t : Int} (hq : xsT[i]? = some q) (hl : q.2.2.2.length ≤ 9) (hG : GOK ad tys GG ws) (hf : rd ws 90 9 = some (.int (Int32.ofInt f))) (f0 : 0 ≤ f) (ft : f + q.2.2.2.length = t) (t1 : t ≤ 1400) : ∀ (n j : Nat), j + n = q.2.2.2.length → ∃ b : Bool, ∀ w : va_W, GOK ad tys GG w → SAME ws w → V l D tys A 216 4 0 0 (fun r w' => w' = w ∧ r = some (.int (bI b))) 0 0 39 (LI D ad i (Int32.ofInt 1) j) [] w
  | 0, j, h => ⟨true, fun w hw hS => by
    refine V_iload (v := Int32.ofInt (j : Int)) mi_216_39 (by simp [LI]) ?_
    refine V_aload (v := D.2 1000 i) mi_216_40 (by simp [LI]) ?_
    refine V_callS (As := []) (st := [.int (Int32.ofInt (j : Int))]) mi_216_41 (by omega) (len_ct hq) (by omega) (show 0 = mN 345 by decide +kernel) hq (by decide +kernel) (by simp [Value.category]) ?_
    rintro r w' ⟨rfl, rfl⟩
    have hc := cdP_iff (x := 3) (a := (j : Int)) (b := (q.2.2.2.length : Int)) (by omega) (by omega) (by omega) (by omega)
    refine V_icmp mi_216_44 (fun _ => ?_) (fun h1 => absurd (hc.mpr (show 0 ≤ (j : Int) - q.2.2.2.length by omega)) h1)
    refine V_iload (v := Int32.ofInt 1) mi_216_82 (by simp [LI]) ?_
    exact V_retI mi_216_83 (fun _ => by decide) ⟨rfl, rfl⟩⟩
  | n + 1, j, h => by
    obtain ⟨s4, e4, f4⟩ := gt94
    obtain ⟨b, b1, b2, b3⟩ := cel (j := (f + j).toNat) hG e4 (by omega) (f4 _ (by omega))
    obtain ⟨bo, hb⟩ := is_loop hq hl hG hf f0 ft t1 n (j + 1) (by omega)
    have head : ∀ (b2 : Bool) (w : va_W), GOK ad tys GG w → SAME ws w → (∀ w' : va_W, w' = w → V l D tys A 216 4 0 0 (fun r w' => w' = w ∧ r = some (.int (bI b2))) 0 0 67 (LI D ad i (Int32.ofInt 1) j) [.int (q.2.2.2.getD j 0), .int (Int32.ofInt b)] w) → V l D tys A 216 4 0 0 (fun r w' => w' = w ∧ r = some (.int (bI b2))) 0 0 39 (LI D ad i (Int32.ofInt 1) j) [] w := by
      intro b2 w hw hS kk
      refine V_iload (v := Int32.ofInt (j : Int)) mi_216_39 (by simp [LI]) ?_
      refine V_aload (v := D.2 1000 i) mi_216_40 (by simp [LI]) ?_
      refine V_callS (As := []) (st := [.int (Int32.ofInt (j : Int))]) mi_216_41 (by omega) (len_ct hq) (by omega) (show 0 = mN 345 by decide +kernel) hq (by decide +kernel) (by simp [Value.category]) ?_
      rintro r w' ⟨rfl, rfl⟩
      have hc := cdP_iff (x := 3) (a := (j : Int)) (b := (q.2.2.2.length : Int)) (by omega) (by omega) (by omega) (by omega)
      refine V_icmp mi_216_44 (fun h1 => absurd (show 0 ≤ (j : Int) - q.2.2.2.length from hc.mp h1) (by omega)) (fun _ => ?_)
      refine V_iload (v := Int32.ofInt 1) mi_216_47 (by simp [LI]) ?_
      refine V_if mi_216_48 (fun h1 => absurd (show (1 : Int32) = 0 from h1) (by decide)) (fun _ => ?_)
      refine V_aload (v := ad 90) mi_216_51 (by simp [LI]) ?_
      refine V_getI mi_216_52 hw (rref gr4 (by omega) hw) ?_
      refine V_aload (v := ad 90) mi_216_55 (by simp [LI]) ?_
      refine V_getI mi_216_56 hw ((hS 90 9).trans hf) ?_
      refine V_iload (v := Int32.ofInt (j : Int)) mi_216_59 (by simp [LI]) ?_
      refine V_ibin mi_216_60 (by omega) ?_
      have ei : ibF 0 (Int32.ofInt f) (Int32.ofInt (j : Int)) = Int32.ofInt (((f + j).toNat : Nat) : Int) := by
        show Int32.ofInt f + Int32.ofInt (j : Int) = _
        rw [← Int32.ofInt_add, Int.toNat_of_nonneg (by omega)]
      refine V_bldI (j := (f + j).toNat) mi_216_61 ei hw e4 (by omega) (by omega) ((hS _ _).trans b1) ?_
      refine V_aload (v := D.2 1000 i) mi_216_62 (by simp [LI]) ?_
      refine V_iload (v := Int32.ofInt (j : Int)) mi_216_63 (by simp [LI]) ?_
      refine V_callS (As := [.int (Int32.ofInt (j : Int))]) (st := [.int (Int32.ofInt b)]) mi_216_64 (by omega) (chr_ct hq (by omega) hl) (by omega) (show 1 = mN 346 by decide +kernel) hq (by decide +kernel) (by simp [Value.category]) ?_
      rintro r w'' ⟨rfl, rfl⟩
      exact kk _ rfl
    by_cases heq : Int32.ofInt b = q.2.2.2.getD j 0
    · refine ⟨bo, fun w hw hS => head bo w hw hS (fun w' _ => ?_)⟩
      refine V_icmp mi_216_67 (fun h1 => absurd heq h1) (fun _ => ?_)
      refine V_ipush mi_216_70 ?_
      refine V_goto mi_216_71 ?_
      refine V_istore mi_216_75 ?_
      refine V_iinc (v := Int32.ofInt (j : Int)) mi_216_76 (by simp [LI, stL, Value.category]) ?_
      refine V_goto mi_216_79 ?_
      refine V_sub (lv' := LI D ad i (Int32.ofInt 1) (j + 1)) (fun p hp => ?_) (hb w hw hS)
      simp only [LI, List.mem_cons, List.not_mem_nil, or_false] at hp
      rcases hp with h | h | h | h <;> simp [h, LI, stL, Value.category, Int32.ofInt_add]
    · refine ⟨false, fun w hw hS => head false w hw hS (fun w' _ => ?_)⟩
      refine V_icmp mi_216_67 (fun _ => ?_) (fun h1 => absurd heq h1)
      refine V_ipush mi_216_74 ?_
      refine V_istore mi_216_75 ?_
      refine V_iinc (v := Int32.ofInt (j : Int)) mi_216_76 (by simp [LI, stL, Value.category]) ?_
      refine V_goto mi_216_79 ?_
      refine V_sub (lv' := LI D ad i (Int32.ofInt 0) (j + 1)) (fun p hp => ?_) (is_zero hq hl (by omega))
      simp only [LI, List.mem_cons, List.not_mem_nil, or_false] at hp
      rcases hp with h | h | h | h <;> simp [h, LI, stL, Value.category, Int32.ofInt_add]
theorem if01 (b : Bool) : bI b = 0 ↔ b = false := by cases b <;> decide
theorem is_ct {i : Nat} {q : String × Nat × String × List Int32} (hq : xsT[i]? = some q) (hl : q.2.2.2.length ≤ 9) (hl1 : 1 ≤ q.2.2.2.length) (hG : GOK ad tys GG ws) {f : Int} (hf : rd ws 90 12 = some (.int (Int32.ofInt f))) (f0 : 0 ≤ f) (f3 : f ≤ 3) : ∃ b : Bool, (f ≠ 0 → b = false) ∧ ∀ w : va_W, GOK ad tys GG w → SAME ws w → CT l D tys A 216 4 0 0 [.ref (ad 90), .ref (D.2 1000 i)] w (fun r w' => w' = w ∧ r = some (.int (bI b))) := by
  obtain ⟨t, ht, t0, t4⟩ := fld hG f10 (by omega)
  obtain ⟨at', ha, a0, a1⟩ := fld hG f8 (by omega)
  obtain ⟨fr, hr, r0, r1⟩ := fld hG f9 (by omega)
  have pre : ∀ (b : Bool) (w : va_W), GOK ad tys GG w → SAME ws w → (f = 0 ∧ t = 1 ∧ at' - fr = q.2.2.2.length → V l D tys A 216 4 0 0 (fun r w' => w' = w ∧ r = some (.int (bI b))) 0 0 39 (LI D ad i (Int32.ofInt 1) 0) [] w) → (¬ (f = 0 ∧ t = 1 ∧ at' - fr = q.2.2.2.length) → b = false) → V l D tys A 216 4 0 0 (fun r w' => w' = w ∧ r = some (.int (bI b))) 0 0 0 [(0, .ref (ad 90)), (1, .ref (D.2 1000 i))] [] w := by
    intro b w hw hS k1 k0
    have z36 : ¬ (f = 0 ∧ t = 1 ∧ at' - fr = q.2.2.2.length) → V l D tys A 216 4 0 0 (fun r w' => w' = w ∧ r = some (.int (bI b))) 0 0 35 [(0, .ref (ad 90)), (1, .ref (D.2 1000 i))] [] w := by
      intro hn
      have hb := k0 hn
      subst hb
      refine V_ipush mi_216_35 ?_
      refine V_istore mi_216_36 ?_
      refine V_ipush mi_216_37 ?_
      refine V_istore mi_216_38 ?_
      refine V_sub (lv' := LI D ad i (Int32.ofInt 0) 0) (fun p hp => ?_) (is_zero hq hl (by omega))
      simp only [LI, List.mem_cons, List.not_mem_nil, or_false] at hp
      rcases hp with h | h | h | h <;> simp [h, LI, stL, Value.category]
    refine V_aload (v := ad 90) mi_216_0 (List.Mem.head _) ?_
    refine V_callM (As := []) (st := []) mi_216_1 (by omega) (by decide +kernel) (by decide +kernel) hw (good_ct hw ((hS 90 12).trans hf) f0 f3) (by omega) (show 0 = mN 214 by decide +kernel) (by simp) ?_
    rintro r w' ⟨rfl, rfl⟩
    by_cases hf0 : f = 0
    · rw [if_pos hf0]
      refine V_if mi_216_4 (fun h1 => absurd (show (1 : Int32) = 0 from h1) (by decide)) (fun _ => ?_)
      refine V_aload (v := ad 90) mi_216_7 (List.Mem.head _) ?_
      refine V_getI mi_216_8 hw ((hS 90 10).trans ht) ?_
      refine V_ipush mi_216_11 ?_
      have hc := cdP_iff (x := 1) (a := t) (b := 1) (by omega) (by omega) (by omega) (by omega)
      refine V_icmp mi_216_12 (fun h1 => z36 (fun hh => absurd (show t - 1 ≠ 0 from hc.mp h1) (by omega))) (fun h1 => ?_)
      have ht1 : t = 1 := by
        have : ¬ (t - 1 ≠ 0) := fun qq => h1 (hc.mpr qq)
        omega
      refine V_aload (v := ad 90) mi_216_15 (List.Mem.head _) ?_
      refine V_getI mi_216_16 hw ((hS 90 8).trans ha) ?_
      refine V_aload (v := ad 90) mi_216_19 (List.Mem.head _) ?_
      refine V_getI mi_216_20 hw ((hS 90 9).trans hr) ?_
      refine V_ibin mi_216_23 (by omega) ?_
      rw [show ibF 1 (Int32.ofInt at') (Int32.ofInt fr) = Int32.ofInt (at' - fr) by show Int32.ofInt at' - Int32.ofInt fr = _; rw [← Int32.ofInt_sub]]
      refine V_aload (v := D.2 1000 i) mi_216_24 (List.Mem.tail _ (List.Mem.head _)) ?_
      refine V_callS (As := []) (st := [.int (Int32.ofInt (at' - fr))]) mi_216_25 (by omega) (len_ct hq) (by omega) (show 0 = mN 345 by decide +kernel) hq (by decide +kernel) (by simp [Value.category]) ?_
      rintro r w'' ⟨rfl, rfl⟩
      have hd := cdP_iff (x := 1) (a := at' - fr) (b := (q.2.2.2.length : Int)) (by omega) (by omega) (by omega) (by omega)
      refine V_icmp mi_216_28 (fun h2 => z36 (fun hh => absurd (show at' - fr - q.2.2.2.length ≠ 0 from hd.mp h2) (by omega))) (fun h2 => ?_)
      have hlen : at' - fr = q.2.2.2.length := by
        have : ¬ (at' - fr - q.2.2.2.length ≠ 0) := fun qq => h2 (hd.mpr qq)
        omega
      refine V_ipush mi_216_31 ?_
      refine V_goto mi_216_32 ?_
      refine V_istore mi_216_36 ?_
      refine V_ipush mi_216_37 ?_
      refine V_istore mi_216_38 ?_
      refine V_sub (lv' := LI D ad i (Int32.ofInt 1) 0) (fun p hp => ?_) (k1 ⟨hf0, ht1, hlen⟩)
      simp only [LI, List.mem_cons, List.not_mem_nil, or_false] at hp
      rcases hp with h | h | h | h <;> simp [h, LI, stL, Value.category]
    · rw [if_neg hf0]
      exact V_if mi_216_4 (fun _ => z36 (fun hh => hf0 hh.1)) (fun h1 => absurd (show (0 : Int32) = 0 from rfl) h1)
  by_cases hall : f = 0 ∧ t = 1 ∧ at' - fr = q.2.2.2.length
  · obtain ⟨b, hb⟩ := is_loop (l := l) (D := D) (A := A) hq hl hG hr r0 (t := at') (by omega) a1 q.2.2.2.length 0 (by omega)
    exact ⟨b, fun h => absurd hall.1 h, fun w hw hS => CT_of_V (by omega) (show (2 : Nat) ≤ mML 216 by decide +kernel) (pre b w hw hS (fun _ => hb w hw hS) (fun h => absurd hall h))⟩
  · exact ⟨false, fun _ => rfl, fun w hw hS => CT_of_V (by omega) (show (2 : Nat) ≤ mML 216 by decide +kernel) (pre false w hw hS (fun h => absurd h hall) (fun _ => rfl))⟩
theorem upd_ne {w w' : va_W} {c j c' j' : Nat} {v : Value} (hu : Upd1 w w' c j v) (h : ¬ (c' = c ∧ j' = j)) : rd w' c' j' = rd w c' j' := by rw [hu, if_neg h]
theorem upd_eq {w w' : va_W} {c j : Nat} {v : Value} (hu : Upd1 w w' c j v) : rd w' c j = some v := by rw [hu, if_pos ⟨rfl, rfl⟩]
def FKn (w : va_W) : Prop := ∃ f : Int, rd w 90 12 = some (.int (Int32.ofInt f)) ∧ f ≠ 0 ∧ 0 ≤ f ∧ f ≤ 3
theorem errs_ct (hG : GOK ad tys GG ws) {e : Int} (e1 : 1 ≤ e) (e3 : e ≤ 3) : CT l D tys A 215 1 0 0 [.ref (ad 90), .int (Int32.ofInt e)] ws (fun r w => r = none ∧ GOK ad tys GG w ∧ FRm [90] ws w ∧ FKn w) := by
  obtain ⟨f, hf, f0, f3⟩ := fld hG f12 (by omega)
  refine CT_of_V (by omega) (show (2 : Nat) ≤ mML 215 by decide +kernel) ?_
  refine V_aload (v := ad 90) mi_215_0 (List.Mem.head _) ?_
  refine V_callM (As := []) (st := []) mi_215_1 (by omega) (by decide +kernel) (by decide +kernel) hG (good_ct hG hf f0 f3) (by omega) (show 0 = mN 214 by decide +kernel) (by simp) ?_
  rintro r w ⟨rfl, rfl⟩
  by_cases hf0 : f = 0
  · rw [if_pos hf0]
    refine V_if mi_215_4 (fun _ => ?_) (fun h1 => absurd (show (1 : Int32) ≠ 0 by decide) h1)
    refine V_aload (v := ad 90) mi_215_8 (List.Mem.head _) ?_
    refine V_iload (v := Int32.ofInt e) mi_215_9 (List.Mem.tail _ (List.Mem.head _)) ?_
    have te : (Int32.ofInt e).toInt = e := Int32.toInt_ofInt_of_le (by omega) (by omega)
    refine V_putI mi_215_10 hG f12 (by omega) rfl (by decide +kernel) (by omega) (by omega) (fun w1 G1 U1 => ?_)
    obtain ⟨fr, hr, r0, r1⟩ := fld G1 f9 (by omega)
    have tr : (Int32.ofInt fr).toInt = fr := Int32.toInt_ofInt_of_le (by omega) (by omega)
    refine V_aload (v := ad 90) mi_215_13 (List.Mem.head _) ?_
    refine V_aload (v := ad 90) mi_215_14 (List.Mem.head _) ?_
    refine V_getI mi_215_15 G1 hr ?_
    refine V_putI mi_215_18 G1 f13 (by omega) rfl (by decide +kernel) (by omega) (by omega) (fun w2 G2 U2 => ?_)
    refine V_retV mi_215_21 ⟨rfl, G2, FRm_upd (FRm_upd FRm_rf U1 (by simp) (fun q => absurd q.2 (by decide))) U2 (by simp) (fun q => absurd q.2 (by decide)), e, ?_, by omega, by omega, by omega⟩
    rw [upd_ne U2 (by omega)]
    exact upd_eq U1
  · rw [if_neg hf0]
    refine V_if mi_215_4 (fun h1 => absurd (show (0 : Int32) = 0 from rfl) h1) (fun _ => ?_)
    exact V_retV mi_215_7 ⟨rfl, hG, FRm_rf, f, hf, hf0, f0, f3⟩
theorem vr1_okP {T : List (Nat × CR)} {fuel dep : Nat} {c : CR} {cuts : List (Nat × CUT)} {m0 : Option LF} {s : ST} {B : Int → Prop} {w0 : va_W} {σ : Nat → Int} (hAD : ∀ i : Nat, ad (1000 + i) = D.2 1000 i) (hT : TOK l D tys A ad GG c.2.2.2.2.2 w0 T) (h : vr1 GG T [] fuel dep c cuts m0 s = true) (hσ : inE σ s.2.1) (hH : HK ad tys GG c.2.2.2.2.2 w0 σ s.2.2.2.2 ws) (hM : MB m0 s.2.1.length σ B)
    (hcut : ∀ (pc : Nat) (C : CUT), (pc, C) ∈ cuts → ∀ (τ : Nat → Int) (ws : va_W), inE τ C.1 → HK ad tys GG c.2.2.2.2.2 w0 τ C.2.2.2.1 ws → 0 ≤ ev τ C.2.2.2.2 → B (ev τ C.2.2.2.2) → V l D tys A c.1 dep 0 0 post 0 0 pc (C.2.1.map (cvp ad τ)) (C.2.2.1.map (conc ad τ)) ws) (hp : ∀ (r : Option Value) (w : va_W), CRpost ad tys GG c w0 r w → post r w) : VS l D tys A c.1 dep post ad σ s ws := by
  unfold vr1 at h
  cases h1 : exN GG c.2.2.2.2.2 c.1 cuts m0 (inl GG c.2.2.2.2.2 T [] fuel dep) fuel s with
  | none => rw [h1] at h; cases h
  | some outs =>
    rw [h1] at h
    dsimp only at h
    exact exN_ok hAD (inl_ok hAD hT T2OK_nil dep) hcut fuel s outs σ ws h1 hσ hH hM (fun o ho σ' ws' e1 e2 e3 e4 => hp _ _ (okO_ok (List.all_eq_true.mp h o ho) e3 e4))
theorem V_mach {T : List (Nat × CR)} {fuel dep : Nat} {c : CR} {cutsL cutsK : List (Nat × CUT)} {s : ST} {w0 : va_W} {σ : Nat → Int} (hAD : ∀ i : Nat, ad (1000 + i) = D.2 1000 i) (hT : ∀ q ∈ T, CRok l D tys A ad GG q.1 q.2) (h : vr1 GG T [] fuel dep c (cutsL ++ cutsK) none s = true)
    (hL : cutsL.all (fun p => wfT p.2.1.length p.2.2.2.2.2.2 && vr1 GG T [] fuel dep c (cutsL ++ cutsK) (some p.2.2.2.2.2) (p.1, p.2.1, p.2.2.1, p.2.2.2.1, p.2.2.2.2.1)) = true)
    (hσ : inE σ s.2.1) (hH : HK ad tys GG c.2.2.2.2.2 w0 σ s.2.2.2.2 ws)
    (hK : ∀ (pc : Nat) (C : CUT), (pc, C) ∈ cutsK → ∀ (τ : Nat → Int) (w : va_W), inE τ C.1 → HK ad tys GG c.2.2.2.2.2 w0 τ C.2.2.2.1 w → V l D tys A c.1 dep 0 0 post 0 0 pc (C.2.1.map (cvp ad τ)) (C.2.2.1.map (conc ad τ)) w)
    (hp : ∀ (r : Option Value) (w : va_W), CRpost ad tys GG c w0 r w → post r w) : VS l D tys A c.1 dep post ad σ s ws := by
  have hT := TOK_of (mods := c.2.2.2.2.2) (w0 := w0) hT
  have loop : ∀ (N : Nat) (pc : Nat) (C : CUT), (pc, C) ∈ cutsL ++ cutsK → ∀ (τ : Nat → Int) (ws2 : va_W), inE τ C.1 → HK ad tys GG c.2.2.2.2.2 w0 τ C.2.2.2.1 ws2 → 0 ≤ ev τ C.2.2.2.2 → ev τ C.2.2.2.2 < (N : Int) → V l D tys A c.1 dep 0 0 post 0 0 pc (C.2.1.map (cvp ad τ)) (C.2.2.1.map (conc ad τ)) ws2 := by
    intro N
    induction N with
    | zero => intro pc C _ τ ws2 _ _ h0 hN; exact absurd h0 (by omega)
    | succ N ih =>
      intro pc C hc τ ws2 hτ hH h0 hN
      rcases List.mem_append.mp hc with hl | hk
      · have m := List.all_eq_true.mp hL _ hl
        rw [Bool.and_eq_true] at m
        refine vr1_okP (s := (pc, C.1, C.2.1, C.2.2.1, C.2.2.2.1)) (B := fun x => x < ev τ C.2.2.2.2) hAD hT m.2 hτ hH (Or.inr ⟨_, rfl, m.1, fun x hx => hx⟩) ?_ hp
        intro pc' C' hc' τ' ws3 a1 a2 a3 a4
        exact ih pc' C' hc' τ' ws3 a1 a2 a3 (by omega)
      · exact hK pc C hk τ ws2 hτ hH
  exact vr1_okP (B := fun _ => True) hAD hT h hσ hH (Or.inl ⟨rfl, fun _ => trivial⟩) (fun pc C hc τ ws2 q1 q2 q3 _ => loop (ev τ C.2.2.2.2 + 1).toNat pc C hc τ ws2 q1 q2 q3 (by omega)) hp
theorem in2_ct {v lo hi : Int} (v1 : -9223372036854775808 ≤ v) (v2 : v ≤ 9223372036854775807) (a1 : -9223372036854775808 ≤ lo) (a2 : lo ≤ 9223372036854775807) (b1 : -9223372036854775808 ≤ hi) (b2 : hi ≤ 9223372036854775807) : CT l D tys A 193 0 0 0 [.long (Int64.ofInt v), .long (Int64.ofInt lo), .long (Int64.ofInt hi)] ws (fun r w => w = ws ∧ ((r = some (.int (Int32.ofInt 1)) ∧ lo ≤ v ∧ v ≤ hi) ∨ (r = some (.int (Int32.ofInt 0)) ∧ ¬ (lo ≤ v ∧ v ≤ hi)))) := by
  refine CT_of_V (by omega) (show (6 : Nat) ≤ mML 193 by decide +kernel) ?_
  have no : ∀ lv : List (Nat × Value), ¬ (lo ≤ v ∧ v ≤ hi) → V l D tys A 193 0 0 0 (fun r w => w = ws ∧ ((r = some (.int (Int32.ofInt 1)) ∧ lo ≤ v ∧ v ≤ hi) ∨ (r = some (.int (Int32.ofInt 0)) ∧ ¬ (lo ≤ v ∧ v ≤ hi)))) 0 0 17 lv [] ws := fun lv hn => V_ipush mi_193_17 (V_retI mi_193_18 (fun _ => by decide) ⟨rfl, Or.inr ⟨rfl, hn⟩⟩)
  refine V_lload (v := Int64.ofInt v) mi_193_0 (List.Mem.head _) ?_
  refine V_lload (v := Int64.ofInt lo) mi_193_1 (List.Mem.tail _ (List.Mem.head _)) ?_
  refine V_lcmp mi_193_2 ?_
  have c1 := cdL_iff (x := 2) v1 v2 a1 a2
  have c2 := cdL_iff (x := 4) v1 v2 b1 b2
  refine V_if mi_193_3 (fun h => no _ (fun q => absurd (show v - lo < 0 from c1.mp h) (by omega))) (fun h1 => ?_)
  have h1 : ¬ (v - lo < 0) := fun q => h1 (c1.mpr q)
  refine V_lload (v := Int64.ofInt v) mi_193_6 (List.Mem.head _) ?_
  refine V_lload (v := Int64.ofInt hi) mi_193_7 (List.Mem.tail _ (List.Mem.tail _ (List.Mem.head _))) ?_
  refine V_lcmp mi_193_9 ?_
  refine V_if mi_193_10 (fun h => no _ (fun q => absurd (show v - hi > 0 from c2.mp h) (by omega))) (fun h2 => ?_)
  have h2 : ¬ (0 < v - hi) := fun q => h2 (c2.mpr q)
  refine V_ipush mi_193_13 ?_
  refine V_goto mi_193_14 ?_
  exact V_retI mi_193_18 (fun _ => by decide) ⟨rfl, Or.inl ⟨rfl, by omega, by omega⟩⟩
def cAdv : CR := (213, [], [], none, [], [90])
def cImp : CR := (213, [], [], none, [((90, 8), (0, 5, 4))], [90])
def kW : List (Nat × CUT) := [(83, [(0, 1400), (0, 1400)], [(0, rA 90)], [], [((90, 7), iA (0, [(1, 0)])), ((90, 8), iA (0, [(1, 1)]))], (1401, [((-1), 1)]))]
def kN : List (Nat × CUT) := [(144, [(0, 1400), (0, 1400)], [(0, rA 90)], [], [((90, 7), iA (0, [(1, 0)])), ((90, 8), iA (0, [(1, 1)]))], (1401, [((-1), 1)]))]
def kK : List (Nat × CUT) := [(144, [(0, 1400)], [(0, rA 90)], [], [((90, 8), iA (0, [(1, 0)]))], (1401, [((-1), 0)]))]
theorem mW1 : vr1 GG [] [] 300 1 cAdv (kW ++ []) none (83, [], [(0, rA 90)], [], []) = true := by decide +kernel
theorem mW2 : kW.all (fun p => wfT p.2.1.length p.2.2.2.2.2.2 && vr1 GG [] [] 300 1 cAdv (kW ++ []) (some p.2.2.2.2.2) (p.1, p.2.1, p.2.2.1, p.2.2.2.1, p.2.2.2.2.1)) = true := by decide +kernel
theorem mN1 : vr1 GG [] [] 300 1 cAdv (kN ++ []) none (144, [], [(0, rA 90)], [], []) = true := by decide +kernel
theorem mN2 : kN.all (fun p => wfT p.2.1.length p.2.2.2.2.2.2 && vr1 GG [] [] 300 1 cAdv (kN ++ []) (some p.2.2.2.2.2) (p.1, p.2.1, p.2.2.1, p.2.2.2.1, p.2.2.2.2.1)) = true := by decide +kernel
theorem mK1 : vr1 GG [] [] 300 1 cImp kK (some (1401, [((-1), 0)])) (165, [(0, 1399)], [(0, rA 90)], [], [((90, 8), iA (0, [(1, 0)]))]) = true := by decide +kernel
def GREW (w0 w : va_W) : Prop := rd w 90 10 = some (.int (Int32.ofInt 0)) ∨ ∃ a a' : Int, rd w0 90 8 = some (.int (Int32.ofInt a)) ∧ rd w 90 8 = some (.int (Int32.ofInt a')) ∧ 0 ≤ a ∧ a < a' ∧ a' ≤ 1400
def ADV (ad : Nat → Nat) (tys : List (ClassId × FieldType)) (w0 : va_W) (r : Option Value) (w : va_W) : Prop := r = none ∧ GOK ad tys GG w ∧ FRm [90] w0 w ∧ GREW w0 w
theorem mon_le {mods : List Nat} {w0 w : va_W} {a b : Int} (h : FRm mods w0 w) (ha : rd w0 90 8 = some (.int (Int32.ofInt a))) (hb : rd w 90 8 = some (.int (Int32.ofInt b))) (a0 : 0 ≤ a) (a1 : a ≤ 1400) (b0 : 0 ≤ b) (b1 : b ≤ 1400) : a ≤ b := by
  have q := h.2.1 _ _ ha hb
  rw [Int32.toInt_ofInt_of_le (by omega) (by omega), Int32.toInt_ofInt_of_le (by omega) (by omega)] at q
  exact q
theorem i2lm {m : Int} (h1 : -1 ≤ m) (h2 : m ≤ 255) : (Int32.ofInt m).toInt64 = Int64.ofInt m := Int32.toInt64_ofInt (by show -2147483648 ≤ _; omega) (by show _ ≤ 2147483647; omega)
theorem rA_lv {σ : Nat → Int} : ([(0, rA 90)] : AL).map (cvp ad σ) = [(0, .ref (ad 90))] := rfl
theorem out_grew {w0 w2 w : va_W} {r : Option Value} {a a2 : Int} (hw : CRpost ad tys GG cAdv w2 r w) (F2 : FRm [90] w0 w2) (ha : rd w0 90 8 = some (.int (Int32.ofInt a))) (h2 : rd w2 90 8 = some (.int (Int32.ofInt a2))) (a0 : 0 ≤ a) (hlt : a < a2) (a21 : a2 ≤ 1400) : ADV ad tys w0 r w := by
  obtain ⟨g1, g2, g3, -⟩ := hw
  obtain ⟨b, hb, b0, b1⟩ := fld g1 f8 (by omega)
  have := mon_le g2 h2 hb (by omega) a21 b0 b1
  refine ⟨?_, g1, FRm_tr F2 g2 (fun _ h => h), Or.inr ⟨a, b, ha, hb, a0, by omega, b1⟩⟩
  cases r with
  | none => rfl
  | some v => exact g3.elim
theorem adv_word (hAD : ∀ i : Nat, ad (1000 + i) = D.2 1000 i) {w0 w2 : va_W} {a a2 : Int} (G2 : GOK ad tys GG w2) (F2 : FRm [90] w0 w2) (ha : rd w0 90 8 = some (.int (Int32.ofInt a))) (h2 : rd w2 90 8 = some (.int (Int32.ofInt a2))) (a0 : 0 ≤ a) (hlt : a < a2) (a21 : a2 ≤ 1400) : V l D tys A 213 1 0 0 (ADV ad tys w0) 0 0 83 [(0, .ref (ad 90))] [] w2 :=
  V_mach (post := ADV ad tys w0) (cutsK := []) (w0 := w2) (σ := fun _ => 0) (s := (83, [], [(0, rA 90)], [], [])) hAD (fun q hq => by cases hq) mW1 mW2 (fun s q hq => by simp at hq) ⟨G2, (fun q hq => by cases hq), FRm_rf⟩ (fun pc C hC => by cases hC) (fun r w hw => out_grew hw F2 ha h2 a0 hlt a21)
theorem adv_num (hAD : ∀ i : Nat, ad (1000 + i) = D.2 1000 i) {w0 w2 : va_W} {a a2 : Int} (G2 : GOK ad tys GG w2) (F2 : FRm [90] w0 w2) (ha : rd w0 90 8 = some (.int (Int32.ofInt a))) (h2 : rd w2 90 8 = some (.int (Int32.ofInt a2))) (a0 : 0 ≤ a) (hlt : a < a2) (a21 : a2 ≤ 1400) : V l D tys A 213 1 0 0 (ADV ad tys w0) 0 0 144 [(0, .ref (ad 90))] [] w2 :=
  V_mach (post := ADV ad tys w0) (cutsK := []) (w0 := w2) (σ := fun _ => 0) (s := (144, [], [(0, rA 90)], [], [])) hAD (fun q hq => by cases hq) mN1 mN2 (fun s q hq => by simp at hq) ⟨G2, (fun q hq => by cases hq), FRm_rf⟩ (fun pc C hC => by cases hC) (fun r w hw => out_grew hw F2 ha h2 a0 hlt a21)
theorem ev1 {σ : Nat → Int} {c e : Int} {s : Nat} : ev σ (c, [(e, s)]) = c + e * σ s := by
  show c + (e * σ s + 0) = _
  omega
theorem adv_165 (hAD : ∀ i : Nat, ad (1000 + i) = D.2 1000 i) {w0 w2 : va_W} {a a2 : Int} (G2 : GOK ad tys GG w2) (F2 : FRm [90] w0 w2) (ha : rd w0 90 8 = some (.int (Int32.ofInt a))) (h2 : rd w2 90 8 = some (.int (Int32.ofInt a2))) (a0 : 0 ≤ a) (hle : a ≤ a2) (a21 : a2 ≤ 1399) : V l D tys A 213 1 0 0 (ADV ad tys w0) 0 0 165 [(0, .ref (ad 90))] [] w2 := by
  refine vr1_okP (post := ADV ad tys w0) (T := []) (c := cImp) (w0 := w2) (σ := fun _ => a2) (B := fun x => x < 1401 - a2) (s := (165, [(0, 1399)], [(0, rA 90)], [], [((90, 8), iA (0, [(1, 0)]))])) hAD (TOK_of (fun q hq => by cases hq)) mK1 ?_ ⟨G2, ?_, FRm_rf⟩ (Or.inr ⟨_, rfl, rfl, fun x hx => ?_⟩) ?_ ?_
  · intro s q hq
    cases s with
    | zero => cases hq; exact ⟨by show (0 : Int) ≤ a2; omega, a21⟩
    | succ s => simp at hq
  · intro q hq
    rw [List.mem_singleton.mp hq]
    show rd w2 90 8 = some (.int (Int32.ofInt (ev (fun _ => a2) (0, [(1, 0)]))))
    rw [ev1, h2, show (0 : Int) + 1 * a2 = a2 by omega]
  · rw [ev1] at hx
    show x < 1401 - a2
    omega
  · intro pc C hC τ w hτ hH h0 hB
    rw [kK] at hC
    have e := List.mem_singleton.mp hC
    cases e
    have hr : rd w 90 8 = some (.int (Int32.ofInt (ev τ (0, [(1, 0)])))) := hH.2.1 _ (List.Mem.head _)
    have hB : ev τ (1401, [((-1), 0)]) < 1401 - a2 := hB
    rw [ev1] at hr hB
    have b := hτ 0 _ rfl
    have b : (0 : Int) ≤ τ 0 ∧ τ 0 ≤ 1400 := b
    rw [show (0 : Int) + 1 * τ 0 = τ 0 by omega] at hr
    exact adv_num hAD hH.1 (FRm_tr F2 hH.2.2 (fun _ h => h)) ha hr a0 (by omega) b.2
  · intro r w hw
    obtain ⟨-, -, -, g4⟩ := hw
    obtain ⟨v, -, z, -, z1, z2⟩ := g4 ((90, 8), (0, 5, 4)) (List.Mem.head _)
    have z1 : (5 : Int) ≤ z := z1
    have z2 : z ≤ (4 : Int) := z2
    omega
theorem adv_39 (hAD : ∀ i : Nat, ad (1000 + i) = D.2 1000 i) {w0 w : va_W} {a a1 : Int} (G : GOK ad tys GG w) (F : FRm [90] w0 w) (ha : rd w0 90 8 = some (.int (Int32.ofInt a))) (h1 : rd w 90 8 = some (.int (Int32.ofInt a1))) (a0 : 0 ≤ a) (hle : a ≤ a1) (a11 : a1 ≤ 1400) : V l D tys A 213 1 0 0 (ADV ad tys w0) 0 0 39 [(0, .ref (ad 90))] [] w := by
  have ta : (Int32.ofInt a1).toInt = a1 := Int32.toInt_ofInt_of_le (by omega) (by omega)
  have n8 : ∀ {j : Nat}, spJ j = false → ¬ ((90 : Nat) = mnC ∧ spJ j = true) := fun h q => by rw [h] at q; exact absurd q.2 (by decide)
  refine V_aload (v := ad 90) mi_213_39 (List.Mem.head _) ?_
  refine V_aload (v := ad 90) mi_213_40 (List.Mem.head _) ?_
  refine V_getI mi_213_41 G h1 ?_
  refine V_putI mi_213_44 G f9 (by omega) rfl (by decide +kernel) (by omega) (by omega) (fun w1 G1 U1 => ?_)
  have F1 := FRm_upd F U1 (by simp) (n8 rfl)
  have h1 : rd w1 90 8 = some (.int (Int32.ofInt a1)) := (upd_ne U1 (by omega)).trans h1
  obtain ⟨n, hn, n0, n1⟩ := fld G1 f7 (by omega)
  obtain ⟨m, m0, m1, mm, hm⟩ := see_ct (l := l) (D := D) (A := A) G1 hn n0 n1 (p := a1) (by omega) a11
  refine V_aload (v := ad 90) mi_213_47 (List.Mem.head _) ?_
  refine V_aload (v := ad 90) mi_213_48 (List.Mem.head _) ?_
  refine V_getI mi_213_49 G1 h1 ?_
  refine V_callM (As := [.int (Int32.ofInt a1)]) (st := []) mi_213_52 (by omega) (by decide +kernel) (by decide +kernel) G1 (hm w1 G1 rfl (fun _ => rfl)) (by omega) (show 1 = mN 212 by decide +kernel) (by simp) ?_
  rintro r w' ⟨rfl, rfl⟩
  refine V_istore mi_213_55 ?_
  have l0 : (0, Value.ref (ad 90)) ∈ stL 1 (.int (Int32.ofInt m)) [(0, Value.ref (ad 90))] := by simp [stL, Value.category]
  have l1 : (1, Value.int (Int32.ofInt m)) ∈ stL 1 (.int (Int32.ofInt m)) [(0, Value.ref (ad 90))] := by simp [stL]
  have lsub : ∀ q ∈ [(0, Value.ref (ad 90))], q ∈ stL 1 (.int (Int32.ofInt m)) [(0, Value.ref (ad 90))] := fun q hq => by rw [List.mem_singleton.mp hq]; exact l0
  refine V_iload (v := Int32.ofInt m) mi_213_56 l1 ?_
  refine V_ipush mi_213_57 ?_
  have hc := cdP_iff (x := 1) (a := m) (b := -1) (by omega) (by omega) (by omega) (by omega)
  refine V_icmp mi_213_58 (fun h => ?_) (fun h => ?_)
  · have hm1 : m - (-1) ≠ 0 := hc.mp h
    have han : a1 < n := by
      have : ¬ (n ≤ a1) := fun q => by have := mm.mpr q; omega
      omega
    -- one step onward
    have grow : ∀ (w3 w4 : va_W), FRm [90] w0 w3 → rd w3 90 8 = some (.int (Int32.ofInt a1)) → Upd1 w3 w4 90 8 (.int (Int32.ofInt (a1 + 1))) → FRm [90] w0 w4 ∧ rd w4 90 8 = some (.int (Int32.ofInt (a1 + 1))) := by
      intro w3 w4 F3 h3 U4
      refine ⟨FRm_updM F3 U4 (by unfold mnC; simp) h3 ?_, upd_eq U4⟩
      rw [ta, Int32.toInt_ofInt_of_le (by omega) (by omega)]
      omega
    have tb : (Int32.ofInt (a1 + 1)).toInt = a1 + 1 := Int32.toInt_ofInt_of_le (by omega) (by omega)
    have ead : ibF 0 (Int32.ofInt a1) (Int32.ofInt 1) = Int32.ofInt (a1 + 1) := by
      show Int32.ofInt a1 + Int32.ofInt 1 = _
      rw [← Int32.ofInt_add]
    refine V_iload (v := Int32.ofInt m) mi_213_69 l1 ?_
    refine V_i2l mi_213_70 ?_
    rw [i2lm m0 m1]
    refine V_lpush mi_213_71 ?_
    refine V_lpush mi_213_74 ?_
    refine V_stat (As := [.long (Int64.ofInt m), .long (Int64.ofInt 97), .long (Int64.ofInt 122)]) (st := []) mi_213_77 (by omega) (in2_ct (by omega) (by omega) (by omega) (by omega) (by omega) (by omega)) (by omega) (show 3 = mN 193 by decide +kernel) (by simp) ⟨Nat.le_refl _, Nat.le_refl _⟩ ?_
    rintro r w' ⟨rfl, hr⟩
    rcases hr with ⟨rfl, q1, q2⟩ | ⟨rfl, hnot⟩
    · -- a word
      refine V_if mi_213_80 (fun h1 => absurd (show (1 : Int32) = 0 from h1) (by decide)) (fun _ => ?_)
      refine V_aload (v := ad 90) mi_213_83 l0 ?_
      refine V_aload (v := ad 90) mi_213_84 l0 ?_
      refine V_getI mi_213_85 G1 h1 ?_
      refine V_callM (As := [.int (Int32.ofInt a1)]) (st := []) mi_213_88 (by omega) (by decide +kernel) (by decide +kernel) G1 (hm _ G1 rfl (fun _ => rfl)) (by omega) (show 1 = mN 212 by decide +kernel) (by simp) ?_
      rintro r w' ⟨rfl, rfl⟩
      refine V_i2l mi_213_91 ?_
      rw [i2lm m0 m1]
      refine V_lpush mi_213_92 ?_
      refine V_lpush mi_213_95 ?_
      refine V_stat (As := [.long (Int64.ofInt m), .long (Int64.ofInt 97), .long (Int64.ofInt 122)]) (st := []) mi_213_98 (by omega) (in2_ct (by omega) (by omega) (by omega) (by omega) (by omega) (by omega)) (by omega) (show 3 = mN 193 by decide +kernel) (by simp) ⟨Nat.le_refl _, Nat.le_refl _⟩ ?_
      rintro r w' ⟨rfl, hr⟩
      rcases hr with ⟨rfl, -, -⟩ | ⟨-, hnot⟩
      · refine V_if mi_213_101 (fun h1 => absurd (show (1 : Int32) = 0 from h1) (by decide)) (fun _ => ?_)
        refine V_aload (v := ad 90) mi_213_104 l0 ?_
        refine V_dup mi_213_105 rfl ?_
        refine V_getI mi_213_106 G1 h1 ?_
        refine V_ipush mi_213_109 ?_
        refine V_ibin mi_213_110 (by omega) ?_
        rw [ead]
        refine V_putI mi_213_111 G1 f8 (by omega) rfl (by decide +kernel) (by omega) (by omega) (fun w2 G2 U2 => ?_)
        refine V_goto mi_213_114 ?_
        obtain ⟨F2, h2⟩ := grow _ _ F1 h1 U2
        exact V_sub lsub (adv_word hAD G2 F2 ha h2 a0 (by omega) (by omega))
      · exact absurd ⟨q1, q2⟩ hnot
    · refine V_if mi_213_80 (fun _ => ?_) (fun h1 => absurd (show (0 : Int32) = 0 from rfl) h1)
      refine V_iload (v := Int32.ofInt m) mi_213_125 l1 ?_
      refine V_i2l mi_213_126 ?_
      rw [i2lm m0 m1]
      refine V_lpush mi_213_127 ?_
      refine V_lpush mi_213_130 ?_
      refine V_stat (As := [.long (Int64.ofInt m), .long (Int64.ofInt 48), .long (Int64.ofInt 57)]) (st := []) mi_213_133 (by omega) (in2_ct (by omega) (by omega) (by omega) (by omega) (by omega) (by omega)) (by omega) (show 3 = mN 193 by decide +kernel) (by simp) ⟨Nat.le_refl _, Nat.le_refl _⟩ ?_
      rintro r w' ⟨rfl, hr⟩
      rcases hr with ⟨rfl, q1, q2⟩ | ⟨rfl, hnot2⟩
      · -- a number
        refine V_if mi_213_136 (fun h1 => absurd (show (1 : Int32) = 0 from h1) (by decide)) (fun _ => ?_)
        refine V_aload (v := ad 90) mi_213_139 l0 ?_
        refine V_ipush mi_213_140 ?_
        refine V_putI mi_213_141 G1 f11 (by omega) rfl (by decide +kernel) (by decide) (by decide) (fun w2 G2 U2 => ?_)
        have F2 := FRm_upd F1 U2 (by simp) (n8 rfl)
        have h2 : rd w2 90 8 = some (.int (Int32.ofInt a1)) := (upd_ne U2 (by omega)).trans h1
        refine V_aload (v := ad 90) mi_213_144 l0 ?_
        refine V_aload (v := ad 90) mi_213_145 l0 ?_
        refine V_getI mi_213_146 G2 h2 ?_
        refine V_callM (As := [.int (Int32.ofInt a1)]) (st := []) mi_213_149 (by omega) (by decide +kernel) (by decide +kernel) G2 (hm _ G2 (upd_ne U2 (by omega)) (fun j => upd_ne U2 (by omega))) (by omega) (show 1 = mN 212 by decide +kernel) (by simp) ?_
        rintro r w' ⟨rfl, rfl⟩
        refine V_i2l mi_213_152 ?_
        rw [i2lm m0 m1]
        refine V_lpush mi_213_153 ?_
        refine V_lpush mi_213_156 ?_
        refine V_stat (As := [.long (Int64.ofInt m), .long (Int64.ofInt 48), .long (Int64.ofInt 57)]) (st := []) mi_213_159 (by omega) (in2_ct (by omega) (by omega) (by omega) (by omega) (by omega) (by omega)) (by omega) (show 3 = mN 193 by decide +kernel) (by simp) ⟨Nat.le_refl _, Nat.le_refl _⟩ ?_
        rintro r w' ⟨rfl, hr⟩
        rcases hr with ⟨rfl, -, -⟩ | ⟨-, hnot3⟩
        · refine V_if mi_213_162 (fun h1 => absurd (show (1 : Int32) = 0 from h1) (by decide)) (fun _ => ?_)
          exact V_sub lsub (adv_165 hAD G2 F2 ha h2 a0 hle (by omega))
        · exact absurd ⟨q1, q2⟩ hnot3
      · -- a sign, or none
        refine V_if mi_213_136 (fun _ => ?_) (fun h1 => absurd (show (0 : Int32) = 0 from rfl) h1)
        have fin : ∀ t : Int, 0 ≤ t → t ≤ 4 → V l D tys A 213 1 0 0 (ADV ad tys w0) 0 0 226 (stL 1 (.int (Int32.ofInt m)) [(0, Value.ref (ad 90))]) [.int (Int32.ofInt t), .ref (ad 90)] w' := by
          intro t t0 t4
          have tt : (Int32.ofInt t).toInt = t := Int32.toInt_ofInt_of_le (by omega) (by omega)
          refine V_putI mi_213_226 G1 f10 (by omega) rfl (by decide +kernel) (by omega) (by omega) (fun w2 G2 U2 => ?_)
          have F2 := FRm_upd F1 U2 (by simp) (n8 rfl)
          have h2 : rd w2 90 8 = some (.int (Int32.ofInt a1)) := (upd_ne U2 (by omega)).trans h1
          refine V_aload (v := ad 90) mi_213_229 l0 ?_
          refine V_dup mi_213_230 rfl ?_
          refine V_getI mi_213_231 G2 h2 ?_
          refine V_ipush mi_213_234 ?_
          refine V_ibin mi_213_235 (by omega) ?_
          rw [ead]
          refine V_putI mi_213_236 G2 f8 (by omega) rfl (by decide +kernel) (by omega) (by omega) (fun w3 G3 U3 => ?_)
          obtain ⟨F3, h3⟩ := grow _ _ F2 h2 U3
          exact V_retV mi_213_239 ⟨rfl, G3, F3, Or.inr ⟨a, a1 + 1, ha, h3, a0, by omega, by omega⟩⟩
        refine V_aload (v := ad 90) mi_213_214 l0 ?_
        refine V_iload (v := Int32.ofInt m) mi_213_215 l1 ?_
        refine V_ipush mi_213_216 ?_
        refine V_icmp mi_213_218 (fun _ => ?_) (fun _ => ?_)
        · refine V_ipush mi_213_225 ?_
          exact fin 4 (by omega) (by omega)
        · refine V_ipush mi_213_221 ?_
          refine V_goto mi_213_222 ?_
          exact fin 3 (by omega) (by omega)
  · refine V_aload (v := ad 90) mi_213_61 l0 ?_
    refine V_ipush mi_213_62 ?_
    refine V_putI mi_213_63 G1 f10 (by omega) rfl (by decide +kernel) (by decide) (by decide) (fun w2 G2 U2 => ?_)
    refine V_goto mi_213_66 ?_
    exact V_retV mi_213_239 ⟨rfl, G2, FRm_upd F1 U2 (by simp) (n8 rfl), Or.inl (upd_eq U2)⟩
theorem adv_0 (hAD : ∀ i : Nat, ad (1000 + i) = D.2 1000 i) {w0 : va_W} {a : Int} (ha : rd w0 90 8 = some (.int (Int32.ofInt a))) (a0 : 0 ≤ a) : ∀ (N : Nat) (w : va_W) (a1 : Int), 1400 - a1 < (N : Int) → GOK ad tys GG w → FRm [90] w0 w → rd w 90 8 = some (.int (Int32.ofInt a1)) → a ≤ a1 → a1 ≤ 1400 → V l D tys A 213 1 0 0 (ADV ad tys w0) 0 0 0 [(0, .ref (ad 90))] [] w
  | 0, w, a1, h, _, _, _, _, h14 => by omega
  | N + 1, w, a1, h, G, F, h1, hle, a11 => by
    obtain ⟨n, hn, n0, n1⟩ := fld G f7 (by omega)
    obtain ⟨m, m0, m1, mm, hm⟩ := see_ct (l := l) (D := D) (A := A) G hn n0 n1 (p := a1) (by omega) a11
    have ta : (Int32.ofInt a1).toInt = a1 := Int32.toInt_ofInt_of_le (by omega) (by omega)
    have go26 : m ≠ -1 → V l D tys A 213 1 0 0 (ADV ad tys w0) 0 0 26 [(0, .ref (ad 90))] [] w := by
      intro hm1
      have han : a1 < n := by
        have : ¬ (n ≤ a1) := fun q => hm1 (mm.mpr q)
        omega
      have tb : (Int32.ofInt (a1 + 1)).toInt = a1 + 1 := Int32.toInt_ofInt_of_le (by omega) (by omega)
      refine V_aload (v := ad 90) mi_213_26 (List.Mem.head _) ?_
      refine V_dup mi_213_27 rfl ?_
      refine V_getI mi_213_28 G h1 ?_
      refine V_ipush mi_213_31 ?_
      refine V_ibin mi_213_32 (by omega) ?_
      rw [show ibF 0 (Int32.ofInt a1) (Int32.ofInt 1) = Int32.ofInt (a1 + 1) by show Int32.ofInt a1 + Int32.ofInt 1 = _; rw [← Int32.ofInt_add]]
      refine V_putI mi_213_33 G f8 (by omega) rfl (by decide +kernel) (by omega) (by omega) (fun w2 G2 U2 => ?_)
      refine V_goto mi_213_36 ?_
      exact adv_0 hAD ha a0 N w2 (a1 + 1) (by omega) G2 (FRm_updM F U2 (by unfold mnC; simp) h1 (by rw [ta, tb]; omega)) (upd_eq U2) (by omega) (by omega)
    refine V_aload (v := ad 90) mi_213_0 (List.Mem.head _) ?_
    refine V_aload (v := ad 90) mi_213_1 (List.Mem.head _) ?_
    refine V_getI mi_213_2 G h1 ?_
    refine V_callM (As := [.int (Int32.ofInt a1)]) (st := []) mi_213_5 (by omega) (by decide +kernel) (by decide +kernel) G (hm _ G rfl (fun _ => rfl)) (by omega) (show 1 = mN 212 by decide +kernel) (by simp) ?_
    rintro r w' ⟨rfl, rfl⟩
    refine V_ipush mi_213_8 ?_
    have c1 := cdP_iff (x := 0) (a := m) (b := 32) (by omega) (by omega) (by omega) (by omega)
    refine V_icmp mi_213_10 (fun h => go26 (by have : m - 32 = 0 := c1.mp h; omega)) (fun _ => ?_)
    refine V_aload (v := ad 90) mi_213_13 (List.Mem.head _) ?_
    refine V_aload (v := ad 90) mi_213_14 (List.Mem.head _) ?_
    refine V_getI mi_213_15 G h1 ?_
    refine V_callM (As := [.int (Int32.ofInt a1)]) (st := []) mi_213_18 (by omega) (by decide +kernel) (by decide +kernel) G (hm _ G rfl (fun _ => rfl)) (by omega) (show 1 = mN 212 by decide +kernel) (by simp) ?_
    rintro r w' ⟨rfl, rfl⟩
    refine V_ipush mi_213_21 ?_
    have c2 := cdP_iff (x := 1) (a := m) (b := 10) (by omega) (by omega) (by omega) (by omega)
    refine V_icmp mi_213_23 (fun _ => adv_39 hAD G F ha h1 a0 hle a11) (fun h => go26 ?_)
    have : ¬ (m - 10 ≠ 0) := fun q => h (c2.mpr q)
    omega
theorem adv_ct (hAD : ∀ i : Nat, ad (1000 + i) = D.2 1000 i) (hG : GOK ad tys GG ws) : CT l D tys A 213 1 0 0 [.ref (ad 90)] ws (ADV ad tys ws) := by
  obtain ⟨a, ha, a0, a1⟩ := fld hG f8 (by omega)
  exact CT_of_V (by omega) (show (1 : Nat) ≤ mML 213 by decide +kernel) (adv_0 hAD ha a0 1401 ws a (by omega) hG FRm_rf ha (Int.le_refl _) a1)
def cRN : CR := (231, [], [], none, [], [90, 96])
theorem mR156 : vr1 GG [(2, g831)] [] 900 8 cRN ([] ++ []) none (156, [], [(0, rA 90)], [], []) = true := by decide +kernel
theorem mR197 : vr1 GG [(2, g831)] [] 900 8 cRN ([] ++ []) none (197, [], [(0, rA 90)], [], []) = true := by decide +kernel
theorem mR278 : vr1 GG [(2, g831)] [] 900 8 cRN ([] ++ []) none (278, [], [(0, rA 90)], [], []) = true := by decide +kernel
theorem xs_l : xsT.all (fun q => Nat.ble 1 q.2.2.2.length && Nat.ble q.2.2.2.length 9) = true := by decide +kernel
theorem xs_f {i : Nat} (h : i < 24) : ∃ q, xsT[i]? = some q ∧ 1 ≤ q.2.2.2.length ∧ q.2.2.2.length ≤ 9 := by
  obtain ⟨q, hq⟩ := xs_at h
  have e := List.all_eq_true.mp xs_l q (List.mem_of_getElem? hq)
  rw [Bool.and_eq_true] at e
  exact ⟨q, hq, Nat.le_of_ble_eq_true e.1, Nat.le_of_ble_eq_true e.2⟩
def ISF (l : Launch) (D : va_G) (tys : List (ClassId × FieldType)) (A : Nat → Prop) (ad : Nat → Nat) (ws : va_W) (i : Nat) (b : Bool) : Prop := ∀ w : va_W, GOK ad tys GG w → SAME ws w → CT l D tys A 216 4 0 0 [.ref (ad 90), .ref (D.2 1000 i)] w (fun r w' => w' = w ∧ r = some (.int (bI b)))
theorem is_all {i : Nat} (h : i < 24) (hG : GOK ad tys GG ws) {f : Int} (hf : rd ws 90 12 = some (.int (Int32.ofInt f))) (f0 : 0 ≤ f) (f3 : f ≤ 3) : ∃ b : Bool, (f ≠ 0 → b = false) ∧ ISF l D tys A ad ws i b := by
  obtain ⟨q, hq, l1, l9⟩ := xs_f h
  exact is_ct hq l9 l1 hG hf f0 f3
theorem takes_ct (hAD : ∀ i : Nat, ad (1000 + i) = D.2 1000 i) {i : Nat} {b : Bool} (hb : ISF l D tys A ad ws i b) {w : va_W} (G : GOK ad tys GG w) (S : SAME ws w) : CT l D tys A 217 5 0 0 [.ref (ad 90), .ref (D.2 1000 i)] w (fun r w' => (b = false ∧ w' = w ∧ r = some (.int (Int32.ofInt 0))) ∨ (b = true ∧ r = some (.int (Int32.ofInt 1)) ∧ GOK ad tys GG w' ∧ FRm [90] w w')) := by
  refine CT_of_V (by omega) (show (2 : Nat) ≤ mML 217 by decide +kernel) ?_
  refine V_aload (v := ad 90) mi_217_0 (List.Mem.head _) ?_
  refine V_aload (v := D.2 1000 i) mi_217_1 (List.Mem.tail _ (List.Mem.head _)) ?_
  refine V_callM (As := [.ref (D.2 1000 i)]) (st := []) mi_217_2 (by omega) (by decide +kernel) (by decide +kernel) G (hb w G S) (by omega) (show 1 = mN 216 by decide +kernel) (by simp) ?_
  rintro r w' ⟨rfl, rfl⟩
  refine V_istore mi_217_5 ?_
  have l2 : (2, Value.int (bI b)) ∈ stL 2 (.int (bI b)) (lv_args 0 [Value.ref (ad 90), .ref (D.2 1000 i)]) := by simp [stL]
  refine V_iload (v := bI b) mi_217_6 l2 ?_
  refine V_if mi_217_7 (fun h => ?_) (fun h => ?_)
  · have hb0 := (if01 b).mp h
    refine V_iload (v := bI b) mi_217_14 l2 ?_
    subst hb0
    exact V_retI mi_217_15 (fun _ => by decide) (Or.inl ⟨rfl, rfl, rfl⟩)
  · have hb1 : b = true := by
      cases b with
      | true => rfl
      | false => exact absurd ((if01 false).mpr rfl) h
    refine V_aload (v := ad 90) mi_217_10 (by simp [stL, lv_args, Value.category]) ?_
    refine V_callM (As := []) (st := []) mi_217_11 (by omega) (by decide +kernel) (by decide +kernel) G (adv_ct hAD G) (by omega) (show 0 = mN 213 by decide +kernel) (by simp) ?_
    rintro r w2 ⟨rfl, G2, F2, -⟩
    refine V_iload (v := bI b) mi_217_14 l2 ?_
    subst hb1
    exact V_retI mi_217_15 (fun _ => by decide) (Or.inr ⟨rfl, rfl, G2, F2⟩)
def RN (ad : Nat → Nat) (tys : List (ClassId × FieldType)) (w0 : va_W) (r : Option Value) (w : va_W) : Prop := r = none ∧ GOK ad tys GG w ∧ FRm [90, 96, 97] w0 w
theorem rn_of {m : List Nat} {c : CR} {w0 w1 w : va_W} {r : Option Value} (hm : c.2.2.2.2.2 = m) (hr : c.2.2.2.1 = none) (hs : ∀ x ∈ m, x ∈ [90, 96, 97]) (F : FRm [90] w0 w1) (h : CRpost ad tys GG c w1 r w) : RN ad tys w0 r w := by
  obtain ⟨g1, g2, g3, -⟩ := h
  refine ⟨?_, g1, FRm_tr (FRm_tr (FRm_rf (mods := [90, 96, 97])) F (fun x hx => by rw [List.mem_singleton.mp hx]; simp)) g2 (by rw [hm]; exact hs)⟩
  rw [hr] at g3
  cases r with
  | none => rfl
  | some v => exact g3.elim
theorem rn_ret {w0 w1 : va_W} {lv : List (Nat × Value)} (G : GOK ad tys GG w1) (F : FRm [90] w0 w1) : V l D tys A 231 8 0 0 (RN ad tys w0) 0 0 315 lv [] w1 := V_retV mi_231_315 ⟨rfl, G, FRm_tr (FRm_rf (mods := [90, 96, 97])) F (fun x hx => by rw [List.mem_singleton.mp hx]; simp)⟩
theorem rn_tail (hAD : ∀ i : Nat, ad (1000 + i) = D.2 1000 i) {w0 w1 : va_W} {pc : Nat} (G : GOK ad tys GG w1) (F : FRm [90] w0 w1) (h : vr1 GG [(2, g831)] [] 900 8 cRN ([] ++ []) none (pc, [], [(0, rA 90)], [], []) = true) : V l D tys A 231 8 0 0 (RN ad tys w0) 0 0 pc [(0, .ref (ad 90))] [] w1 :=
  V_mach (post := RN ad tys w0) (cutsL := []) (cutsK := []) (w0 := w1) (σ := fun _ => 0) (s := (pc, [], [(0, rA 90)], [], [])) hAD (List.forall_mem_cons.mpr ⟨r831 hAD, fun q hq => by cases hq⟩) h rfl (fun s q hq => by simp at hq) ⟨G, (fun q hq => by cases hq), FRm_rf⟩ (fun pc C hC => by cases hC) (fun r w hw => rn_of (m := [90, 96]) rfl rfl (by simp) F hw)
theorem rn_con {w0 w1 : va_W} {y dd : Nat} {c : CR} {pc : Nat} {x0 : Int} {x1 : Nat} {lv : List (Nat × Value)} (G : GOK ad tys GG w1) (F : FRm [90] w0 w1) (hc : CRok l D tys A ad GG dd c) (hd : dd ≤ 8) (hy : c.1 = y) (hargs : c.2.1 = [(2, 90, 90)]) (hret : c.2.2.2.1 = none) (hmods : ∀ x ∈ c.2.2.2.2.2, x ∈ [90, 96, 97]) (hp : preOK ad c.2.2.1 w1) (hi0 : mI 231 pc = (5, 0, 0, 0, 0)) (hi1 : mI 231 (pc + 1) = (26, x0, x1, y, 0)) (hi2 : mI 231 (pc + 4) = (16, a, x, 315, z)) (hy2 : y < 352) (hk : mKind y = 0) (hci : mCi y = 11) (hn : 0 = mN y) (l0 : (0, Value.ref (ad 90)) ∈ lv) : V l D tys A 231 8 0 0 (RN ad tys w0) 0 0 pc lv [] w1 := by
  subst hy
  obtain ⟨d', h1, h2⟩ := hc [.ref (ad 90)] w1 (by rw [hargs]; exact ⟨rfl, trivial⟩) G hp
  refine V_aload (v := ad 90) hi0 l0 ?_
  refine V_callM (As := []) (st := []) hi1 hy2 hk hci G h2 (by omega) hn (by simp) ?_
  intro r w2 hw
  have R := rn_of rfl hret hmods F hw
  obtain ⟨e, R2, R3⟩ := R
  subst e
  refine V_goto hi2 ?_
  exact V_retV mi_231_315 ⟨rfl, R2, R3⟩
theorem pre1 {w : va_W} {c j : Nat} {lo hi z : Int} (h : rd w c j = some (.int (Int32.ofInt z))) (h1 : lo ≤ z) (h2 : z ≤ hi) : preOK ad [((c, j), (0, lo, hi))] w := by
  intro q hq
  rw [List.mem_singleton.mp hq]
  exact ⟨_, h, z, rfl, h1, h2⟩
theorem pre2 {w : va_W} {c j c2 j2 : Nat} {lo hi z lo2 hi2 z2 : Int} (h : rd w c j = some (.int (Int32.ofInt z))) (h1 : lo ≤ z) (h2 : z ≤ hi) (k : rd w c2 j2 = some (.int (Int32.ofInt z2))) (k1 : lo2 ≤ z2) (k2 : z2 ≤ hi2) : preOK ad [((c, j), (0, lo, hi)), ((c2, j2), (0, lo2, hi2))] w := by
  intro q hq
  rcases List.mem_cons.mp hq with rfl | hq
  · exact ⟨_, h, z, rfl, h1, h2⟩
  · rw [List.mem_singleton.mp hq]
    exact ⟨_, k, z2, rfl, k1, k2⟩
theorem rn_131 (hAD : ∀ i : Nat, ad (1000 + i) = D.2 1000 i) {z0 z3 z4 : Int} {b0 b1 b2 b3 b4 b5 : Bool} (b17 : ISF l D tys A ad ws 17 b0) (b18 : ISF l D tys A ad ws 18 b1) (b19 : ISF l D tys A ad ws 19 b2) (b20 : ISF l D tys A ad ws 20 b3) (b21 : ISF l D tys A ad ws 21 b4) (b22 : ISF l D tys A ad ws 22 b5) {w : va_W} (G : GOK ad tys GG w) (S : SAME ws w) (F : FRm [90] ws w) (h0 : rd w 96 0 = some (.int (Int32.ofInt z0))) (h3 : rd w 96 3 = some (.int (Int32.ofInt z3))) (h4 : rd w 96 4 = some (.int (Int32.ofInt z4))) (z00 : 0 ≤ z0) (z09 : z0 ≤ 9) (z30 : 0 ≤ z3) (z36 : z3 ≤ 6) (z40 : 0 ≤ z4) (z4c : z4 ≤ 12) (hN : b0 = true → z3 ≠ 6) (hS : b5 = true → z4 ≠ 12) : V l D tys A 231 8 0 0 (RN ad tys ws) 0 0 131 [(0, .ref (ad 90))] [] w := by
  refine V_aload (v := ad 90) mi_231_131 (List.Mem.head _) ?_
  refine V_ldcS mi_231_132 ?_
  refine V_callM (As := [.ref (D.2 1000 17)]) (st := []) mi_231_134 (by omega) (by decide +kernel) (by decide +kernel) G (takes_ct hAD b17 G S) (by omega) (show 1 = mN 217 by decide +kernel) (by simp) ?_
  rintro r w' (⟨e17, rfl, rfl⟩ | ⟨e17, rfl, G', F'⟩)
  case inr =>
    refine V_if mi_231_137 (fun h => absurd (show (1 : Int32) = 0 from h) (by decide)) (fun _ => ?_)
    have F' := FRm_tr F F' (fun _ h => h)
    have z3' : z3 ≤ 5 := by have := hN e17; omega
    have f96_0 : rd w' 96 0 = some (.int (Int32.ofInt z0)) := ((F'.1 96 (by simp) 0).trans (S 96 0).symm).trans h0
    have f96_3 : rd w' 96 3 = some (.int (Int32.ofInt z3)) := ((F'.1 96 (by simp) 3).trans (S 96 3).symm).trans h3
    rcases (show z0 = 0 ∨ z0 = 1 ∨ z0 = 2 ∨ z0 = 3 ∨ z0 = 4 ∨ z0 = 5 ∨ z0 = 6 ∨ z0 = 7 ∨ z0 = 8 ∨ z0 = 9 by omega) with h | h | h | h | h | h | h | h | h | h
    · exact rn_con G' F' (r849 hAD) (by omega) rfl rfl rfl (by decide) (pre2 f96_0 (by omega) (by omega) f96_3 (by omega) (by omega)) mi_231_140 mi_231_141 mi_231_144 (by decide +kernel) (by decide +kernel) (by decide +kernel) (by decide +kernel) (List.Mem.head _)
    · exact rn_con G' F' (r850 hAD) (by omega) rfl rfl rfl (by decide) (pre2 f96_0 (by omega) (by omega) f96_3 (by omega) (by omega)) mi_231_140 mi_231_141 mi_231_144 (by decide +kernel) (by decide +kernel) (by decide +kernel) (by decide +kernel) (List.Mem.head _)
    · exact rn_con G' F' (r851 hAD) (by omega) rfl rfl rfl (by decide) (pre2 f96_0 (by omega) (by omega) f96_3 (by omega) (by omega)) mi_231_140 mi_231_141 mi_231_144 (by decide +kernel) (by decide +kernel) (by decide +kernel) (by decide +kernel) (List.Mem.head _)
    · exact rn_con G' F' (r852 hAD) (by omega) rfl rfl rfl (by decide) (pre2 f96_0 (by omega) (by omega) f96_3 (by omega) (by omega)) mi_231_140 mi_231_141 mi_231_144 (by decide +kernel) (by decide +kernel) (by decide +kernel) (by decide +kernel) (List.Mem.head _)
    · exact rn_con G' F' (r853 hAD) (by omega) rfl rfl rfl (by decide) (pre2 f96_0 (by omega) (by omega) f96_3 (by omega) (by omega)) mi_231_140 mi_231_141 mi_231_144 (by decide +kernel) (by decide +kernel) (by decide +kernel) (by decide +kernel) (List.Mem.head _)
    · exact rn_con G' F' (r854 hAD) (by omega) rfl rfl rfl (by decide) (pre2 f96_0 (by omega) (by omega) f96_3 (by omega) (by omega)) mi_231_140 mi_231_141 mi_231_144 (by decide +kernel) (by decide +kernel) (by decide +kernel) (by decide +kernel) (List.Mem.head _)
    · exact rn_con G' F' (r855 hAD) (by omega) rfl rfl rfl (by decide) (pre2 f96_0 (by omega) (by omega) f96_3 (by omega) (by omega)) mi_231_140 mi_231_141 mi_231_144 (by decide +kernel) (by decide +kernel) (by decide +kernel) (by decide +kernel) (List.Mem.head _)
    · exact rn_con G' F' (r856 hAD) (by omega) rfl rfl rfl (by decide) (pre2 f96_0 (by omega) (by omega) f96_3 (by omega) (by omega)) mi_231_140 mi_231_141 mi_231_144 (by decide +kernel) (by decide +kernel) (by decide +kernel) (by decide +kernel) (List.Mem.head _)
    · exact rn_con G' F' (r857 hAD) (by omega) rfl rfl rfl (by decide) (pre2 f96_0 (by omega) (by omega) f96_3 (by omega) (by omega)) mi_231_140 mi_231_141 mi_231_144 (by decide +kernel) (by decide +kernel) (by decide +kernel) (by decide +kernel) (List.Mem.head _)
    · exact rn_con G' F' (r858 hAD) (by omega) rfl rfl rfl (by decide) (pre2 f96_0 (by omega) (by omega) f96_3 (by omega) (by omega)) mi_231_140 mi_231_141 mi_231_144 (by decide +kernel) (by decide +kernel) (by decide +kernel) (by decide +kernel) (List.Mem.head _)
  refine V_if mi_231_137 (fun _ => ?_) (fun h => absurd (show (0 : Int32) = 0 from rfl) h)
  refine V_aload (v := ad 90) mi_231_147 (List.Mem.head _) ?_
  refine V_ldcS mi_231_148 ?_
  refine V_callM (As := [.ref (D.2 1000 18)]) (st := []) mi_231_150 (by omega) (by decide +kernel) (by decide +kernel) G (takes_ct hAD b18 G S) (by omega) (show 1 = mN 217 by decide +kernel) (by simp) ?_
  rintro r w' (⟨e18, rfl, rfl⟩ | ⟨e18, rfl, G', F'⟩)
  case inr =>
    refine V_if mi_231_153 (fun h => absurd (show (1 : Int32) = 0 from h) (by decide)) (fun _ => ?_)
    have F' := FRm_tr F F' (fun _ h => h)
    exact rn_tail hAD G' F' mR156
  refine V_if mi_231_153 (fun _ => ?_) (fun h => absurd (show (0 : Int32) = 0 from rfl) h)
  refine V_aload (v := ad 90) mi_231_188 (List.Mem.head _) ?_
  refine V_ldcS mi_231_189 ?_
  refine V_callM (As := [.ref (D.2 1000 19)]) (st := []) mi_231_191 (by omega) (by decide +kernel) (by decide +kernel) G (takes_ct hAD b19 G S) (by omega) (show 1 = mN 217 by decide +kernel) (by simp) ?_
  rintro r w' (⟨e19, rfl, rfl⟩ | ⟨e19, rfl, G', F'⟩)
  case inr =>
    refine V_if mi_231_194 (fun h => absurd (show (1 : Int32) = 0 from h) (by decide)) (fun _ => ?_)
    have F' := FRm_tr F F' (fun _ h => h)
    exact rn_tail hAD G' F' mR197
  refine V_if mi_231_194 (fun _ => ?_) (fun h => absurd (show (0 : Int32) = 0 from rfl) h)
  refine V_aload (v := ad 90) mi_231_230 (List.Mem.head _) ?_
  refine V_ldcS mi_231_231 ?_
  refine V_callM (As := [.ref (D.2 1000 20)]) (st := []) mi_231_233 (by omega) (by decide +kernel) (by decide +kernel) G (takes_ct hAD b20 G S) (by omega) (show 1 = mN 217 by decide +kernel) (by simp) ?_
  rintro r w' (⟨e20, rfl, rfl⟩ | ⟨e20, rfl, G', F'⟩)
  case inr =>
    refine V_if mi_231_236 (fun h => absurd (show (1 : Int32) = 0 from h) (by decide)) (fun _ => ?_)
    have F' := FRm_tr F F' (fun _ h => h)
    exact rn_con G' F' (r846 hAD) (by omega) rfl rfl rfl (by decide) (fun q hq => by cases hq) mi_231_239 mi_231_240 mi_231_243 (by decide +kernel) (by decide +kernel) (by decide +kernel) (by decide +kernel) (List.Mem.head _)
  refine V_if mi_231_236 (fun _ => ?_) (fun h => absurd (show (0 : Int32) = 0 from rfl) h)
  refine V_aload (v := ad 90) mi_231_246 (List.Mem.head _) ?_
  refine V_ldcS mi_231_247 ?_
  refine V_callM (As := [.ref (D.2 1000 21)]) (st := []) mi_231_249 (by omega) (by decide +kernel) (by decide +kernel) G (takes_ct hAD b21 G S) (by omega) (show 1 = mN 217 by decide +kernel) (by simp) ?_
  rintro r w' (⟨e21, rfl, rfl⟩ | ⟨e21, rfl, G', F'⟩)
  case inr =>
    refine V_if mi_231_252 (fun h => absurd (show (1 : Int32) = 0 from h) (by decide)) (fun _ => ?_)
    have F' := FRm_tr F F' (fun _ h => h)
    exact rn_con G' F' (r847 hAD) (by omega) rfl rfl rfl (by decide) (fun q hq => by cases hq) mi_231_255 mi_231_256 mi_231_259 (by decide +kernel) (by decide +kernel) (by decide +kernel) (by decide +kernel) (List.Mem.head _)
  refine V_if mi_231_252 (fun _ => ?_) (fun h => absurd (show (0 : Int32) = 0 from rfl) h)
  refine V_aload (v := ad 90) mi_231_262 (List.Mem.head _) ?_
  refine V_ldcS mi_231_263 ?_
  refine V_callM (As := [.ref (D.2 1000 22)]) (st := []) mi_231_265 (by omega) (by decide +kernel) (by decide +kernel) G (takes_ct hAD b22 G S) (by omega) (show 1 = mN 217 by decide +kernel) (by simp) ?_
  rintro r w' (⟨e22, rfl, rfl⟩ | ⟨e22, rfl, G', F'⟩)
  case inr =>
    refine V_if mi_231_268 (fun h => absurd (show (1 : Int32) = 0 from h) (by decide)) (fun _ => ?_)
    have F' := FRm_tr F F' (fun _ h => h)
    have z4' : z4 ≤ 11 := by have := hS e22; omega
    have f96_4 : rd w' 96 4 = some (.int (Int32.ofInt z4)) := ((F'.1 96 (by simp) 4).trans (S 96 4).symm).trans h4
    rcases (show z4 = 0 ∨ z4 = 1 ∨ z4 = 2 ∨ z4 = 3 ∨ z4 = 4 ∨ z4 = 5 ∨ z4 = 6 ∨ z4 = 7 ∨ z4 = 8 ∨ z4 = 9 ∨ z4 = 10 ∨ z4 = 11 by omega) with h | h | h | h | h | h | h | h | h | h | h | h
    · exact rn_con G' F' (r859 hAD) (by omega) rfl rfl rfl (by decide) (pre1 f96_4 (by omega) (by omega)) mi_231_271 mi_231_272 mi_231_275 (by decide +kernel) (by decide +kernel) (by decide +kernel) (by decide +kernel) (List.Mem.head _)
    · exact rn_con G' F' (r860 hAD) (by omega) rfl rfl rfl (by decide) (pre1 f96_4 (by omega) (by omega)) mi_231_271 mi_231_272 mi_231_275 (by decide +kernel) (by decide +kernel) (by decide +kernel) (by decide +kernel) (List.Mem.head _)
    · exact rn_con G' F' (r861 hAD) (by omega) rfl rfl rfl (by decide) (pre1 f96_4 (by omega) (by omega)) mi_231_271 mi_231_272 mi_231_275 (by decide +kernel) (by decide +kernel) (by decide +kernel) (by decide +kernel) (List.Mem.head _)
    · exact rn_con G' F' (r862 hAD) (by omega) rfl rfl rfl (by decide) (pre1 f96_4 (by omega) (by omega)) mi_231_271 mi_231_272 mi_231_275 (by decide +kernel) (by decide +kernel) (by decide +kernel) (by decide +kernel) (List.Mem.head _)
    · exact rn_con G' F' (r863 hAD) (by omega) rfl rfl rfl (by decide) (pre1 f96_4 (by omega) (by omega)) mi_231_271 mi_231_272 mi_231_275 (by decide +kernel) (by decide +kernel) (by decide +kernel) (by decide +kernel) (List.Mem.head _)
    · exact rn_con G' F' (r864 hAD) (by omega) rfl rfl rfl (by decide) (pre1 f96_4 (by omega) (by omega)) mi_231_271 mi_231_272 mi_231_275 (by decide +kernel) (by decide +kernel) (by decide +kernel) (by decide +kernel) (List.Mem.head _)
    · exact rn_con G' F' (r865 hAD) (by omega) rfl rfl rfl (by decide) (pre1 f96_4 (by omega) (by omega)) mi_231_271 mi_231_272 mi_231_275 (by decide +kernel) (by decide +kernel) (by decide +kernel) (by decide +kernel) (List.Mem.head _)
    · exact rn_con G' F' (r866 hAD) (by omega) rfl rfl rfl (by decide) (pre1 f96_4 (by omega) (by omega)) mi_231_271 mi_231_272 mi_231_275 (by decide +kernel) (by decide +kernel) (by decide +kernel) (by decide +kernel) (List.Mem.head _)
    · exact rn_con G' F' (r867 hAD) (by omega) rfl rfl rfl (by decide) (pre1 f96_4 (by omega) (by omega)) mi_231_271 mi_231_272 mi_231_275 (by decide +kernel) (by decide +kernel) (by decide +kernel) (by decide +kernel) (List.Mem.head _)
    · exact rn_con G' F' (r868 hAD) (by omega) rfl rfl rfl (by decide) (pre1 f96_4 (by omega) (by omega)) mi_231_271 mi_231_272 mi_231_275 (by decide +kernel) (by decide +kernel) (by decide +kernel) (by decide +kernel) (List.Mem.head _)
    · exact rn_con G' F' (r869 hAD) (by omega) rfl rfl rfl (by decide) (pre1 f96_4 (by omega) (by omega)) mi_231_271 mi_231_272 mi_231_275 (by decide +kernel) (by decide +kernel) (by decide +kernel) (by decide +kernel) (List.Mem.head _)
    · exact rn_con G' F' (r870 hAD) (by omega) rfl rfl rfl (by decide) (pre1 f96_4 (by omega) (by omega)) mi_231_271 mi_231_272 mi_231_275 (by decide +kernel) (by decide +kernel) (by decide +kernel) (by decide +kernel) (List.Mem.head _)
  refine V_if mi_231_268 (fun _ => ?_) (fun h => absurd (show (0 : Int32) = 0 from rfl) h)
  exact rn_tail hAD G F mR278
theorem rn_bad {w0 w1 : va_W} {lv : List (Nat × Value)} (G : GOK ad tys GG w1) (F : FRm [90] w0 w1) (K : FKn w1) (l0 : (0, Value.ref (ad 90)) ∈ lv) : V l D tys A 231 8 0 0 (RN ad tys w0) 0 0 123 lv [] w1 := by
  obtain ⟨f, hf, fn, f0, f3⟩ := K
  refine V_aload (v := ad 90) mi_231_123 l0 ?_
  refine V_callM (As := []) (st := []) mi_231_124 (by omega) (by decide +kernel) (by decide +kernel) G (good_ct G hf f0 f3) (by omega) (show 0 = mN 214 by decide +kernel) (by simp) ?_
  rintro r w' ⟨rfl, rfl⟩
  rw [if_neg fn]
  refine V_if mi_231_127 (fun h => absurd (show (0 : Int32) = 0 from rfl) h) (fun _ => ?_)
  exact V_retV mi_231_130 ⟨rfl, G, FRm_tr (FRm_rf (mods := [90, 96, 97])) F (fun x hx => by rw [List.mem_singleton.mp hx]; simp)⟩
theorem rn_78b {w0 w1 : va_W} {lv : List (Nat × Value)} (G : GOK ad tys GG w1) (F : FRm [90] w0 w1) (K : FKn w1) (l0 : (0, Value.ref (ad 90)) ∈ lv) : V l D tys A 231 8 0 0 (RN ad tys w0) 0 0 78 lv [] w1 := by
  obtain ⟨f, hf, fn, f0, f3⟩ := K
  obtain ⟨c0, e0, b17⟩ := is_all (l := l) (D := D) (A := A) (i := 17) (by omega) G hf f0 f3
  obtain ⟨c5, e5, b22⟩ := is_all (l := l) (D := D) (A := A) (i := 22) (by omega) G hf f0 f3
  have e0 := e0 fn
  have e5 := e5 fn
  subst e0
  subst e5
  refine V_aload (v := ad 90) mi_231_78 l0 ?_
  refine V_ldcS mi_231_79 ?_
  refine V_callM (As := [.ref (D.2 1000 17)]) (st := []) mi_231_81 (by omega) (by decide +kernel) (by decide +kernel) G (b17 w1 G (fun _ _ => rfl)) (by omega) (show 1 = mN 216 by decide +kernel) (by simp) ?_
  rintro r w' ⟨rfl, rfl⟩
  refine V_if mi_231_84 (fun _ => ?_) (fun h => absurd (show (0 : Int32) = 0 from rfl) h)
  refine V_aload (v := ad 90) mi_231_98 l0 ?_
  refine V_ldcS mi_231_99 ?_
  refine V_callM (As := [.ref (D.2 1000 22)]) (st := []) mi_231_101 (by omega) (by decide +kernel) (by decide +kernel) G (b22 _ G (fun _ _ => rfl)) (by omega) (show 1 = mN 216 by decide +kernel) (by simp) ?_
  rintro r w' ⟨rfl, rfl⟩
  refine V_if mi_231_104 (fun _ => ?_) (fun h => absurd (show (0 : Int32) = 0 from rfl) h)
  exact rn_bad G F ⟨f, hf, fn, f0, f3⟩ l0
theorem gf96 : ∃ s, GG[96]? = some ((1, 0, 294), s) ∧ segAt s 0 = some (0, 0, 9) ∧ segAt s 3 = some (0, 0, 6) ∧ segAt s 4 = some (0, 0, 12) ∧ segAt s 5 = some (0, -2147483648, 2147483647) := ⟨_, rfl, by decide +kernel, by decide +kernel, by decide +kernel, by decide +kernel⟩
theorem bIt {b : Bool} (h : ¬ bI b = 0) : b = true := by
  cases b with
  | true => rfl
  | false => exact absurd ((if01 false).mpr rfl) h
theorem rn_ct (hAD : ∀ i : Nat, ad (1000 + i) = D.2 1000 i) (hG : GOK ad tys GG ws) : CT l D tys A 231 8 0 0 [.ref (ad 90)] ws (RN ad tys ws) := by
  refine CT_of_V (by omega) (show (1 : Nat) ≤ mML 231 by decide +kernel) ?_
  obtain ⟨f, hf, f0, f3⟩ := fld hG f12 (by omega)
  obtain ⟨c17, -, b17⟩ := is_all (l := l) (D := D) (A := A) (i := 17) (by omega) hG hf f0 f3
  obtain ⟨c18, -, b18⟩ := is_all (l := l) (D := D) (A := A) (i := 18) (by omega) hG hf f0 f3
  obtain ⟨c19, -, b19⟩ := is_all (l := l) (D := D) (A := A) (i := 19) (by omega) hG hf f0 f3
  obtain ⟨c20, -, b20⟩ := is_all (l := l) (D := D) (A := A) (i := 20) (by omega) hG hf f0 f3
  obtain ⟨c21, -, b21⟩ := is_all (l := l) (D := D) (A := A) (i := 21) (by omega) hG hf f0 f3
  obtain ⟨c22, -, b22⟩ := is_all (l := l) (D := D) (A := A) (i := 22) (by omega) hG hf f0 f3
  obtain ⟨c23, -, b23⟩ := is_all (l := l) (D := D) (A := A) (i := 23) (by omega) hG hf f0 f3
  obtain ⟨s96, e96, sg0, sg3, sg4, -⟩ := gf96
  obtain ⟨z0, h0, z00, z09⟩ := cel (j := 0) hG e96 (by omega) sg0
  obtain ⟨z3, h3, z30, z36⟩ := cel (j := 3) hG e96 (by omega) sg3
  obtain ⟨z4, h4, z40, z4c⟩ := cel (j := 4) hG e96 (by omega) sg4
  have S : SAME ws ws := fun _ _ => rfl
  have k131 : f = 0 → (c17 = true → z3 ≠ 6) → (c22 = true → z4 ≠ 12) → V l D tys A 231 8 0 0 (RN ad tys ws) 0 0 131 [(0, .ref (ad 90))] [] ws := fun _ hN hS => rn_131 hAD b17 b18 b19 b20 b21 b22 hG S FRm_rf h0 h3 h4 z00 z09 z30 z36 z40 z4c hN hS
  have k123 : (c17 = true → z3 ≠ 6) → (c22 = true → z4 ≠ 12) → V l D tys A 231 8 0 0 (RN ad tys ws) 0 0 123 [(0, .ref (ad 90))] [] ws := by
    intro hN hS
    refine V_aload (v := ad 90) mi_231_123 (List.Mem.head _) ?_
    refine V_callM (As := []) (st := []) mi_231_124 (by omega) (by decide +kernel) (by decide +kernel) hG (good_ct hG hf f0 f3) (by omega) (show 0 = mN 214 by decide +kernel) (by simp) ?_
    rintro r w' ⟨rfl, rfl⟩
    by_cases hf0 : f = 0
    · rw [if_pos hf0]
      exact V_if mi_231_127 (fun _ => k131 hf0 hN hS) (fun h => absurd (show (1 : Int32) ≠ 0 by decide) h)
    · rw [if_neg hf0]
      refine V_if mi_231_127 (fun h => absurd (show (0 : Int32) = 0 from rfl) h) (fun _ => ?_)
      exact V_retV mi_231_130 ⟨rfl, hG, FRm_rf⟩
  have k118 : V l D tys A 231 8 0 0 (RN ad tys ws) 0 0 118 [(0, .ref (ad 90))] [] ws := by
    refine V_aload (v := ad 90) mi_231_118 (List.Mem.head _) ?_
    refine V_ipush mi_231_119 ?_
    refine V_callM (As := [.int (Int32.ofInt 3)]) (st := []) mi_231_120 (by omega) (by decide +kernel) (by decide +kernel) hG (errs_ct hG (by omega) (by omega)) (by omega) (show 1 = mN 215 by decide +kernel) (by simp) ?_
    rintro r w' ⟨rfl, G', F', K'⟩
    exact rn_bad G' F' K' (List.Mem.head _)
  have k98 : (c17 = true → z3 ≠ 6) → V l D tys A 231 8 0 0 (RN ad tys ws) 0 0 98 [(0, .ref (ad 90))] [] ws := by
    intro hN
    refine V_aload (v := ad 90) mi_231_98 (List.Mem.head _) ?_
    refine V_ldcS mi_231_99 ?_
    refine V_callM (As := [.ref (D.2 1000 22)]) (st := []) mi_231_101 (by omega) (by decide +kernel) (by decide +kernel) hG (b22 ws hG S) (by omega) (show 1 = mN 216 by decide +kernel) (by simp) ?_
    rintro r w' ⟨rfl, rfl⟩
    refine V_if mi_231_104 (fun h => k123 hN (fun q => by rw [(if01 c22).mp h] at q; cases q)) (fun _ => ?_)
    refine V_aload (v := ad 90) mi_231_107 (List.Mem.head _) ?_
    refine V_getI mi_231_108 hG (rref gr14 (by omega) hG) ?_
    refine V_ipush mi_231_111 ?_
    refine V_aldX (j := 4) mi_231_112 rfl hG e96 (by omega) (by omega) h4 ?_
    refine V_ipush mi_231_113 ?_
    have hc := cdP_iff (x := 1) (a := z4) (b := 12) (by omega) (by omega) (by omega) (by omega)
    refine V_icmp mi_231_115 (fun h => k123 hN (fun _ => ?_)) (fun _ => k118)
    have : z4 - 12 ≠ 0 := hc.mp h
    omega
  have k78 : V l D tys A 231 8 0 0 (RN ad tys ws) 0 0 78 [(0, .ref (ad 90))] [] ws := by
    refine V_aload (v := ad 90) mi_231_78 (List.Mem.head _) ?_
    refine V_ldcS mi_231_79 ?_
    refine V_callM (As := [.ref (D.2 1000 17)]) (st := []) mi_231_81 (by omega) (by decide +kernel) (by decide +kernel) hG (b17 ws hG S) (by omega) (show 1 = mN 216 by decide +kernel) (by simp) ?_
    rintro r w' ⟨rfl, rfl⟩
    refine V_if mi_231_84 (fun h => k98 (fun q => by rw [(if01 c17).mp h] at q; cases q)) (fun _ => ?_)
    refine V_aload (v := ad 90) mi_231_87 (List.Mem.head _) ?_
    refine V_getI mi_231_88 hG (rref gr14 (by omega) hG) ?_
    refine V_ipush mi_231_91 ?_
    refine V_aldX (j := 3) mi_231_92 rfl hG e96 (by omega) (by omega) h3 ?_
    refine V_ipush mi_231_93 ?_
    have hc := cdP_iff (x := 0) (a := z3) (b := 6) (by omega) (by omega) (by omega) (by omega)
    refine V_icmp mi_231_95 (fun _ => k118) (fun h => k98 (fun _ => ?_))
    have : ¬ (z3 - 6 = 0) := fun q => h (hc.mpr q)
    omega
  have k68 : ∀ b : Bool, V l D tys A 231 8 0 0 (RN ad tys ws) 0 0 68 [(0, .ref (ad 90))] [.int (bI b)] ws := by
    intro b
    refine V_istore mi_231_68 ?_
    have l0 : (0, Value.ref (ad 90)) ∈ stL 1 (.int (bI b)) [(0, Value.ref (ad 90))] := by simp [stL, Value.category]
    refine V_iload (v := bI b) mi_231_69 (by simp [stL]) ?_
    refine V_if mi_231_70 (fun _ => ?_) (fun _ => ?_)
    · exact V_sub (lv' := [(0, .ref (ad 90))]) (fun q hq => by rw [List.mem_singleton.mp hq]; exact l0) k78
    · refine V_aload (v := ad 90) mi_231_73 l0 ?_
      refine V_ipush mi_231_74 ?_
      refine V_callM (As := [.int (Int32.ofInt 1)]) (st := []) mi_231_75 (by omega) (by decide +kernel) (by decide +kernel) hG (errs_ct hG (by omega) (by omega)) (by omega) (show 1 = mN 215 by decide +kernel) (by simp) ?_
      rintro r w' ⟨rfl, G', F', K'⟩
      exact rn_78b G' F' K' l0
  have k63 : V l D tys A 231 8 0 0 (RN ad tys ws) 0 0 63 [(0, .ref (ad 90))] [] ws := V_ipush mi_231_63 (V_goto mi_231_64 (k68 true))
  have k67 : V l D tys A 231 8 0 0 (RN ad tys ws) 0 0 67 [(0, .ref (ad 90))] [] ws := V_ipush mi_231_67 (k68 false)
  refine V_aload (v := ad 90) mi_231_0 (List.Mem.head _) ?_
  refine V_ldcS mi_231_1 ?_
  refine V_callM (As := [.ref (D.2 1000 17)]) (st := []) mi_231_3 (by omega) (by decide +kernel) (by decide +kernel) hG (b17 _ hG S) (by omega) (show 1 = mN 216 by decide +kernel) (by simp) ?_
  rintro r w' ⟨rfl, rfl⟩
  refine V_if mi_231_6 (fun _ => k63) (fun _ => ?_)
  refine V_aload (v := ad 90) mi_231_9 (List.Mem.head _) ?_
  refine V_ldcS mi_231_10 ?_
  refine V_callM (As := [.ref (D.2 1000 18)]) (st := []) mi_231_12 (by omega) (by decide +kernel) (by decide +kernel) hG (b18 _ hG S) (by omega) (show 1 = mN 216 by decide +kernel) (by simp) ?_
  rintro r w' ⟨rfl, rfl⟩
  refine V_if mi_231_15 (fun _ => k63) (fun _ => ?_)
  refine V_aload (v := ad 90) mi_231_18 (List.Mem.head _) ?_
  refine V_ldcS mi_231_19 ?_
  refine V_callM (As := [.ref (D.2 1000 19)]) (st := []) mi_231_21 (by omega) (by decide +kernel) (by decide +kernel) hG (b19 _ hG S) (by omega) (show 1 = mN 216 by decide +kernel) (by simp) ?_
  rintro r w' ⟨rfl, rfl⟩
  refine V_if mi_231_24 (fun _ => k63) (fun _ => ?_)
  refine V_aload (v := ad 90) mi_231_27 (List.Mem.head _) ?_
  refine V_ldcS mi_231_28 ?_
  refine V_callM (As := [.ref (D.2 1000 20)]) (st := []) mi_231_30 (by omega) (by decide +kernel) (by decide +kernel) hG (b20 _ hG S) (by omega) (show 1 = mN 216 by decide +kernel) (by simp) ?_
  rintro r w' ⟨rfl, rfl⟩
  refine V_if mi_231_33 (fun _ => k63) (fun _ => ?_)
  refine V_aload (v := ad 90) mi_231_36 (List.Mem.head _) ?_
  refine V_ldcS mi_231_37 ?_
  refine V_callM (As := [.ref (D.2 1000 21)]) (st := []) mi_231_39 (by omega) (by decide +kernel) (by decide +kernel) hG (b21 _ hG S) (by omega) (show 1 = mN 216 by decide +kernel) (by simp) ?_
  rintro r w' ⟨rfl, rfl⟩
  refine V_if mi_231_42 (fun _ => k63) (fun _ => ?_)
  refine V_aload (v := ad 90) mi_231_45 (List.Mem.head _) ?_
  refine V_ldcS mi_231_46 ?_
  refine V_callM (As := [.ref (D.2 1000 22)]) (st := []) mi_231_48 (by omega) (by decide +kernel) (by decide +kernel) hG (b22 _ hG S) (by omega) (show 1 = mN 216 by decide +kernel) (by simp) ?_
  rintro r w' ⟨rfl, rfl⟩
  refine V_if mi_231_51 (fun _ => k63) (fun _ => ?_)
  refine V_aload (v := ad 90) mi_231_54 (List.Mem.head _) ?_
  refine V_ldcS mi_231_55 ?_
  refine V_callM (As := [.ref (D.2 1000 23)]) (st := []) mi_231_57 (by omega) (by decide +kernel) (by decide +kernel) hG (b23 _ hG S) (by omega) (show 1 = mN 216 by decide +kernel) (by simp) ?_
  rintro r w' ⟨rfl, rfl⟩
  exact V_if mi_231_60 (fun _ => k67) (fun _ => k63)
def cHi : CR := (233, [], [], some (0, -2147483648, 2147483647), [], [91, 96])
def cHx : CR := (233, [], [], none, [((90, 8), (0, 5, 4))], [90, 96, 97])
def kT : List (Nat × CUT) := [(111, [(0, 6)], [(0, rA 90), (1, iA (0, [(1, 0)]))], [], [], (1000, [((-100), 0)])),
  (121, [(0, 5), (-1, 3), (0, 24)], [(0, rA 90), (1, iA (0, [(1, 0)])), (2, iA (0, [(1, 1)])), (3, iA (0, [(1, 2)]))], [], [], (990, [((-100), 0), ((-1), 2)])),
  (187, [], [(0, rA 90), (1, iA (0, []))], [], [], (294, [])),
  (187, [], [(0, rA 90), (1, iA (1, []))], [], [], (293, [])),
  (187, [], [(0, rA 90), (1, iA (2, []))], [], [], (292, [])),
  (187, [], [(0, rA 90), (1, iA (3, []))], [], [], (291, [])),
  (187, [], [(0, rA 90), (1, iA (4, []))], [], [], (290, [])),
  (187, [], [(0, rA 90), (1, iA (5, []))], [], [], (289, [])),
  (187, [], [(0, rA 90), (1, iA (6, []))], [], [], (288, [])),
  (187, [(7, 12)], [(0, rA 90), (1, iA (0, [(1, 0)]))], [], [], (294, [((-1), 0)])),
  (187, [], [(0, rA 90), (1, iA (13, []))], [], [], (281, [])),
  (187, [(14, 19)], [(0, rA 90), (1, iA (0, [(1, 0)]))], [], [], (294, [((-1), 0)])),
  (187, [], [(0, rA 90), (1, iA (20, []))], [], [], (274, [])),
  (187, [(21, 26)], [(0, rA 90), (1, iA (0, [(1, 0)]))], [], [], (294, [((-1), 0)])),
  (187, [], [(0, rA 90), (1, iA (27, []))], [], [], (267, [])),
  (187, [(28, 33)], [(0, rA 90), (1, iA (0, [(1, 0)]))], [], [], (294, [((-1), 0)])),
  (187, [], [(0, rA 90), (1, iA (34, []))], [], [], (260, [])),
  (187, [(35, 40)], [(0, rA 90), (1, iA (0, [(1, 0)]))], [], [], (294, [((-1), 0)])),
  (187, [], [(0, rA 90), (1, iA (41, []))], [], [], (253, [])),
  (187, [(42, 47)], [(0, rA 90), (1, iA (0, [(1, 0)]))], [], [], (294, [((-1), 0)])),
  (187, [(48, 53)], [(0, rA 90), (1, iA (0, [(1, 0)]))], [], [], (294, [((-1), 0)])),
  (187, [(54, 59)], [(0, rA 90), (1, iA (0, [(1, 0)]))], [], [], (294, [((-1), 0)])),
  (187, [(60, 65)], [(0, rA 90), (1, iA (0, [(1, 0)]))], [], [], (294, [((-1), 0)])),
  (187, [(66, 101)], [(0, rA 90), (1, iA (0, [(1, 0)]))], [], [], (294, [((-1), 0)])),
  (187, [(102, 245)], [(0, rA 90), (1, iA (0, [(1, 0)]))], [], [], (294, [((-1), 0)])),
  (187, [(246, 248)], [(0, rA 90), (1, iA (0, [(1, 0)]))], [], [], (294, [((-1), 0)])),
  (187, [], [(0, rA 90), (1, iA (249, []))], [], [], (45, [])),
  (187, [(250, 252)], [(0, rA 90), (1, iA (0, [(1, 0)]))], [], [], (294, [((-1), 0)])),
  (187, [], [(0, rA 90), (1, iA (253, []))], [], [], (41, [])),
  (187, [(254, 256)], [(0, rA 90), (1, iA (0, [(1, 0)]))], [], [], (294, [((-1), 0)])),
  (187, [], [(0, rA 90), (1, iA (257, []))], [], [], (37, [])),
  (187, [(258, 260)], [(0, rA 90), (1, iA (0, [(1, 0)]))], [], [], (294, [((-1), 0)])),
  (187, [], [(0, rA 90), (1, iA (261, []))], [], [], (33, [])),
  (187, [(262, 264)], [(0, rA 90), (1, iA (0, [(1, 0)]))], [], [], (294, [((-1), 0)])),
  (187, [], [(0, rA 90), (1, iA (265, []))], [], [], (29, [])),
  (187, [(266, 268)], [(0, rA 90), (1, iA (0, [(1, 0)]))], [], [], (294, [((-1), 0)])),
  (187, [], [(0, rA 90), (1, iA (269, []))], [], [], (25, [])),
  (187, [(270, 272)], [(0, rA 90), (1, iA (0, [(1, 0)]))], [], [], (294, [((-1), 0)])),
  (187, [], [(0, rA 90), (1, iA (273, []))], [], [], (21, [])),
  (187, [(274, 276)], [(0, rA 90), (1, iA (0, [(1, 0)]))], [], [], (294, [((-1), 0)])),
  (187, [], [(0, rA 90), (1, iA (277, []))], [], [], (17, [])),
  (187, [(278, 280)], [(0, rA 90), (1, iA (0, [(1, 0)]))], [], [], (294, [((-1), 0)])),
  (187, [], [(0, rA 90), (1, iA (281, []))], [], [], (13, [])),
  (187, [(282, 284)], [(0, rA 90), (1, iA (0, [(1, 0)]))], [], [], (294, [((-1), 0)])),
  (187, [], [(0, rA 90), (1, iA (285, []))], [], [], (9, [])),
  (187, [(286, 288)], [(0, rA 90), (1, iA (0, [(1, 0)]))], [], [], (294, [((-1), 0)])),
  (187, [], [(0, rA 90), (1, iA (289, []))], [], [], (5, [])),
  (187, [(290, 292)], [(0, rA 90), (1, iA (0, [(1, 0)]))], [], [], (294, [((-1), 0)])),
  (187, [], [(0, rA 90), (1, iA (293, []))], [], [], (1, [])),
  (187, [], [(0, rA 90), (1, iA (294, []))], [], [], (0, []))]
def kH : List (Nat × CUT) := [(30, [(0, 294)], [(0, rA 90), (1, iA (0, [(1, 0)]))], [], [], (600, [((-1), 0)])), (52, [(0, 144)], [(0, rA 90), (1, iA (0, [(1, 0)]))], [], [], (200, [((-1), 0)]))]
def kE : List (Nat × CUT) := [(78, [], [(0, rA 90)], [], [], (0, []))]
theorem mT1 : vr1 GG [] [] 300 10 cHi (kT ++ []) none (109, [], [(0, rA 90)], [], []) = true := by decide +kernel
theorem mT2 : kT.all (fun p => wfT p.2.1.length p.2.2.2.2.2.2 && vr1 GG [] [] 300 10 cHi (kT ++ []) (some p.2.2.2.2.2) (p.1, p.2.1, p.2.2.1, p.2.2.2.1, p.2.2.2.2.1)) = true := by decide +kernel
theorem mH1 : vr1 GG [(2, g831)] [] 300 10 cHx (kH ++ kE) none (28, [], [(0, rA 90)], [], []) = true := by decide +kernel
theorem mH2 : kH.all (fun p => wfT p.2.1.length p.2.2.2.2.2.2 && vr1 GG [(2, g831)] [] 300 10 cHx (kH ++ kE) (some p.2.2.2.2.2) (p.1, p.2.1, p.2.2.1, p.2.2.2.1, p.2.2.2.2.1)) = true := by decide +kernel
/-- what stays: the cells but for ms, and how much the tape holds -/
def KEEP (ms : List Nat) (w0 w : va_W) : Prop := (∀ c, c ∉ ms → ∀ j, rd w c j = rd w0 c j) ∧ rd w 90 5 = rd w0 90 5
theorem KEEP_F {ms : List Nat} {w0 w : va_W} (h : FRm ms w0 w) : KEEP ms w0 w := ⟨h.1, h.2.2.2⟩
theorem KEEP_rf {ms : List Nat} {w : va_W} : KEEP ms w w := ⟨fun _ _ _ => rfl, rfl⟩
theorem KEEP_tr {ms m2 : List Nat} {w0 w1 w2 : va_W} (h : KEEP ms w0 w1) (h2 : KEEP m2 w1 w2) (hs : ∀ x ∈ m2, x ∈ ms) : KEEP ms w0 w2 := ⟨fun c hc j => (h2.1 c (fun q => hc (hs c q)) j).trans (h.1 c hc j), h2.2.trans h.2⟩
theorem KEEP_upd {ms : List Nat} {w0 w1 w2 : va_W} {c j : Nat} {v : Value} (h : KEEP ms w0 w1) (hu : Upd1 w1 w2 c j v) (hm : c ∈ ms) (hn : ¬ (c = 90 ∧ j = 5)) : KEEP ms w0 w2 := ⟨fun c' hc' j' => (upd_ne hu (fun q => hc' (by rw [q.1]; exact hm))).trans (h.1 c' hc' j'), (upd_ne hu (fun q => hn ⟨q.1.symm, q.2.symm⟩)).trans h.2⟩
def RL (ad : Nat → Nat) (tys : List (ClassId × FieldType)) (w0 : va_W) (r : Option Value) (w : va_W) : Prop := r = none ∧ GOK ad tys GG w ∧ (FKn w ∨ GREW w0 w) ∧ KEEP [90, 96, 97] w0 w
theorem rl_51 {w0 w : va_W} (G : GOK ad tys GG w) (K : KEEP [90, 96, 97] w0 w) (P : FKn w ∨ GREW w0 w) : V l D tys A 232 9 0 0 (RL ad tys w0) 0 0 51 [(0, .ref (ad 90))] [] w := by
  obtain ⟨s96, e96, sg0, sg3, sg4, sg5⟩ := gf96
  obtain ⟨z5, h5, z50, z51⟩ := cel (j := 5) G e96 (by omega) sg5
  refine V_aload (v := ad 90) mi_232_51 (List.Mem.head _) ?_
  refine V_getI mi_232_52 G (rref gr14 (by omega) G) ?_
  refine V_ipush mi_232_55 ?_
  refine V_dup2 mi_232_56 rfl rfl ?_
  refine V_aldX (j := 5) mi_232_57 rfl G e96 (by omega) (by omega) h5 ?_
  refine V_ipush mi_232_58 ?_
  refine V_ibin mi_232_59 (by omega) ?_
  have b1 := Int32.le_toInt (ibF 0 (Int32.ofInt z5) (Int32.ofInt 1))
  have b2 := Int32.toInt_lt (ibF 0 (Int32.ofInt z5) (Int32.ofInt 1))
  refine V_astX (j := 5) mi_232_60 rfl G e96 (by omega) (by omega) sg5 (by omega) (by omega) (fun w3 G3 U3 => ?_)
  have e : ∀ j, rd w3 90 j = rd w 90 j := fun j => upd_ne U3 (by omega)
  refine V_retV mi_232_61 ⟨rfl, G3, ?_, KEEP_upd K U3 (by simp) (by omega)⟩
  rcases P with ⟨f, hf, K⟩ | hz | ⟨a, a', h1, h2, K⟩
  · exact Or.inl ⟨f, (e 12).trans hf, K⟩
  · exact Or.inr (Or.inl ((e 10).trans hz))
  · exact Or.inr (Or.inr ⟨a, a', h1, (e 8).trans h2, K⟩)
theorem rl_40 (hAD : ∀ i : Nat, ad (1000 + i) = D.2 1000 i) {w0 w : va_W} {mods : List Nat} {a : Int} (G : GOK ad tys GG w) (F : FRm mods w0 w) (K : KEEP [90, 96, 97] w0 w) (ha : rd w0 90 8 = some (.int (Int32.ofInt a))) (a0 : 0 ≤ a) (a1 : a ≤ 1400) : V l D tys A 232 9 0 0 (RL ad tys w0) 0 0 40 [(0, .ref (ad 90))] [] w := by
  obtain ⟨f, hf, f0, f3⟩ := fld G f12 (by omega)
  refine V_aload (v := ad 90) mi_232_40 (List.Mem.head _) ?_
  refine V_callM (As := []) (st := []) mi_232_41 (by omega) (by decide +kernel) (by decide +kernel) G (good_ct G hf f0 f3) (by omega) (show 0 = mN 214 by decide +kernel) (by simp) ?_
  rintro r w' ⟨rfl, rfl⟩
  by_cases hf0 : f = 0
  · rw [if_pos hf0]
    refine V_if mi_232_44 (fun h => absurd (show (1 : Int32) = 0 from h) (by decide)) (fun _ => ?_)
    refine V_aload (v := ad 90) mi_232_47 (List.Mem.head _) ?_
    refine V_callM (As := []) (st := []) mi_232_48 (by omega) (by decide +kernel) (by decide +kernel) G (adv_ct hAD G) (by omega) (show 0 = mN 213 by decide +kernel) (by simp) ?_
    rintro r w2 ⟨rfl, G2, F2, K2⟩
    refine rl_51 G2 (KEEP_tr K (KEEP_F F2) (by simp)) (Or.inr ?_)
    rcases K2 with hz | ⟨b, b', h1, h2, b0, hlt, b14⟩
    · exact Or.inl hz
    · have := mon_le F ha h1 a0 a1 b0 (by omega)
      exact Or.inr ⟨a, b', ha, h2, a0, by omega, b14⟩
  · rw [if_neg hf0]
    refine V_if mi_232_44 (fun _ => ?_) (fun h => absurd (show (0 : Int32) = 0 from rfl) h)
    exact rl_51 G K (Or.inl ⟨f, hf, hf0, f0, f3⟩)
theorem rl_20 (hAD : ∀ i : Nat, ad (1000 + i) = D.2 1000 i) {w0 w : va_W} {mods : List Nat} {a : Int} (G : GOK ad tys GG w) (F : FRm mods w0 w) (K : KEEP [90, 96, 97] w0 w) (h90 : 90 ∈ mods) (ha : rd w0 90 8 = some (.int (Int32.ofInt a))) (a0 : 0 ≤ a) (a1 : a ≤ 1400) : V l D tys A 232 9 0 0 (RL ad tys w0) 0 0 20 [(0, .ref (ad 90))] [] w := by
  obtain ⟨f, hf, f0, f3⟩ := fld G f12 (by omega)
  obtain ⟨t, ht, t0, t4⟩ := fld G f10 (by omega)
  refine V_aload (v := ad 90) mi_232_20 (List.Mem.head _) ?_
  refine V_callM (As := []) (st := []) mi_232_21 (by omega) (by decide +kernel) (by decide +kernel) G (good_ct G hf f0 f3) (by omega) (show 0 = mN 214 by decide +kernel) (by simp) ?_
  rintro r w' ⟨rfl, rfl⟩
  refine V_if mi_232_24 (fun _ => rl_40 hAD G F K ha a0 a1) (fun _ => ?_)
  refine V_aload (v := ad 90) mi_232_27 (List.Mem.head _) ?_
  refine V_getI mi_232_28 G ht ?_
  refine V_ipush mi_232_31 ?_
  refine V_icmp mi_232_32 (fun _ => rl_40 hAD G F K ha a0 a1) (fun _ => ?_)
  refine V_aload (v := ad 90) mi_232_35 (List.Mem.head _) ?_
  refine V_ipush mi_232_36 ?_
  refine V_callM (As := [.int (Int32.ofInt 1)]) (st := []) mi_232_37 (by omega) (by decide +kernel) (by decide +kernel) G (errs_ct G (by omega) (by omega)) (by omega) (show 1 = mN 215 by decide +kernel) (by simp) ?_
  rintro r w2 ⟨rfl, G2, F2, -⟩
  exact rl_40 hAD G2 (FRm_tr F F2 (fun x hx => by rw [List.mem_singleton.mp hx]; exact h90)) (KEEP_tr K (KEEP_F F2) (by simp)) ha a0 a1
theorem rl_ct (hAD : ∀ i : Nat, ad (1000 + i) = D.2 1000 i) (hG : GOK ad tys GG ws) : CT l D tys A 232 9 0 0 [.ref (ad 90)] ws (RL ad tys ws) := by
  refine CT_of_V (by omega) (show (1 : Nat) ≤ mML 232 by decide +kernel) ?_
  obtain ⟨a, ha, a0, a1⟩ := fld hG f8 (by omega)
  obtain ⟨s96, e96, sg0, sg3, sg4, sg5⟩ := gf96
  obtain ⟨z5, h5, z50, z51⟩ := cel (j := 5) hG e96 (by omega) sg5
  refine V_aload (v := ad 90) mi_232_0 (List.Mem.head _) ?_
  refine V_getI mi_232_1 hG (rref gr14 (by omega) hG) ?_
  refine V_ipush mi_232_4 ?_
  refine V_aldX (j := 5) mi_232_5 rfl hG e96 (by omega) (by omega) h5 ?_
  refine V_if mi_232_6 (fun _ => ?_) (fun _ => ?_)
  · refine V_aload (v := ad 90) mi_232_16 (List.Mem.head _) ?_
    refine V_callM (As := []) (st := []) mi_232_17 (by omega) (by decide +kernel) (by decide +kernel) hG (rn_ct hAD hG) (by omega) (show 0 = mN 231 by decide +kernel) (by simp) ?_
    rintro r w' ⟨rfl, G', F'⟩
    exact rl_20 hAD G' F' (KEEP_F F') (by simp) ha a0 a1
  · refine V_aload (v := ad 90) mi_232_9 (List.Mem.head _) ?_
    obtain ⟨d', q1, q2⟩ := r843 (l := l) (tys := tys) (A := A) hAD [.ref (ad 90)] ws ⟨rfl, trivial⟩ hG (fun q hq => by cases hq)
    refine V_callM (As := []) (st := []) mi_232_10 (by omega) (by decide +kernel) (by decide +kernel) hG q2 (by omega) (show 0 = mN 225 by decide +kernel) (by simp) ?_
    rintro r w' ⟨G', F', q3, -⟩
    cases r with
    | some v => exact q3.elim
    | none =>
      refine V_goto mi_232_13 ?_
      exact rl_20 hAD G' F' (KEEP_tr (ms := [90, 96, 97]) (m2 := [90, 96]) KEEP_rf (KEEP_F F') (by simp)) (by decide) ha a0 a1
def HP (ad : Nat → Nat) (tys : List (ClassId × FieldType)) (ms : List Nat) (w0 : va_W) (r : Option Value) (w : va_W) : Prop := GOK ad tys GG w ∧ (∃ v : Int32, r = some (.int v)) ∧ KEEP ms w0 w
theorem hi_99 (hAD : ∀ i : Nat, ad (1000 + i) = D.2 1000 i) {w0 w : va_W} (G : GOK ad tys GG w) (K : KEEP [90, 91, 96, 97] w0 w) : V l D tys A 233 10 0 0 (HP ad tys [90, 91, 96, 97] w0) 0 0 99 [(0, .ref (ad 90))] [] w := by
  obtain ⟨f, hf, f0, f3⟩ := fld G f12 (by omega)
  refine V_aload (v := ad 90) mi_233_99 (List.Mem.head _) ?_
  refine V_callM (As := []) (st := []) mi_233_100 (by omega) (by decide +kernel) (by decide +kernel) G (good_ct G hf f0 f3) (by omega) (show 0 = mN 214 by decide +kernel) (by simp) ?_
  rintro r w' ⟨rfl, rfl⟩
  refine V_if mi_233_103 (fun _ => ?_) (fun _ => ?_)
  · refine V_mach (post := HP ad tys [90, 91, 96, 97] w0) (cutsK := []) (w0 := w') (σ := fun _ => 0) (s := (109, [], [(0, rA 90)], [], [])) hAD (fun q hq => by cases hq) mT1 mT2 (fun s q hq => by simp at hq) ⟨G, (fun q hq => by cases hq), FRm_rf⟩ (fun pc C hC => by cases hC) ?_
    rintro r w ⟨g1, g2, g3, -⟩
    refine ⟨g1, ?_, KEEP_tr K (KEEP_F g2) (by simp [cHi])⟩
    cases r with
    | none => exact g3.elim
    | some v =>
      obtain ⟨z, rfl, -, -⟩ := g3
      exact ⟨_, rfl⟩
  · refine V_ipush mi_233_106 ?_
    exact V_retI mi_233_108 (fun h => absurd h (by decide +kernel)) ⟨G, ⟨_, rfl⟩, K⟩
theorem hi_78b (hAD : ∀ i : Nat, ad (1000 + i) = D.2 1000 i) {w0 w : va_W} (G : GOK ad tys GG w) (KP : KEEP [90, 91, 96, 97] w0 w) (K : FKn w ∨ rd w 90 10 = some (.int (Int32.ofInt 0))) : V l D tys A 233 10 0 0 (HP ad tys [90, 91, 96, 97] w0) 0 0 78 [(0, .ref (ad 90))] [] w := by
  obtain ⟨f, hf, f0, f3⟩ := fld G f12 (by omega)
  refine V_aload (v := ad 90) mi_233_78 (List.Mem.head _) ?_
  refine V_callM (As := []) (st := []) mi_233_79 (by omega) (by decide +kernel) (by decide +kernel) G (good_ct G hf f0 f3) (by omega) (show 0 = mN 214 by decide +kernel) (by simp) ?_
  rintro r w' ⟨rfl, rfl⟩
  by_cases hf0 : f = 0
  · rw [if_pos hf0]
    refine V_if mi_233_82 (fun h => absurd (show (1 : Int32) = 0 from h) (by decide)) (fun _ => ?_)
    rcases K with ⟨f', hf', K⟩ | hz
    · rw [hf] at hf'
      have q := congrArg Int32.toInt (Value.int.inj (Option.some.inj hf'))
      rw [Int32.toInt_ofInt_of_le (by omega) (by omega), Int32.toInt_ofInt_of_le (by omega) (by omega)] at q
      omega
    · refine V_aload (v := ad 90) mi_233_85 (List.Mem.head _) ?_
      refine V_getI mi_233_86 G hz ?_
      exact V_if mi_233_89 (fun _ => hi_99 hAD G KP) (fun h => absurd (show (0 : Int32) = 0 from rfl) h)
  · rw [if_neg hf0]
    exact V_if mi_233_82 (fun _ => hi_99 hAD G KP) (fun h => absurd (show (0 : Int32) = 0 from rfl) h)
theorem hi_78 (hAD : ∀ i : Nat, ad (1000 + i) = D.2 1000 i) {w0 : va_W} : ∀ (N : Nat) (w : va_W) (a : Int), 1400 - a < (N : Int) → GOK ad tys GG w → KEEP [90, 91, 96, 97] w0 w → rd w 90 8 = some (.int (Int32.ofInt a)) → 0 ≤ a → a ≤ 1400 → V l D tys A 233 10 0 0 (HP ad tys [90, 91, 96, 97] w0) 0 0 78 [(0, .ref (ad 90))] [] w
  | 0, w, a, h, _, _, _, _, h14 => by omega
  | N + 1, w, a, h, G, KP, ha, a0, a1 => by
    obtain ⟨f, hf, f0, f3⟩ := fld G f12 (by omega)
    obtain ⟨t, ht, t0, t4⟩ := fld G f10 (by omega)
    refine V_aload (v := ad 90) mi_233_78 (List.Mem.head _) ?_
    refine V_callM (As := []) (st := []) mi_233_79 (by omega) (by decide +kernel) (by decide +kernel) G (good_ct G hf f0 f3) (by omega) (show 0 = mN 214 by decide +kernel) (by simp) ?_
    rintro r w' ⟨rfl, rfl⟩
    refine V_if mi_233_82 (fun _ => hi_99 hAD G KP) (fun _ => ?_)
    refine V_aload (v := ad 90) mi_233_85 (List.Mem.head _) ?_
    refine V_getI mi_233_86 G ht ?_
    refine V_if mi_233_89 (fun _ => hi_99 hAD G KP) (fun _ => ?_)
    refine V_aload (v := ad 90) mi_233_92 (List.Mem.head _) ?_
    refine V_callM (As := []) (st := []) mi_233_93 (by omega) (by decide +kernel) (by decide +kernel) G (rl_ct hAD G) (by omega) (show 0 = mN 232 by decide +kernel) (by simp) ?_
    rintro r w2 ⟨rfl, G2, K, KL⟩
    have KP2 := KEEP_tr KP KL (by simp)
    refine V_goto mi_233_96 ?_
    rcases K with K | hz | ⟨b, b', h1, h2, b0, hlt, b14⟩
    · exact hi_78b hAD G2 KP2 (Or.inl K)
    · exact hi_78b hAD G2 KP2 (Or.inr hz)
    · rw [ha] at h1
      have q := congrArg Int32.toInt (Value.int.inj (Option.some.inj h1))
      rw [Int32.toInt_ofInt_of_le (by omega) (by omega), Int32.toInt_ofInt_of_le (by omega) (by omega)] at q
      exact hi_78 hAD N w2 b' (by omega) G2 KP2 h2 (by omega) b14
theorem hi_ct (hAD : ∀ i : Nat, ad (1000 + i) = D.2 1000 i) (hG : GOK ad tys GG ws) : CT l D tys A 233 10 0 0 [.ref (ad 90)] ws (fun r w => GOK ad tys GG w ∧ (∃ v : Int32, r = some (.int v)) ∧ (∀ c, c ∉ [90, 91, 96, 97] → ∀ j, rd w c j = rd ws c j) ∧ rd w 90 5 = some (.int (Int32.ofInt 0))) := by
  refine CT_of_V (by omega) (show (1 : Nat) ≤ mML 233 by decide +kernel) ?_
  obtain ⟨t, ht, t0, t1⟩ := fld hG f5 (by omega)
  have tt : (Int32.ofInt t).toInt = t := Int32.toInt_ofInt_of_le (by omega) (by omega)
  refine V_aload (v := ad 90) mi_233_0 (List.Mem.head _) ?_
  refine V_aload (v := ad 90) mi_233_1 (List.Mem.head _) ?_
  refine V_getI mi_233_2 hG ht ?_
  refine V_putI mi_233_5 hG f7 (by omega) rfl (by decide +kernel) (by omega) (by omega) (fun w1 G1 U1 => ?_)
  refine V_aload (v := ad 90) mi_233_8 (List.Mem.head _) ?_
  refine V_ipush mi_233_9 ?_
  refine V_putI mi_233_10 G1 f5 (by omega) rfl (by decide +kernel) (by decide) (by decide) (fun w2 G2 U2 => ?_)
  refine V_aload (v := ad 90) mi_233_13 (List.Mem.head _) ?_
  refine V_ipush mi_233_14 ?_
  refine V_putI mi_233_15 G2 f8 (by omega) rfl (by decide +kernel) (by decide) (by decide) (fun w3 G3 U3 => ?_)
  refine V_aload (v := ad 90) mi_233_18 (List.Mem.head _) ?_
  refine V_ipush mi_233_19 ?_
  refine V_putI mi_233_20 G3 f12 (by omega) rfl (by decide +kernel) (by decide) (by decide) (fun w4 G4 U4 => ?_)
  refine V_aload (v := ad 90) mi_233_23 (List.Mem.head _) ?_
  refine V_ipush mi_233_24 ?_
  refine V_putI mi_233_25 G4 f13 (by omega) rfl (by decide +kernel) (by decide) (by decide) (fun w5 G5 U5 => ?_)
  have C5 : ∀ c, c ∉ [90, 91, 96, 97] → ∀ j, rd w5 c j = rd ws c j := fun c hc j => by
    have hc9 : c ≠ 90 := fun q => hc (by rw [q]; simp)
    rw [upd_ne U5 (fun q => hc9 q.1), upd_ne U4 (fun q => hc9 q.1), upd_ne U3 (fun q => hc9 q.1), upd_ne U2 (fun q => hc9 q.1), upd_ne U1 (fun q => hc9 q.1)]
  have T5 : rd w5 90 5 = some (.int (Int32.ofInt 0)) := by
    rw [upd_ne U5 (by omega), upd_ne U4 (by omega), upd_ne U3 (by omega)]
    exact upd_eq U2
  refine V_post (post' := HP ad tys [90, 91, 96, 97] w5) (fun r w' hh => ⟨hh.1, hh.2.1, fun c hc j => (hh.2.2.1 c hc j).trans (C5 c hc j), hh.2.2.2.trans T5⟩) ?_
  refine V_mach (post := HP ad tys [90, 91, 96, 97] w5) (w0 := w5) (σ := fun _ => 0) (s := (28, [], [(0, rA 90)], [], [])) hAD (List.forall_mem_cons.mpr ⟨r831 hAD, fun q hq => by cases hq⟩) mH1 mH2 (fun s q hq => by simp at hq) ⟨G5, (fun q hq => by cases hq), FRm_rf⟩ ?_ ?_
  · intro pc C hC τ w hτ hH
    rw [kE] at hC
    have e := List.mem_singleton.mp hC
    cases e
    obtain ⟨a, ha, a0, a1⟩ := fld hH.1 f8 (by omega)
    exact hi_78 hAD 1401 w a (by omega) hH.1 (KEEP_tr (KEEP_rf (w := w5)) (KEEP_F hH.2.2) (by simp [cHx])) ha a0 a1
  · intro r w hw
    obtain ⟨-, -, -, g4⟩ := hw
    obtain ⟨v, -, z, -, z1, z2⟩ := g4 ((90, 8), (0, 5, 4)) (List.Mem.head _)
    have z1 : (5 : Int) ≤ z := z1
    have z2 : z ≤ (4 : Int) := z2
    omega
end HA
