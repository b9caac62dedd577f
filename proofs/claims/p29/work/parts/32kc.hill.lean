theorem mi_218_0 : mI 218 0 = (5, 0, 0, 0, 0) := by decide +kernel
theorem mi_218_1 : mI 218 1 = (5, 0, 1, 0, 0) := by decide +kernel
theorem mi_218_2 : mI 218 2 = (26, 1375, 157, 217, 0) := by decide +kernel
theorem mi_218_5 : mI 218 5 = (14, 8, 1, 13, 0) := by decide +kernel
theorem mi_218_8 : mI 218 8 = (5, 0, 0, 0, 0) := by decide +kernel
theorem mi_218_9 : mI 218 9 = (1, 1, 0, 0, 0) := by decide +kernel
theorem mi_218_10 : mI 218 10 = (26, 1385, 160, 215, 0) := by decide +kernel
theorem mi_218_13 : mI 218 13 = (27, 0, 2, 0, 0) := by decide +kernel
theorem mi_219_0 : mI 219 0 = (5, 0, 0, 0, 0) := by decide +kernel
theorem mi_219_1 : mI 219 1 = (26, 1358, 136, 214, 0) := by decide +kernel
theorem mi_219_4 : mI 219 4 = (14, 16, 0, 20, 0) := by decide +kernel
theorem mi_219_7 : mI 219 7 = (5, 0, 0, 0, 0) := by decide +kernel
theorem mi_219_8 : mI 219 8 = (17, 1216, 112, 11, 10) := by decide +kernel
theorem mi_219_11 : mI 219 11 = (1, 2, 0, 0, 0) := by decide +kernel
theorem mi_219_12 : mI 219 12 = (15, 8, 0, 20, 0) := by decide +kernel
theorem mi_219_15 : mI 219 15 = (5, 0, 0, 0, 0) := by decide +kernel
theorem mi_219_16 : mI 219 16 = (1, 1, 0, 0, 0) := by decide +kernel
theorem mi_219_17 : mI 219 17 = (26, 1385, 160, 215, 0) := by decide +kernel
theorem mi_219_20 : mI 219 20 = (5, 0, 0, 0, 0) := by decide +kernel
theorem mi_219_21 : mI 219 21 = (26, 1358, 136, 214, 0) := by decide +kernel
theorem mi_219_24 : mI 219 24 = (14, 23, 0, 47, 0) := by decide +kernel
theorem mi_219_27 : mI 219 27 = (5, 0, 0, 0, 0) := by decide +kernel
theorem mi_219_28 : mI 219 28 = (17, 1217, 123, 11, 11) := by decide +kernel
theorem mi_219_31 : mI 219 31 = (12, 0, 1, 0, 0) := by decide +kernel
theorem mi_219_32 : mI 219 32 = (3, 0, 1, 0, 0) := by decide +kernel
theorem mi_219_33 : mI 219 33 = (12, 0, 1, 0, 0) := by decide +kernel
theorem mi_219_34 : mI 219 34 = (3, 0, 2, 0, 0) := by decide +kernel
theorem mi_219_35 : mI 219 35 = (12, 0, 1, 0, 0) := by decide +kernel
theorem mi_219_36 : mI 219 36 = (26, 1321, 85, 193, 1) := by decide +kernel
theorem mi_219_39 : mI 219 39 = (14, 8, 1, 47, 0) := by decide +kernel
theorem mi_219_42 : mI 219 42 = (5, 0, 0, 0, 0) := by decide +kernel
theorem mi_219_43 : mI 219 43 = (1, 2, 0, 0, 0) := by decide +kernel
theorem mi_219_44 : mI 219 44 = (26, 1385, 160, 215, 0) := by decide +kernel
theorem mi_219_47 : mI 219 47 = (5, 0, 0, 0, 0) := by decide +kernel
theorem mi_219_48 : mI 219 48 = (26, 1358, 136, 214, 0) := by decide +kernel
theorem mi_219_51 : mI 219 51 = (14, 5, 1, 56, 0) := by decide +kernel
theorem mi_219_54 : mI 219 54 = (1, 0, 0, 0, 0) := by decide +kernel
theorem mi_219_55 : mI 219 55 = (27, 0, 0, 0, 0) := by decide +kernel
theorem mi_219_56 : mI 219 56 = (5, 0, 0, 0, 0) := by decide +kernel
theorem mi_219_57 : mI 219 57 = (17, 1217, 123, 11, 11) := by decide +kernel
theorem mi_219_60 : mI 219 60 = (6, 0, 3, 0, 0) := by decide +kernel
theorem mi_219_61 : mI 219 61 = (5, 0, 0, 0, 0) := by decide +kernel
theorem mi_219_62 : mI 219 62 = (26, 1344, 154, 213, 0) := by decide +kernel
theorem mi_219_65 : mI 219 65 = (3, 0, 3, 0, 0) := by decide +kernel
theorem mi_219_66 : mI 219 66 = (27, 0, 0, 0, 0) := by decide +kernel
theorem mi_220_0 : mI 220 0 = (5, 0, 0, 0, 0) := by decide +kernel
theorem mi_220_1 : mI 220 1 = (5, 0, 1, 0, 0) := by decide +kernel
theorem mi_220_2 : mI 220 2 = (26, 1371, 164, 218, 0) := by decide +kernel
theorem mi_220_5 : mI 220 5 = (5, 0, 0, 0, 0) := by decide +kernel
theorem mi_220_6 : mI 220 6 = (3, 0, 2, 0, 0) := by decide +kernel
theorem mi_220_7 : mI 220 7 = (3, 0, 3, 0, 0) := by decide +kernel
theorem mi_220_8 : mI 220 8 = (26, 1394, 168, 219, 0) := by decide +kernel
theorem mi_220_11 : mI 220 11 = (27, 0, 0, 0, 0) := by decide +kernel
theorem mi_222_0 : mI 222 0 = (5, 0, 0, 0, 0) := by decide +kernel
theorem mi_222_1 : mI 222 1 = (1, 0, 0, 0, 0) := by decide +kernel
theorem mi_222_2 : mI 222 2 = (5, 0, 0, 0, 0) := by decide +kernel
theorem mi_222_3 : mI 222 3 = (17, 1220, 31, 11, 14) := by decide +kernel
theorem mi_222_6 : mI 222 6 = (1, 3, 0, 0, 0) := by decide +kernel
theorem mi_222_7 : mI 222 7 = (19, 0, 0, 0, 0) := by decide +kernel
theorem mi_222_8 : mI 222 8 = (1, 1, 0, 0, 0) := by decide +kernel
theorem mi_222_9 : mI 222 9 = (10, 0, 1, 0, 0) := by decide +kernel
theorem mi_222_10 : mI 222 10 = (26, 1394, 168, 219, 0) := by decide +kernel
theorem mi_222_13 : mI 222 13 = (27, 0, 0, 0, 0) := by decide +kernel
theorem mi_223_0 : mI 223 0 = (5, 0, 0, 0, 0) := by decide +kernel
theorem mi_223_1 : mI 223 1 = (26, 1358, 136, 214, 0) := by decide +kernel
theorem mi_223_4 : mI 223 4 = (14, 24, 0, 28, 0) := by decide +kernel
theorem mi_223_7 : mI 223 7 = (5, 0, 0, 0, 0) := by decide +kernel
theorem mi_223_8 : mI 223 8 = (17, 1216, 112, 11, 10) := by decide +kernel
theorem mi_223_11 : mI 223 11 = (1, 2, 0, 0, 0) := by decide +kernel
theorem mi_223_12 : mI 223 12 = (15, 16, 1, 28, 0) := by decide +kernel
theorem mi_223_15 : mI 223 15 = (5, 0, 0, 0, 0) := by decide +kernel
theorem mi_223_16 : mI 223 16 = (17, 1217, 123, 11, 11) := by decide +kernel
theorem mi_223_19 : mI 223 19 = (3, 0, 1, 0, 0) := by decide +kernel
theorem mi_223_20 : mI 223 20 = (15, 8, 1, 28, 0) := by decide +kernel
theorem mi_223_23 : mI 223 23 = (5, 0, 0, 0, 0) := by decide +kernel
theorem mi_223_24 : mI 223 24 = (1, 2, 0, 0, 0) := by decide +kernel
theorem mi_223_25 : mI 223 25 = (26, 1385, 160, 215, 0) := by decide +kernel
theorem mi_223_28 : mI 223 28 = (5, 0, 0, 0, 0) := by decide +kernel
theorem mi_223_29 : mI 223 29 = (26, 1415, 171, 222, 0) := by decide +kernel
theorem mi_223_32 : mI 223 32 = (27, 0, 0, 0, 0) := by decide +kernel
theorem mi_224_0 : mI 224 0 = (5, 0, 0, 0, 0) := by decide +kernel
theorem mi_224_1 : mI 224 1 = (1, 0, 0, 0, 0) := by decide +kernel
theorem mi_224_2 : mI 224 2 = (5, 0, 0, 0, 0) := by decide +kernel
theorem mi_224_3 : mI 224 3 = (17, 1220, 31, 11, 14) := by decide +kernel
theorem mi_224_6 : mI 224 6 = (1, 2, 0, 0, 0) := by decide +kernel
theorem mi_224_7 : mI 224 7 = (19, 0, 0, 0, 0) := by decide +kernel
theorem mi_224_8 : mI 224 8 = (1, 1, 0, 0, 0) := by decide +kernel
theorem mi_224_9 : mI 224 9 = (10, 0, 1, 0, 0) := by decide +kernel
theorem mi_224_10 : mI 224 10 = (26, 1394, 168, 219, 0) := by decide +kernel
theorem mi_224_13 : mI 224 13 = (27, 0, 0, 0, 0) := by decide +kernel
theorem mi_225_0 : mI 225 0 = (5, 0, 0, 0, 0) := by decide +kernel
theorem mi_225_1 : mI 225 1 = (35, 0, 174, 12, 0) := by decide +kernel
theorem mi_225_3 : mI 225 3 = (26, 1371, 164, 218, 0) := by decide +kernel
theorem mi_225_6 : mI 225 6 = (5, 0, 0, 0, 0) := by decide +kernel
theorem mi_225_7 : mI 225 7 = (17, 1220, 31, 11, 14) := by decide +kernel
theorem mi_225_10 : mI 225 10 = (1, 0, 0, 0, 0) := by decide +kernel
theorem mi_225_11 : mI 225 11 = (5, 0, 0, 0, 0) := by decide +kernel
theorem mi_225_12 : mI 225 12 = (35, 0, 176, 13, 0) := by decide +kernel
theorem mi_225_14 : mI 225 14 = (1, 2, 0, 0, 0) := by decide +kernel
theorem mi_225_15 : mI 225 15 = (1, 9, 1, 0, 0) := by decide +kernel
theorem mi_225_17 : mI 225 17 = (26, 1390, 178, 220, 0) := by decide +kernel
theorem mi_225_20 : mI 225 20 = (20, 0, 0, 0, 0) := by decide +kernel
theorem mi_225_21 : mI 225 21 = (5, 0, 0, 0, 0) := by decide +kernel
theorem mi_225_22 : mI 225 22 = (17, 1220, 31, 11, 14) := by decide +kernel
theorem mi_225_25 : mI 225 25 = (1, 1, 0, 0, 0) := by decide +kernel
theorem mi_225_26 : mI 225 26 = (5, 0, 0, 0, 0) := by decide +kernel
theorem mi_225_27 : mI 225 27 = (35, 0, 182, 14, 0) := by decide +kernel
theorem mi_225_29 : mI 225 29 = (1, 1, 0, 0, 0) := by decide +kernel
theorem mi_225_30 : mI 225 30 = (1, 4, 0, 0, 0) := by decide +kernel
theorem mi_225_31 : mI 225 31 = (26, 1390, 178, 220, 0) := by decide +kernel
theorem mi_225_34 : mI 225 34 = (20, 0, 0, 0, 0) := by decide +kernel
theorem mi_225_35 : mI 225 35 = (5, 0, 0, 0, 0) := by decide +kernel
theorem mi_225_36 : mI 225 36 = (17, 1220, 31, 11, 14) := by decide +kernel
theorem mi_225_39 : mI 225 39 = (1, 2, 0, 0, 0) := by decide +kernel
theorem mi_225_40 : mI 225 40 = (5, 0, 0, 0, 0) := by decide +kernel
theorem mi_225_41 : mI 225 41 = (35, 0, 184, 15, 0) := by decide +kernel
theorem mi_225_43 : mI 225 43 = (1, 1, 0, 0, 0) := by decide +kernel
theorem mi_225_44 : mI 225 44 = (1, 24, 1, 0, 0) := by decide +kernel
theorem mi_225_46 : mI 225 46 = (26, 1390, 178, 220, 0) := by decide +kernel
theorem mi_225_49 : mI 225 49 = (20, 0, 0, 0, 0) := by decide +kernel
theorem mi_225_50 : mI 225 50 = (27, 0, 2, 0, 0) := by decide +kernel
theorem mi_226_0 : mI 226 0 = (5, 0, 0, 0, 0) := by decide +kernel
theorem mi_226_1 : mI 226 1 = (17, 1220, 31, 11, 14) := by decide +kernel
theorem mi_226_4 : mI 226 4 = (1, 3, 0, 0, 0) := by decide +kernel
theorem mi_226_5 : mI 226 5 = (19, 0, 0, 0, 0) := by decide +kernel
theorem mi_226_6 : mI 226 6 = (6, 0, 1, 0, 0) := by decide +kernel
theorem mi_226_7 : mI 226 7 = (1, 0, 0, 0, 0) := by decide +kernel
theorem mi_226_8 : mI 226 8 = (6, 0, 2, 0, 0) := by decide +kernel
theorem mi_226_9 : mI 226 9 = (5, 0, 0, 0, 0) := by decide +kernel
theorem mi_226_10 : mI 226 10 = (26, 1358, 136, 214, 0) := by decide +kernel
theorem mi_226_13 : mI 226 13 = (14, 35, 0, 48, 0) := by decide +kernel
theorem mi_226_16 : mI 226 16 = (5, 0, 0, 0, 0) := by decide +kernel
theorem mi_226_17 : mI 226 17 = (17, 1216, 112, 11, 10) := by decide +kernel
theorem mi_226_20 : mI 226 20 = (1, 2, 0, 0, 0) := by decide +kernel
theorem mi_226_21 : mI 226 21 = (15, 27, 1, 48, 0) := by decide +kernel
theorem mi_226_24 : mI 226 24 = (3, 0, 2, 0, 0) := by decide +kernel
theorem mi_226_25 : mI 226 25 = (1, 6, 1, 0, 0) := by decide +kernel
theorem mi_226_27 : mI 226 27 = (15, 21, 1, 48, 0) := by decide +kernel
theorem mi_226_30 : mI 226 30 = (5, 0, 0, 0, 0) := by decide +kernel
theorem mi_226_31 : mI 226 31 = (17, 1217, 123, 11, 11) := by decide +kernel
theorem mi_226_34 : mI 226 34 = (5, 0, 0, 0, 0) := by decide +kernel
theorem mi_226_35 : mI 226 35 = (17, 1220, 31, 11, 14) := by decide +kernel
theorem mi_226_38 : mI 226 38 = (1, 0, 0, 0, 0) := by decide +kernel
theorem mi_226_39 : mI 226 39 = (19, 0, 0, 0, 0) := by decide +kernel
theorem mi_226_40 : mI 226 40 = (15, 8, 3, 48, 0) := by decide +kernel
theorem mi_226_43 : mI 226 43 = (5, 0, 0, 0, 0) := by decide +kernel
theorem mi_226_44 : mI 226 44 = (1, 3, 0, 0, 0) := by decide +kernel
theorem mi_226_45 : mI 226 45 = (26, 1385, 160, 215, 0) := by decide +kernel
theorem mi_226_48 : mI 226 48 = (5, 0, 0, 0, 0) := by decide +kernel
theorem mi_226_49 : mI 226 49 = (1, 0, 0, 0, 0) := by decide +kernel
theorem mi_226_50 : mI 226 50 = (5, 0, 0, 0, 0) := by decide +kernel
theorem mi_226_51 : mI 226 51 = (17, 1220, 31, 11, 14) := by decide +kernel
theorem mi_226_54 : mI 226 54 = (1, 0, 0, 0, 0) := by decide +kernel
theorem mi_226_55 : mI 226 55 = (19, 0, 0, 0, 0) := by decide +kernel
theorem mi_226_56 : mI 226 56 = (1, 1, 0, 0, 0) := by decide +kernel
theorem mi_226_57 : mI 226 57 = (10, 0, 1, 0, 0) := by decide +kernel
theorem mi_226_58 : mI 226 58 = (26, 1394, 168, 219, 0) := by decide +kernel
theorem mi_226_61 : mI 226 61 = (6, 0, 3, 0, 0) := by decide +kernel
theorem mi_226_62 : mI 226 62 = (5, 0, 0, 0, 0) := by decide +kernel
theorem mi_226_63 : mI 226 63 = (26, 1358, 136, 214, 0) := by decide +kernel
theorem mi_226_66 : mI 226 66 = (14, 4, 1, 70, 0) := by decide +kernel
theorem mi_226_69 : mI 226 69 = (27, 0, 2, 0, 0) := by decide +kernel
theorem mi_226_70 : mI 226 70 = (5, 0, 0, 0, 0) := by decide +kernel
theorem mi_226_71 : mI 226 71 = (17, 1220, 31, 11, 14) := by decide +kernel
theorem mi_226_74 : mI 226 74 = (1, 6, 1, 0, 0) := by decide +kernel
theorem mi_226_76 : mI 226 76 = (1, 7, 1, 0, 0) := by decide +kernel
theorem mi_226_78 : mI 226 78 = (3, 0, 1, 0, 0) := by decide +kernel
theorem mi_226_79 : mI 226 79 = (10, 0, 2, 0, 0) := by decide +kernel
theorem mi_226_80 : mI 226 80 = (10, 0, 0, 0, 0) := by decide +kernel
theorem mi_226_81 : mI 226 81 = (1, 1, 0, 0, 0) := by decide +kernel
theorem mi_226_82 : mI 226 82 = (10, 0, 0, 0, 0) := by decide +kernel
theorem mi_226_83 : mI 226 83 = (3, 0, 2, 0, 0) := by decide +kernel
theorem mi_226_84 : mI 226 84 = (10, 0, 0, 0, 0) := by decide +kernel
theorem mi_226_85 : mI 226 85 = (3, 0, 3, 0, 0) := by decide +kernel
theorem mi_226_86 : mI 226 86 = (20, 0, 0, 0, 0) := by decide +kernel
theorem mi_226_87 : mI 226 87 = (9, 1, 2, 0, 0) := by decide +kernel
theorem mi_226_90 : mI 226 90 = (5, 0, 0, 0, 0) := by decide +kernel
theorem mi_226_91 : mI 226 91 = (17, 1216, 112, 11, 10) := by decide +kernel
theorem mi_226_94 : mI 226 94 = (1, 3, 0, 0, 0) := by decide +kernel
theorem mi_226_95 : mI 226 95 = (15, (-86), 1, 9, 0) := by decide +kernel
theorem mi_226_98 : mI 226 98 = (5, 0, 0, 0, 0) := by decide +kernel
theorem mi_226_99 : mI 226 99 = (17, 1220, 31, 11, 14) := by decide +kernel
theorem mi_226_102 : mI 226 102 = (1, 6, 1, 0, 0) := by decide +kernel
theorem mi_226_104 : mI 226 104 = (1, 7, 1, 0, 0) := by decide +kernel
theorem mi_226_106 : mI 226 106 = (3, 0, 1, 0, 0) := by decide +kernel
theorem mi_226_107 : mI 226 107 = (10, 0, 2, 0, 0) := by decide +kernel
theorem mi_226_108 : mI 226 108 = (10, 0, 0, 0, 0) := by decide +kernel
theorem mi_226_109 : mI 226 109 = (3, 0, 2, 0, 0) := by decide +kernel
theorem mi_226_110 : mI 226 110 = (20, 0, 0, 0, 0) := by decide +kernel
theorem mi_226_111 : mI 226 111 = (5, 0, 0, 0, 0) := by decide +kernel
theorem mi_226_112 : mI 226 112 = (17, 1220, 31, 11, 14) := by decide +kernel
theorem mi_226_115 : mI 226 115 = (1, 48, 1, 0, 0) := by decide +kernel
theorem mi_226_117 : mI 226 117 = (3, 0, 1, 0, 0) := by decide +kernel
theorem mi_226_118 : mI 226 118 = (10, 0, 0, 0, 0) := by decide +kernel
theorem mi_226_119 : mI 226 119 = (1, 1, 0, 0, 0) := by decide +kernel
theorem mi_226_120 : mI 226 120 = (20, 0, 0, 0, 0) := by decide +kernel
theorem mi_226_121 : mI 226 121 = (5, 0, 0, 0, 0) := by decide +kernel
theorem mi_226_122 : mI 226 122 = (17, 1220, 31, 11, 14) := by decide +kernel
theorem mi_226_125 : mI 226 125 = (1, 3, 0, 0, 0) := by decide +kernel
theorem mi_226_126 : mI 226 126 = (22, 0, 1, 0, 0) := by decide +kernel
theorem mi_226_127 : mI 226 127 = (19, 0, 0, 0, 0) := by decide +kernel
theorem mi_226_128 : mI 226 128 = (1, 1, 0, 0, 0) := by decide +kernel
theorem mi_226_129 : mI 226 129 = (10, 0, 0, 0, 0) := by decide +kernel
theorem mi_226_130 : mI 226 130 = (20, 0, 0, 0, 0) := by decide +kernel
theorem mi_226_131 : mI 226 131 = (27, 0, 2, 0, 0) := by decide +kernel
theorem mi_227_0 : mI 227 0 = (5, 0, 0, 0, 0) := by decide +kernel
theorem mi_227_1 : mI 227 1 = (1, 0, 0, 0, 0) := by decide +kernel
theorem mi_227_2 : mI 227 2 = (5, 0, 0, 0, 0) := by decide +kernel
theorem mi_227_3 : mI 227 3 = (17, 1220, 31, 11, 14) := by decide +kernel
theorem mi_227_6 : mI 227 6 = (1, 6, 1, 0, 0) := by decide +kernel
theorem mi_227_8 : mI 227 8 = (1, 7, 1, 0, 0) := by decide +kernel
theorem mi_227_10 : mI 227 10 = (3, 0, 1, 0, 0) := by decide +kernel
theorem mi_227_11 : mI 227 11 = (10, 0, 2, 0, 0) := by decide +kernel
theorem mi_227_12 : mI 227 12 = (10, 0, 0, 0, 0) := by decide +kernel
theorem mi_227_13 : mI 227 13 = (19, 0, 0, 0, 0) := by decide +kernel
theorem mi_227_14 : mI 227 14 = (1, 1, 0, 0, 0) := by decide +kernel
theorem mi_227_15 : mI 227 15 = (10, 0, 1, 0, 0) := by decide +kernel
theorem mi_227_16 : mI 227 16 = (26, 1394, 168, 219, 0) := by decide +kernel
theorem mi_227_19 : mI 227 19 = (27, 0, 0, 0, 0) := by decide +kernel
theorem mi_228_0 : mI 228 0 = (5, 0, 0, 0, 0) := by decide +kernel
theorem mi_228_1 : mI 228 1 = (26, 1415, 171, 222, 0) := by decide +kernel
theorem mi_228_4 : mI 228 4 = (6, 0, 1, 0, 0) := by decide +kernel
theorem mi_228_5 : mI 228 5 = (5, 0, 0, 0, 0) := by decide +kernel
theorem mi_228_6 : mI 228 6 = (1, 0, 0, 0, 0) := by decide +kernel
theorem mi_228_7 : mI 228 7 = (5, 0, 0, 0, 0) := by decide +kernel
theorem mi_228_8 : mI 228 8 = (17, 1220, 31, 11, 14) := by decide +kernel
theorem mi_228_11 : mI 228 11 = (1, 1, 0, 0, 0) := by decide +kernel
theorem mi_228_12 : mI 228 12 = (19, 0, 0, 0, 0) := by decide +kernel
theorem mi_228_13 : mI 228 13 = (1, 1, 0, 0, 0) := by decide +kernel
theorem mi_228_14 : mI 228 14 = (10, 0, 1, 0, 0) := by decide +kernel
theorem mi_228_15 : mI 228 15 = (26, 1394, 168, 219, 0) := by decide +kernel
theorem mi_228_18 : mI 228 18 = (6, 0, 2, 0, 0) := by decide +kernel
theorem mi_228_19 : mI 228 19 = (5, 0, 0, 0, 0) := by decide +kernel
theorem mi_228_20 : mI 228 20 = (35, 0, 186, 16, 0) := by decide +kernel
theorem mi_228_22 : mI 228 22 = (26, 1371, 164, 218, 0) := by decide +kernel
theorem mi_228_25 : mI 228 25 = (5, 0, 0, 0, 0) := by decide +kernel
theorem mi_228_26 : mI 228 26 = (26, 1424, 187, 224, 0) := by decide +kernel
theorem mi_228_29 : mI 228 29 = (6, 0, 3, 0, 0) := by decide +kernel
theorem mi_228_30 : mI 228 30 = (5, 0, 0, 0, 0) := by decide +kernel
theorem mi_228_31 : mI 228 31 = (26, 1358, 136, 214, 0) := by decide +kernel
theorem mi_228_34 : mI 228 34 = (14, 15, 0, 49, 0) := by decide +kernel
theorem mi_228_37 : mI 228 37 = (5, 0, 0, 0, 0) := by decide +kernel
theorem mi_228_38 : mI 228 38 = (17, 1221, 34, 11, 15) := by decide +kernel
theorem mi_228_41 : mI 228 41 = (1, 24, 1, 0, 0) := by decide +kernel
theorem mi_228_43 : mI 228 43 = (3, 0, 1, 0, 0) := by decide +kernel
theorem mi_228_44 : mI 228 44 = (10, 0, 2, 0, 0) := by decide +kernel
theorem mi_228_45 : mI 228 45 = (3, 0, 3, 0, 0) := by decide +kernel
theorem mi_228_46 : mI 228 46 = (10, 0, 0, 0, 0) := by decide +kernel
theorem mi_228_47 : mI 228 47 = (3, 0, 2, 0, 0) := by decide +kernel
theorem mi_228_48 : mI 228 48 = (20, 0, 0, 0, 0) := by decide +kernel
theorem mi_228_49 : mI 228 49 = (27, 0, 2, 0, 0) := by decide +kernel
theorem mi_229_0 : mI 229 0 = (5, 0, 0, 0, 0) := by decide +kernel
theorem mi_229_1 : mI 229 1 = (26, 1415, 171, 222, 0) := by decide +kernel
theorem mi_229_4 : mI 229 4 = (6, 0, 1, 0, 0) := by decide +kernel
theorem mi_229_5 : mI 229 5 = (5, 0, 0, 0, 0) := by decide +kernel
theorem mi_229_6 : mI 229 6 = (3, 0, 1, 0, 0) := by decide +kernel
theorem mi_229_7 : mI 229 7 = (26, 1432, 190, 223, 0) := by decide +kernel
theorem mi_229_10 : mI 229 10 = (6, 0, 2, 0, 0) := by decide +kernel
theorem mi_229_11 : mI 229 11 = (5, 0, 0, 0, 0) := by decide +kernel
theorem mi_229_12 : mI 229 12 = (3, 0, 2, 0, 0) := by decide +kernel
theorem mi_229_13 : mI 229 13 = (26, 1436, 193, 227, 0) := by decide +kernel
theorem mi_229_16 : mI 229 16 = (6, 0, 3, 0, 0) := by decide +kernel
theorem mi_229_17 : mI 229 17 = (5, 0, 0, 0, 0) := by decide +kernel
theorem mi_229_18 : mI 229 18 = (26, 1358, 136, 214, 0) := by decide +kernel
theorem mi_229_21 : mI 229 21 = (14, 23, 0, 44, 0) := by decide +kernel
theorem mi_229_24 : mI 229 24 = (5, 0, 0, 0, 0) := by decide +kernel
theorem mi_229_25 : mI 229 25 = (17, 1220, 31, 11, 14) := by decide +kernel
theorem mi_229_28 : mI 229 28 = (1, 66, 1, 0, 0) := by decide +kernel
theorem mi_229_30 : mI 229 30 = (1, 6, 1, 0, 0) := by decide +kernel
theorem mi_229_32 : mI 229 32 = (3, 0, 1, 0, 0) := by decide +kernel
theorem mi_229_33 : mI 229 33 = (10, 0, 2, 0, 0) := by decide +kernel
theorem mi_229_34 : mI 229 34 = (10, 0, 0, 0, 0) := by decide +kernel
theorem mi_229_35 : mI 229 35 = (3, 0, 2, 0, 0) := by decide +kernel
theorem mi_229_36 : mI 229 36 = (10, 0, 0, 0, 0) := by decide +kernel
theorem mi_229_37 : mI 229 37 = (22, 0, 1, 0, 0) := by decide +kernel
theorem mi_229_38 : mI 229 38 = (19, 0, 0, 0, 0) := by decide +kernel
theorem mi_229_39 : mI 229 39 = (1, 1, 0, 0, 0) := by decide +kernel
theorem mi_229_40 : mI 229 40 = (3, 0, 3, 0, 0) := by decide +kernel
theorem mi_229_41 : mI 229 41 = (10, 0, 8, 0, 0) := by decide +kernel
theorem mi_229_42 : mI 229 42 = (10, 0, 6, 0, 0) := by decide +kernel
theorem mi_229_43 : mI 229 43 = (20, 0, 0, 0, 0) := by decide +kernel
theorem mi_229_44 : mI 229 44 = (27, 0, 2, 0, 0) := by decide +kernel
theorem mi_230_0 : mI 230 0 = (1, 246, 2, 0, 0) := by decide +kernel
theorem mi_230_3 : mI 230 3 = (1, 4, 0, 0, 0) := by decide +kernel
theorem mi_230_4 : mI 230 4 = (5, 0, 0, 0, 0) := by decide +kernel
theorem mi_230_5 : mI 230 5 = (17, 1220, 31, 11, 14) := by decide +kernel
theorem mi_230_8 : mI 230 8 = (1, 4, 0, 0, 0) := by decide +kernel
theorem mi_230_9 : mI 230 9 = (19, 0, 0, 0, 0) := by decide +kernel
theorem mi_230_10 : mI 230 10 = (10, 0, 2, 0, 0) := by decide +kernel
theorem mi_230_11 : mI 230 11 = (10, 0, 0, 0, 0) := by decide +kernel
theorem mi_230_12 : mI 230 12 = (6, 0, 1, 0, 0) := by decide +kernel
theorem mi_230_13 : mI 230 13 = (5, 0, 0, 0, 0) := by decide +kernel
theorem mi_230_14 : mI 230 14 = (26, 1415, 171, 222, 0) := by decide +kernel
theorem mi_230_17 : mI 230 17 = (6, 0, 2, 0, 0) := by decide +kernel
theorem mi_230_18 : mI 230 18 = (5, 0, 0, 0, 0) := by decide +kernel
theorem mi_230_19 : mI 230 19 = (26, 1415, 171, 222, 0) := by decide +kernel
theorem mi_230_22 : mI 230 22 = (6, 0, 3, 0, 0) := by decide +kernel
theorem mi_230_23 : mI 230 23 = (5, 0, 0, 0, 0) := by decide +kernel
theorem mi_230_24 : mI 230 24 = (3, 0, 3, 0, 0) := by decide +kernel
theorem mi_230_25 : mI 230 25 = (26, 1436, 193, 227, 0) := by decide +kernel
theorem mi_230_28 : mI 230 28 = (6, 0, 4, 1, 0) := by decide +kernel
theorem mi_230_30 : mI 230 30 = (5, 0, 0, 0, 0) := by decide +kernel
theorem mi_230_31 : mI 230 31 = (35, 0, 186, 16, 0) := by decide +kernel
theorem mi_230_33 : mI 230 33 = (26, 1371, 164, 218, 0) := by decide +kernel
theorem mi_230_36 : mI 230 36 = (5, 0, 0, 0, 0) := by decide +kernel
theorem mi_230_37 : mI 230 37 = (26, 1424, 187, 224, 0) := by decide +kernel
theorem mi_230_40 : mI 230 40 = (6, 0, 5, 1, 0) := by decide +kernel
theorem mi_230_42 : mI 230 42 = (5, 0, 0, 0, 0) := by decide +kernel
theorem mi_230_43 : mI 230 43 = (26, 1358, 136, 214, 0) := by decide +kernel
theorem mi_230_46 : mI 230 46 = (14, 4, 1, 50, 0) := by decide +kernel
theorem mi_230_49 : mI 230 49 = (27, 0, 2, 0, 0) := by decide +kernel
theorem mi_230_50 : mI 230 50 = (5, 0, 0, 0, 0) := by decide +kernel
theorem mi_230_51 : mI 230 51 = (17, 1220, 31, 11, 14) := by decide +kernel
theorem mi_230_54 : mI 230 54 = (3, 0, 1, 0, 0) := by decide +kernel
theorem mi_230_55 : mI 230 55 = (1, 0, 0, 0, 0) := by decide +kernel
theorem mi_230_56 : mI 230 56 = (10, 0, 0, 0, 0) := by decide +kernel
theorem mi_230_57 : mI 230 57 = (3, 0, 2, 0, 0) := by decide +kernel
theorem mi_230_58 : mI 230 58 = (20, 0, 0, 0, 0) := by decide +kernel
theorem mi_230_59 : mI 230 59 = (5, 0, 0, 0, 0) := by decide +kernel
theorem mi_230_60 : mI 230 60 = (17, 1220, 31, 11, 14) := by decide +kernel
theorem mi_230_63 : mI 230 63 = (3, 0, 1, 0, 0) := by decide +kernel
theorem mi_230_64 : mI 230 64 = (1, 1, 0, 0, 0) := by decide +kernel
theorem mi_230_65 : mI 230 65 = (10, 0, 0, 0, 0) := by decide +kernel
theorem mi_230_66 : mI 230 66 = (3, 0, 3, 0, 0) := by decide +kernel
theorem mi_230_67 : mI 230 67 = (20, 0, 0, 0, 0) := by decide +kernel
theorem mi_230_68 : mI 230 68 = (5, 0, 0, 0, 0) := by decide +kernel
theorem mi_230_69 : mI 230 69 = (17, 1220, 31, 11, 14) := by decide +kernel
theorem mi_230_72 : mI 230 72 = (3, 0, 1, 0, 0) := by decide +kernel
theorem mi_230_73 : mI 230 73 = (1, 2, 0, 0, 0) := by decide +kernel
theorem mi_230_74 : mI 230 74 = (10, 0, 0, 0, 0) := by decide +kernel
theorem mi_230_75 : mI 230 75 = (3, 0, 4, 1, 0) := by decide +kernel
theorem mi_230_77 : mI 230 77 = (20, 0, 0, 0, 0) := by decide +kernel
theorem mi_230_78 : mI 230 78 = (5, 0, 0, 0, 0) := by decide +kernel
theorem mi_230_79 : mI 230 79 = (17, 1220, 31, 11, 14) := by decide +kernel
theorem mi_230_82 : mI 230 82 = (3, 0, 1, 0, 0) := by decide +kernel
theorem mi_230_83 : mI 230 83 = (1, 3, 0, 0, 0) := by decide +kernel
theorem mi_230_84 : mI 230 84 = (10, 0, 0, 0, 0) := by decide +kernel
theorem mi_230_85 : mI 230 85 = (3, 0, 5, 1, 0) := by decide +kernel
theorem mi_230_87 : mI 230 87 = (20, 0, 0, 0, 0) := by decide +kernel
theorem mi_230_88 : mI 230 88 = (5, 0, 0, 0, 0) := by decide +kernel
theorem mi_230_89 : mI 230 89 = (17, 1220, 31, 11, 14) := by decide +kernel
theorem mi_230_92 : mI 230 92 = (1, 4, 0, 0, 0) := by decide +kernel
theorem mi_230_93 : mI 230 93 = (22, 0, 1, 0, 0) := by decide +kernel
theorem mi_230_94 : mI 230 94 = (19, 0, 0, 0, 0) := by decide +kernel
theorem mi_230_95 : mI 230 95 = (1, 1, 0, 0, 0) := by decide +kernel
theorem mi_230_96 : mI 230 96 = (10, 0, 0, 0, 0) := by decide +kernel
theorem mi_230_97 : mI 230 97 = (20, 0, 0, 0, 0) := by decide +kernel
theorem mi_230_98 : mI 230 98 = (27, 0, 2, 0, 0) := by decide +kernel
section TKS
variable {l : Launch} {D : va_G} {tys : List (ClassId × FieldType)} {A : Nat → Prop} {ad : Nat → Nat} {ws : va_W}
theorem num_bd {B : Nat → Int} {n : Nat} : ∀ {f i : Nat} {v : Int}, 0 ≤ v → v ≤ 99999 → 0 ≤ numS B n f i v ∧ numS B n f i v ≤ 99999
  | 0, i, v, h0, h1 => ⟨h0, h1⟩
  | f + 1, i, v, h0, h1 => by
    unfold numS
    split
    · next hd =>
      unfold diB at hd
      rw [Bool.and_eq_true, decide_eq_true_eq, decide_eq_true_eq] at hd
      exact num_bd (by omega) (by omega)
    · exact ⟨h0, h1⟩
theorem tk_bd {B : Nat → Int} {n a : Nat} {v : Int} (ha : a ≤ n) (v0 : -2147483648 ≤ v) (v1 : v ≤ 2147483647) : (0 ≤ tkK B n a ∧ tkK B n a ≤ 4) ∧ (a ≤ tkI B n a ∧ tkI B n a ≤ tkE B n a ∧ tkE B n a ≤ n) ∧ (-2147483648 ≤ tkV B n a v ∧ tkV B n a v ≤ 2147483647) := by
  have i1 : a ≤ tkI B n a := run_ge
  have i2 : tkI B n a ≤ n := run_le (by decide) ha
  have hn : (0 : Int) ≤ numS B n 1401 (tkI B n a) 0 ∧ numS B n 1401 (tkI B n a) 0 ≤ 99999 := num_bd (by omega) (by omega)
  have r1 : tkI B n a ≤ runS leB B n 1401 (tkI B n a) ∧ runS leB B n 1401 (tkI B n a) ≤ n := ⟨run_ge, run_le (by decide) i2⟩
  have r2 : tkI B n a ≤ runS diB B n 1401 (tkI B n a) ∧ runS diB B n 1401 (tkI B n a) ≤ n := ⟨run_ge, run_le (by decide) i2⟩
  have hc : tkC B n a ≠ -1 → tkI B n a < n := fun h => see_lt h
  refine ⟨?_, ⟨i1, ?_⟩, ?_⟩
  · unfold tkK
    repeat' split
    all_goals omega
  · unfold tkE
    split
    · omega
    · next h =>
      have := hc h
      split
      · omega
      · split <;> omega
  · unfold tkV
    repeat' split
    all_goals omega
/-- where a reader stands: the token (kind, start, stop, number), the fault (kind, place) -/
noncomputable abbrev TS : Type := (Int × Nat × Nat × Int) × (Int × Int)
noncomputable def tsOK (n : Nat) (s : TS) : Prop := (0 ≤ s.1.1 ∧ s.1.1 ≤ 4) ∧ (s.1.2.1 ≤ s.1.2.2.1 ∧ s.1.2.2.1 ≤ n) ∧ (-2147483648 ≤ s.1.2.2.2 ∧ s.1.2.2.2 ≤ 2147483647) ∧ (0 ≤ s.2.1 ∧ s.2.1 ≤ 3)
noncomputable def advS (B : Nat → Int) (n : Nat) (s : TS) : TS := ((tkK B n s.1.2.2.1, tkI B n s.1.2.2.1, tkE B n s.1.2.2.1, tkV B n s.1.2.2.1 s.1.2.2.2), s.2)
noncomputable def errS (e : Int) (s : TS) : TS := if s.2.1 = 0 then (s.1, (e, (s.1.2.1 : Int))) else s
noncomputable def isSp (B : Nat → Int) (n : Nat) (cs : List Int32) (s : TS) : Bool := isB s.2.1 s.1.1 B n s.1.2.1 s.1.2.2.1 cs
noncomputable def takeS (B : Nat → Int) (n : Nat) (cs : List Int32) (s : TS) : TS := if isSp B n cs s = true then advS B n s else s
noncomputable def needS (B : Nat → Int) (n : Nat) (cs : List Int32) (s : TS) : TS := if isSp B n cs s = true then advS B n s else errS 1 s
noncomputable def num1 (s : TS) : TS := if s.2.1 = 0 ∧ s.1.1 ≠ 2 then errS 1 s else s
noncomputable def num2 (lo hi : Int) (s : TS) : TS := if (num1 s).2.1 = 0 ∧ ¬ (lo ≤ (num1 s).1.2.2.2 ∧ (num1 s).1.2.2.2 ≤ hi) then errS 2 (num1 s) else num1 s
noncomputable def numT (B : Nat → Int) (n : Nat) (lo hi : Int) (s : TS) : TS := if (num2 lo hi s).2.1 = 0 then advS B n (num2 lo hi s) else num2 lo hi s
noncomputable def numR (lo hi : Int) (s : TS) : Int := if (num2 lo hi s).2.1 = 0 then (num2 lo hi s).1.2.2.2 else 0
theorem adv_OK {B : Nat → Int} {n : Nat} {s : TS} (h : tsOK n s) : tsOK n (advS B n s) := by
  obtain ⟨h1, h2, h3, h4⟩ := h
  obtain ⟨t1, t2, t3⟩ := tk_bd (B := B) (n := n) (a := s.1.2.2.1) (v := s.1.2.2.2) h2.2 h3.1 h3.2
  exact ⟨t1, t2.2, t3, h4⟩
theorem err_OK {n : Nat} {e : Int} {s : TS} (h : tsOK n s) (e1 : 1 ≤ e) (e3 : e ≤ 3) : tsOK n (errS e s) := by
  unfold errS
  split
  · exact ⟨h.1, h.2.1, h.2.2.1, by show 0 ≤ e; omega, e3⟩
  · exact h
/-- nothing but the reader's own places -/
noncomputable def MKO (w0 w : va_W) : Prop := ∀ c j, ¬ (c = 90 ∧ 8 ≤ j ∧ j ≤ 13) → rd w c j = rd w0 c j
theorem MKO_rf {w : va_W} : MKO w w := fun _ _ _ => rfl
theorem MKO_upd {w0 w w' : va_W} {j : Nat} {v : Value} (h : MKO w0 w) (hu : Upd1 w w' 90 j v) (h8 : 8 ≤ j) (h13 : j ≤ 13) : MKO w0 w' := fun c' j' hn => (upd_ne hu (fun q => hn ⟨q.1, by omega, by omega⟩)).trans (h c' j' hn)
theorem MKO_tko {w0 w w' : va_W} (h : MKO w0 w) (hu : TKO w w') : MKO w0 w' := fun c' j' hn => (hu c' j' (fun q => hn ⟨q.1, q.2.1, by omega⟩)).trans (h c' j' hn)
/-- the reference stands so -/
noncomputable def MSt (n : Nat) (B : Nat → Int) (s : TS) (w : va_W) : Prop := TXM w n B ∧ tsOK n s ∧ rd w 90 10 = some (.int (Int32.ofInt s.1.1)) ∧ rd w 90 9 = some (.int (Int32.ofInt (s.1.2.1 : Int))) ∧ rd w 90 8 = some (.int (Int32.ofInt (s.1.2.2.1 : Int))) ∧ rd w 90 11 = some (.int (Int32.ofInt s.1.2.2.2)) ∧ rd w 90 12 = some (.int (Int32.ofInt s.2.1)) ∧ rd w 90 13 = some (.int (Int32.ofInt s.2.2))
noncomputable def MSQ (ad : Nat → Nat) (tys : List (ClassId × FieldType)) (n : Nat) (B : Nat → Int) (w0 : va_W) (s : TS) (w : va_W) : Prop := GOK ad tys GG w ∧ MSt n B s w ∧ MKO w0 w
theorem advm_ct {n : Nat} {B : Nat → Int} {s : TS} {w0 : va_W} (h : MSQ ad tys n B w0 s ws) : CT l D tys A 213 1 0 0 [.ref (ad 90)] ws (fun r w => r = none ∧ MSQ ad tys n B w0 (advS B n s) w) := by
  obtain ⟨hG, ⟨T, ok, h10, h9, h8, h11, h12, h13⟩, O⟩ := h
  refine CT_post (adm_ct hG T ok.2.1.2 h8 h11) ?_
  rintro r w ⟨rfl, G1, O1, k8, k9, k10, k11⟩
  refine ⟨rfl, G1, ⟨⟨(O1 _ _ (by omega)).trans T.1, T.2.1, fun k hk => ⟨(O1 _ _ (by omega)).trans (T.2.2 k hk).1, (T.2.2 k hk).2⟩⟩, adv_OK ok, k10, k9, k8, k11, ?_, ?_⟩, MKO_tko O O1⟩
  · exact (O1 _ _ (by omega)).trans h12
  · exact (O1 _ _ (by omega)).trans h13
theorem errm_ct {n : Nat} {B : Nat → Int} {s : TS} {w0 : va_W} {e : Int} (h : MSQ ad tys n B w0 s ws) (e1 : 1 ≤ e) (e3 : e ≤ 3) : CT l D tys A 215 1 0 0 [.ref (ad 90), .int (Int32.ofInt e)] ws (fun r w => r = none ∧ MSQ ad tys n B w0 (errS e s) w) := by
  obtain ⟨hG, ⟨T, ok, h10, h9, h8, h11, h12, h13⟩, O⟩ := h
  have ok2 := err_OK ok e1 e3
  obtain ⟨b1, b2, b3, b4⟩ := ok
  have n1 := T.2.1
  refine CT_of_V (by omega) (show (2 : Nat) ≤ mML 215 by decide +kernel) ?_
  refine V_aload (v := ad 90) mi_215_0 (List.Mem.head _) ?_
  refine V_callM (As := []) (st := []) mi_215_1 (by omega) (by decide +kernel) (by decide +kernel) hG (good_ct hG h12 b4.1 b4.2) (by omega) (show 0 = mN 214 by decide +kernel) (by simp) ?_
  rintro r w ⟨rfl, rfl⟩
  unfold errS at ok2 ⊢
  by_cases hf0 : s.2.1 = 0
  · rw [if_pos hf0] at ok2 ⊢
    rw [if_pos hf0]
    refine V_if mi_215_4 (fun _ => ?_) (fun h1 => absurd (show (1 : Int32) ≠ 0 by decide) h1)
    refine V_aload (v := ad 90) mi_215_8 (List.Mem.head _) ?_
    refine V_iload (v := Int32.ofInt e) mi_215_9 (List.Mem.tail _ (List.Mem.head _)) ?_
    have te : (Int32.ofInt e).toInt = e := Int32.toInt_ofInt_of_le (by omega) (by omega)
    refine V_putI mi_215_10 hG f12 (by omega) rfl (by decide +kernel) (by omega) (by omega) (fun w1 G1 U1 => ?_)
    have tr : (Int32.ofInt (s.1.2.1 : Int)).toInt = (s.1.2.1 : Int) := Int32.toInt_ofInt_of_le (by omega) (by omega)
    refine V_aload (v := ad 90) mi_215_13 (List.Mem.head _) ?_
    refine V_aload (v := ad 90) mi_215_14 (List.Mem.head _) ?_
    refine V_getI mi_215_15 G1 ((upd_ne U1 (by omega)).trans h9) ?_
    refine V_putI mi_215_18 G1 f13 (by omega) rfl (by decide +kernel) (by omega) (by omega) (fun w2 G2 U2 => ?_)
    have pp : ∀ j, j ≠ 12 → j ≠ 13 → rd w2 90 j = rd w 90 j := fun j h1 h2 => (upd_ne U2 (fun q => h2 q.2)).trans (upd_ne U1 (fun q => h1 q.2))
    refine V_retV mi_215_21 ⟨rfl, G2, ⟨TXM_upd (TXM_upd T U1 (by omega)) U2 (by omega), ok2, (pp _ (by omega) (by omega)).trans h10, (pp _ (by omega) (by omega)).trans h9, (pp _ (by omega) (by omega)).trans h8, (pp _ (by omega) (by omega)).trans h11, ?_, upd_eq U2⟩, MKO_upd (MKO_upd O U1 (by omega) (by omega)) U2 (by omega) (by omega)⟩
    rw [upd_ne U2 (by omega)]
    exact upd_eq U1
  · rw [if_neg hf0] at ok2 ⊢
    rw [if_neg hf0]
    refine V_if mi_215_4 (fun h1 => absurd (show (0 : Int32) = 0 from rfl) h1) (fun _ => ?_)
    exact V_retV mi_215_7 ⟨rfl, hG, ⟨T, ok2, h10, h9, h8, h11, h12, h13⟩, O⟩
theorem ism_ct {i : Nat} {q : String × Nat × String × List Int32} (hq : xsT[i]? = some q) (hl : q.2.2.2.length ≤ 9) (hl1 : 1 ≤ q.2.2.2.length) {n : Nat} {B : Nat → Int} {s : TS} {w0 : va_W} (h : MSQ ad tys n B w0 s ws) : CT l D tys A 216 4 0 0 [.ref (ad 90), .ref (D.2 1000 i)] ws (fun r w' => w' = ws ∧ r = some (.int (bI (isSp B n q.2.2.2 s)))) := by
  obtain ⟨hG, ⟨T, ok, h10, h9, h8, h11, h12, h13⟩, O⟩ := h
  obtain ⟨b1, b2, b3, b4⟩ := ok
  exact isx_ct hq hl hl1 hG T h12 b4.1 b4.2 h10 b1.1 b1.2 h8 h9 b2.2 b2.1
theorem bI1 {b : Bool} : bI b &&& 1 = bI b := by cases b <;> decide
theorem takem_ct {i : Nat} {q : String × Nat × String × List Int32} (hq : xsT[i]? = some q) (hl : q.2.2.2.length ≤ 9) (hl1 : 1 ≤ q.2.2.2.length) {n : Nat} {B : Nat → Int} {s : TS} {w0 : va_W} (h : MSQ ad tys n B w0 s ws) : CT l D tys A 217 5 0 0 [.ref (ad 90), .ref (D.2 1000 i)] ws (fun r w => r = some (.int (bI (isSp B n q.2.2.2 s))) ∧ MSQ ad tys n B w0 (takeS B n q.2.2.2 s) w) := by
  refine CT_of_V (by omega) (show (2 : Nat) ≤ mML 217 by decide +kernel) ?_
  refine V_aload (v := ad 90) mi_217_0 (List.Mem.head _) ?_
  refine V_aload (v := D.2 1000 i) mi_217_1 (List.Mem.tail _ (List.Mem.head _)) ?_
  refine V_callM (As := [.ref (D.2 1000 i)]) (st := []) mi_217_2 (by omega) (by decide +kernel) (by decide +kernel) h.1 (ism_ct hq hl hl1 h) (by omega) (show 1 = mN 216 by decide +kernel) (by simp) ?_
  rintro r w ⟨rfl, rfl⟩
  refine V_istore mi_217_5 ?_
  refine V_iload (v := bI (isSp B n q.2.2.2 s)) mi_217_6 (by simp [stL]) ?_
  unfold takeS
  by_cases hb : isSp B n q.2.2.2 s = true
  · rw [hb, if_pos rfl]
    refine V_if mi_217_7 (fun h1 => absurd (show (1 : Int32) = 0 from h1) (by decide)) (fun _ => ?_)
    refine V_aload (v := ad 90) mi_217_10 (by simp [stL, lv_args, Value.category]) ?_
    refine V_callM (As := []) (st := []) mi_217_11 (by omega) (by decide +kernel) (by decide +kernel) h.1 (advm_ct h) (by omega) (show 0 = mN 213 by decide +kernel) (by simp) ?_
    rintro r w1 ⟨rfl, h1⟩
    refine V_iload (v := bI true) mi_217_14 (by simp [stL, lv_args, Value.category]) ?_
    exact V_retI mi_217_15 (fun _ => by decide) ⟨rfl, h1⟩
  · have hb := Bool.eq_false_iff.mpr hb
    rw [hb, if_neg (by decide)]
    refine V_if mi_217_7 (fun _ => ?_) (fun h1 => absurd (show (0 : Int32) = 0 from rfl) h1)
    refine V_iload (v := bI false) mi_217_14 (by simp [stL, lv_args, Value.category]) ?_
    exact V_retI mi_217_15 (fun _ => by decide) ⟨rfl, h⟩
theorem needm_ct {i : Nat} {q : String × Nat × String × List Int32} (hq : xsT[i]? = some q) (hl : q.2.2.2.length ≤ 9) (hl1 : 1 ≤ q.2.2.2.length) {n : Nat} {B : Nat → Int} {s : TS} {w0 : va_W} (h : MSQ ad tys n B w0 s ws) : CT l D tys A 218 6 0 0 [.ref (ad 90), .ref (D.2 1000 i)] ws (fun r w => r = none ∧ MSQ ad tys n B w0 (needS B n q.2.2.2 s) w) := by
  refine CT_of_V (by omega) (show (2 : Nat) ≤ mML 218 by decide +kernel) ?_
  refine V_aload (v := ad 90) mi_218_0 (List.Mem.head _) ?_
  refine V_aload (v := D.2 1000 i) mi_218_1 (List.Mem.tail _ (List.Mem.head _)) ?_
  refine V_callM (As := [.ref (D.2 1000 i)]) (st := []) mi_218_2 (by omega) (by decide +kernel) (by decide +kernel) h.1 (takem_ct hq hl hl1 h) (by omega) (show 1 = mN 217 by decide +kernel) (by simp) ?_
  rintro r w ⟨rfl, h1⟩
  unfold takeS at h1
  unfold needS
  by_cases hb : isSp B n q.2.2.2 s = true
  · rw [if_pos hb] at h1 ⊢
    rw [hb]
    refine V_if mi_218_5 (fun _ => ?_) (fun h1 => absurd (show (1 : Int32) ≠ 0 by decide) h1)
    exact V_retV mi_218_13 ⟨rfl, h1⟩
  · rw [if_neg hb] at h1 ⊢
    rw [Bool.eq_false_iff.mpr hb]
    refine V_if mi_218_5 (fun h1 => absurd (show (0 : Int32) = 0 from rfl) h1) (fun _ => ?_)
    refine V_aload (v := ad 90) mi_218_8 (List.Mem.head _) ?_
    refine V_ipush mi_218_9 ?_
    refine V_callM (As := [.int (Int32.ofInt 1)]) (st := []) mi_218_10 (by omega) (by decide +kernel) (by decide +kernel) h1.1 (errm_ct h1 (by omega) (by omega)) (by omega) (show 1 = mN 215 by decide +kernel) (by simp) ?_
    rintro r w1 ⟨rfl, h2⟩
    exact V_retV mi_218_13 ⟨rfl, h2⟩
end TKS
section TKR
variable {l : Launch} {D : va_G} {tys : List (ClassId × FieldType)} {A : Nat → Prop} {ad : Nat → Nat} {ws : va_W}
theorem inM2 {m lo hi : Int} (h1 : -2147483648 ≤ m) (h2 : m ≤ 2147483647) (a1 : -2147483648 ≤ lo) (a2 : lo ≤ 2147483647) (b1 : -2147483648 ≤ hi) (b2 : hi ≤ 2147483647) : CT l D tys A 193 0 0 0 [.long (Int64.ofInt m), .long (Int64.ofInt lo), .long (Int64.ofInt hi)] ws (fun r w => w = ws ∧ r = some (.int (bI (decide (lo ≤ m ∧ m ≤ hi))))) := by
  refine CT_post (in2_ct (v := m) (lo := lo) (hi := hi) (by omega) (by omega) (by omega) (by omega) (by omega) (by omega)) (fun r w h => ⟨h.1, ?_⟩)
  rcases h.2 with ⟨e, q1, q2⟩ | ⟨e, q⟩
  · rw [e, decide_eq_true ⟨q1, q2⟩]; rfl
  · rw [e, decide_eq_false q]; rfl
noncomputable def LNu (ad : Nat → Nat) (lo hi : Int) : List (Nat × Value) := [(0, .ref (ad 90)), (1, .int (Int32.ofInt lo)), (2, .int (Int32.ofInt hi))]
theorem num_47 {n : Nat} {B : Nat → Int} {s : TS} {w0 w : va_W} {lo hi : Int} (h : MSQ ad tys n B w0 s w) : V l D tys A 219 2 0 0 (fun r w => r = some (.int (Int32.ofInt (if s.2.1 = 0 then s.1.2.2.2 else 0))) ∧ MSQ ad tys n B w0 (if s.2.1 = 0 then advS B n s else s) w) 0 0 47 (LNu ad lo hi) [] w := by
  have h' := h
  obtain ⟨hG, ⟨T, ok, h10, h9, h8, h11, h12, h13⟩, O⟩ := h'
  obtain ⟨b1, b2, b3, b4⟩ := ok
  refine V_aload (v := ad 90) mi_219_47 (List.Mem.head _) ?_
  refine V_callM (As := []) (st := []) mi_219_48 (by omega) (by decide +kernel) (by decide +kernel) hG (good_ct hG h12 b4.1 b4.2) (by omega) (show 0 = mN 214 by decide +kernel) (by simp) ?_
  rintro r w1 ⟨rfl, rfl⟩
  by_cases hf : s.2.1 = 0
  · rw [if_pos hf, if_pos hf, if_pos hf]
    refine V_if mi_219_51 (fun _ => ?_) (fun h1 => absurd (show (1 : Int32) ≠ 0 by decide) h1)
    refine V_aload (v := ad 90) mi_219_56 (List.Mem.head _) ?_
    refine V_getI mi_219_57 hG h11 ?_
    refine V_istore mi_219_60 ?_
    refine V_aload (v := ad 90) mi_219_61 (by simp [stL, LNu, Value.category]) ?_
    refine V_callM (As := []) (st := []) mi_219_62 (by omega) (by decide +kernel) (by decide +kernel) h.1 (advm_ct h) (by omega) (show 0 = mN 213 by decide +kernel) (by simp) ?_
    rintro r w2 ⟨rfl, h1⟩
    refine V_iload (v := Int32.ofInt s.1.2.2.2) mi_219_65 (by simp [stL, LNu, Value.category]) ?_
    exact V_retI mi_219_66 (fun q => absurd q (by decide +kernel)) ⟨rfl, h1⟩
  · rw [if_neg hf, if_neg hf, if_neg hf]
    refine V_if mi_219_51 (fun h1 => absurd (show (0 : Int32) = 0 from rfl) h1) (fun _ => ?_)
    refine V_ipush mi_219_54 ?_
    exact V_retI mi_219_55 (fun q => absurd q (by decide +kernel)) ⟨rfl, h⟩
theorem num_20 {n : Nat} {B : Nat → Int} {s : TS} {w0 w : va_W} {lo hi : Int} (a1 : -2147483648 ≤ lo) (a2 : lo ≤ 2147483647) (c1 : -2147483648 ≤ hi) (c2 : hi ≤ 2147483647) (h : MSQ ad tys n B w0 s w) (post : Option Value → va_W → Prop) (kk : ∀ w' : va_W, MSQ ad tys n B w0 (if s.2.1 = 0 ∧ ¬ (lo ≤ s.1.2.2.2 ∧ s.1.2.2.2 ≤ hi) then errS 2 s else s) w' → V l D tys A 219 2 0 0 post 0 0 47 (LNu ad lo hi) [] w') : V l D tys A 219 2 0 0 post 0 0 20 (LNu ad lo hi) [] w := by
  have h' := h
  obtain ⟨hG, ⟨T, ok, h10, h9, h8, h11, h12, h13⟩, O⟩ := h'
  obtain ⟨b1, b2, b3, b4⟩ := ok
  refine V_aload (v := ad 90) mi_219_20 (List.Mem.head _) ?_
  refine V_callM (As := []) (st := []) mi_219_21 (by omega) (by decide +kernel) (by decide +kernel) hG (good_ct hG h12 b4.1 b4.2) (by omega) (show 0 = mN 214 by decide +kernel) (by simp) ?_
  rintro r w1 ⟨rfl, rfl⟩
  by_cases hf : s.2.1 = 0
  · rw [if_pos hf]
    refine V_if mi_219_24 (fun h1 => absurd (show (1 : Int32) = 0 from h1) (by decide)) (fun _ => ?_)
    refine V_aload (v := ad 90) mi_219_27 (List.Mem.head _) ?_
    refine V_getI mi_219_28 hG h11 ?_
    refine V_i2l mi_219_31 ?_
    rw [Int32.toInt64_ofInt b3.1 b3.2]
    refine V_iload (v := Int32.ofInt lo) mi_219_32 (by simp [LNu]) ?_
    refine V_i2l mi_219_33 ?_
    rw [Int32.toInt64_ofInt a1 a2]
    refine V_iload (v := Int32.ofInt hi) mi_219_34 (by simp [LNu]) ?_
    refine V_i2l mi_219_35 ?_
    rw [Int32.toInt64_ofInt c1 c2]
    refine V_stat (As := [.long (Int64.ofInt s.1.2.2.2), .long (Int64.ofInt lo), .long (Int64.ofInt hi)]) (st := []) mi_219_36 (by omega) (inM2 b3.1 b3.2 a1 a2 c1 c2) (by omega) (show 3 = mN 193 by decide +kernel) (by simp) ⟨Nat.le_refl _, Nat.le_refl _⟩ ?_
    rintro r w2 ⟨rfl, rfl⟩
    by_cases hi' : lo ≤ s.1.2.2.2 ∧ s.1.2.2.2 ≤ hi
    · rw [if_neg (fun q => q.2 hi')] at kk
      rw [decide_eq_true hi']
      exact V_if mi_219_39 (fun _ => kk _ h) (fun h1 => absurd (show (1 : Int32) ≠ 0 by decide) h1)
    · rw [if_pos ⟨hf, hi'⟩] at kk
      rw [decide_eq_false hi']
      refine V_if mi_219_39 (fun h1 => absurd (show (0 : Int32) = 0 from rfl) h1) (fun _ => ?_)
      refine V_aload (v := ad 90) mi_219_42 (List.Mem.head _) ?_
      refine V_ipush mi_219_43 ?_
      refine V_callM (As := [.int (Int32.ofInt 2)]) (st := []) mi_219_44 (by omega) (by decide +kernel) (by decide +kernel) h.1 (errm_ct h (by omega) (by omega)) (by omega) (show 1 = mN 215 by decide +kernel) (by simp) ?_
      rintro r w1 ⟨rfl, h2⟩
      exact kk _ h2
  · rw [if_neg hf]
    rw [if_neg (fun q => hf q.1)] at kk
    exact V_if mi_219_24 (fun _ => kk _ h) (fun h1 => absurd (show (0 : Int32) = 0 from rfl) h1)
theorem numm_ct {n : Nat} {B : Nat → Int} {s : TS} {w0 : va_W} {lo hi : Int} (a1 : -2147483648 ≤ lo) (a2 : lo ≤ 2147483647) (c1 : -2147483648 ≤ hi) (c2 : hi ≤ 2147483647) (h : MSQ ad tys n B w0 s ws) : CT l D tys A 219 2 0 0 [.ref (ad 90), .int (Int32.ofInt lo), .int (Int32.ofInt hi)] ws (fun r w => r = some (.int (Int32.ofInt (numR lo hi s))) ∧ MSQ ad tys n B w0 (numT B n lo hi s) w) := by
  have h' := h
  obtain ⟨hG, ⟨T, ok, h10, h9, h8, h11, h12, h13⟩, O⟩ := h'
  obtain ⟨b1, b2, b3, b4⟩ := ok
  refine CT_of_V (by omega) (show (3 : Nat) ≤ mML 219 by decide +kernel) ?_
  have fin : ∀ w : va_W, MSQ ad tys n B w0 (num1 s) w → V l D tys A 219 2 0 0 (fun r w => r = some (.int (Int32.ofInt (numR lo hi s))) ∧ MSQ ad tys n B w0 (numT B n lo hi s) w) 0 0 20 (LNu ad lo hi) [] w := by
    intro w hw
    refine num_20 a1 a2 c1 c2 hw _ (fun w' hw' => ?_)
    exact num_47 (s := num2 lo hi s) hw'
  refine V_aload (v := ad 90) mi_219_0 (List.Mem.head _) ?_
  refine V_callM (As := []) (st := []) mi_219_1 (by omega) (by decide +kernel) (by decide +kernel) hG (good_ct hG h12 b4.1 b4.2) (by omega) (show 0 = mN 214 by decide +kernel) (by simp) ?_
  rintro r w1 ⟨rfl, rfl⟩
  have sub : ∀ w : va_W, MSQ ad tys n B w0 (num1 s) w → V l D tys A 219 2 0 0 (fun r w => r = some (.int (Int32.ofInt (numR lo hi s))) ∧ MSQ ad tys n B w0 (numT B n lo hi s) w) 0 0 20 (lv_args 0 [.ref (ad 90), .int (Int32.ofInt lo), .int (Int32.ofInt hi)]) [] w := by
    intro w hw
    refine V_sub (lv' := LNu ad lo hi) (fun p hp => ?_) (fin w hw)
    simp only [LNu, List.mem_cons, List.not_mem_nil, or_false] at hp
    rcases hp with h | h | h <;> simp [h, LNu, stL, lv_args, Value.category]
  by_cases hf : s.2.1 = 0
  · rw [if_pos hf]
    refine V_if mi_219_4 (fun h1 => absurd (show (1 : Int32) = 0 from h1) (by decide)) (fun _ => ?_)
    refine V_aload (v := ad 90) mi_219_7 (List.Mem.head _) ?_
    refine V_getI mi_219_8 hG h10 ?_
    refine V_ipush mi_219_11 ?_
    have hc := cdP_iff (x := 0) (a := s.1.1) (b := 2) (by omega) (by omega) (by omega) (by omega)
    refine V_icmp mi_219_12 (fun h1 => sub _ ?_) (fun h1 => ?_)
    · have : s.1.1 - 2 = 0 := hc.mp h1
      unfold num1
      rw [if_neg (fun q => q.2 (by omega))]
      exact h
    · have : ¬ (s.1.1 - 2 = 0) := fun q => h1 (hc.mpr q)
      refine V_aload (v := ad 90) mi_219_15 (List.Mem.head _) ?_
      refine V_ipush mi_219_16 ?_
      refine V_callM (As := [.int (Int32.ofInt 1)]) (st := []) mi_219_17 (by omega) (by decide +kernel) (by decide +kernel) h.1 (errm_ct h (by omega) (by omega)) (by omega) (show 1 = mN 215 by decide +kernel) (by simp) ?_
      rintro r w1 ⟨rfl, h2⟩
      refine sub _ ?_
      unfold num1
      rw [if_pos ⟨hf, by omega⟩]
      exact h2
  · rw [if_neg hf]
    refine V_if mi_219_4 (fun _ => sub _ ?_) (fun h1 => absurd (show (0 : Int32) = 0 from rfl) h1)
    unfold num1
    rw [if_neg (fun q => hf q.1)]
    exact h
end TKR
section TKF
variable {l : Launch} {D : va_G} {tys : List (ClassId × FieldType)} {A : Nat → Prop} {ad : Nat → Nat} {ws : va_W}
noncomputable def toldT (B : Nat → Int) (n : Nat) (cs : List Int32) (lo hi : Int) (s : TS) : TS := numT B n lo hi (needS B n cs s)
noncomputable def toldR (B : Nat → Int) (n : Nat) (cs : List Int32) (lo hi : Int) (s : TS) : Int := numR lo hi (needS B n cs s)
theorem toldm_ct {i : Nat} {q : String × Nat × String × List Int32} (hq : xsT[i]? = some q) (hl : q.2.2.2.length ≤ 9) (hl1 : 1 ≤ q.2.2.2.length) {n : Nat} {B : Nat → Int} {s : TS} {w0 : va_W} {lo hi : Int} (a1 : -2147483648 ≤ lo) (a2 : lo ≤ 2147483647) (c1 : -2147483648 ≤ hi) (c2 : hi ≤ 2147483647) (h : MSQ ad tys n B w0 s ws) : CT l D tys A 220 7 0 0 [.ref (ad 90), .ref (D.2 1000 i), .int (Int32.ofInt lo), .int (Int32.ofInt hi)] ws (fun r w => r = some (.int (Int32.ofInt (toldR B n q.2.2.2 lo hi s))) ∧ MSQ ad tys n B w0 (toldT B n q.2.2.2 lo hi s) w) := by
  refine CT_of_V (by omega) (show (4 : Nat) ≤ mML 220 by decide +kernel) ?_
  refine V_aload (v := ad 90) mi_220_0 (List.Mem.head _) ?_
  refine V_aload (v := D.2 1000 i) mi_220_1 (List.Mem.tail _ (List.Mem.head _)) ?_
  refine V_callM (As := [.ref (D.2 1000 i)]) (st := []) mi_220_2 (by omega) (by decide +kernel) (by decide +kernel) h.1 (needm_ct hq hl hl1 h) (by omega) (show 1 = mN 218 by decide +kernel) (by simp) ?_
  rintro r w ⟨rfl, h1⟩
  refine V_aload (v := ad 90) mi_220_5 (List.Mem.head _) ?_
  refine V_iload (v := Int32.ofInt lo) mi_220_6 (by simp [lv_args, Value.category]) ?_
  refine V_iload (v := Int32.ofInt hi) mi_220_7 (by simp [lv_args, Value.category]) ?_
  refine V_callM (As := [.int (Int32.ofInt lo), .int (Int32.ofInt hi)]) (st := []) mi_220_8 (by omega) (by decide +kernel) (by decide +kernel) h1.1 (numm_ct a1 a2 c1 c2 h1) (by omega) (show 2 = mN 219 by decide +kernel) (by simp) ?_
  rintro r w2 ⟨rfl, h2⟩
  exact V_retI mi_220_11 (fun q => absurd q (by decide +kernel)) ⟨rfl, h2⟩
/-- what the reference has read so far -/
noncomputable def FRS (fr td : Nat → Int) (w : va_W) : Prop := (∀ j, j < 294 → rd w 96 j = some (.int (Int32.ofInt (fr j))) ∧ 0 ≤ fr j ∧ fr j ≤ 4095) ∧ (∀ j, j < 144 → rd w 97 j = some (.int (Int32.ofInt (td j))))
noncomputable def MK2 (w0 w : va_W) : Prop := ∀ c j, ¬ (c = 96 ∨ c = 97 ∨ (c = 90 ∧ 8 ≤ j ∧ j ≤ 13)) → rd w c j = rd w0 c j
noncomputable def MSF (ad : Nat → Nat) (tys : List (ClassId × FieldType)) (n : Nat) (B : Nat → Int) (fr td : Nat → Int) (w0 : va_W) (s : TS) (w : va_W) : Prop := GOK ad tys GG w ∧ MSt n B s w ∧ FRS fr td w ∧ MK2 w0 w
theorem MSF_q {n : Nat} {B fr td : Nat → Int} {w0 w : va_W} {s : TS} (h : MSF ad tys n B fr td w0 s w) : MSQ ad tys n B w s w := ⟨h.1, h.2.1, MKO_rf⟩
theorem MSF_of {n : Nat} {B fr td : Nat → Int} {w0 w w2 : va_W} {s s2 : TS} (h : MSF ad tys n B fr td w0 s w) (h2 : MSQ ad tys n B w s2 w2) : MSF ad tys n B fr td w0 s2 w2 := by
  obtain ⟨G2, S2, O2⟩ := h2
  obtain ⟨-, -, ⟨f1, f2⟩, O⟩ := h
  refine ⟨G2, S2, ⟨fun j hj => ⟨(O2 _ _ (by omega)).trans (f1 j hj).1, (f1 j hj).2⟩, fun j hj => (O2 _ _ (by omega)).trans (f2 j hj)⟩, fun c j hn => (O2 _ _ (by omega)).trans (O c j hn)⟩
theorem V_fresh {k pc d j : Nat} {lv : List (Nat × Value)} {st : List Value} {post : Option Value → va_W → Prop} {n : Nat} {B fr td : Nat → Int} {w0 w : va_W} {s : TS} {a x : Int} (h : MSF ad tys n B fr td w0 s w) (hj : j < 294) {ix : Int32} (hix : ix = Int32.ofInt (j : Int)) (hi : mI k pc = (19, 0, 0, 0, 0)) (kk : V l D tys A k d 0 0 post 0 0 (pc + 1) lv (.int (Int32.ofInt (fr j)) :: st) w) : V l D tys A k d 0 0 post 0 0 pc lv (.int ix :: .ref (ad 96) :: st) w := by
  obtain ⟨s96, e96, -, -, -, -⟩ := gf96
  exact V_aldX hi hix h.1 e96 hj (by omega) (h.2.2.1.1 j hj).1 kk
noncomputable def folkT (B : Nat → Int) (n : Nat) (fr : Nat → Int) (s : TS) : TS := numT B n 0 (fr 3 - 1) s
noncomputable def folkR (fr : Nat → Int) (s : TS) : Int := numR 0 (fr 3 - 1) s
noncomputable def hourT (B : Nat → Int) (n : Nat) (fr : Nat → Int) (s : TS) : TS := numT B n 0 (fr 2 - 1) s
noncomputable def hourR (fr : Nat → Int) (s : TS) : Int := numR 0 (fr 2 - 1) s
theorem folkm_ct {n : Nat} {B fr td : Nat → Int} {s : TS} {w0 : va_W} (h : MSF ad tys n B fr td w0 s ws) : CT l D tys A 222 3 0 0 [.ref (ad 90)] ws (fun r w => r = some (.int (Int32.ofInt (folkR fr s))) ∧ MSF ad tys n B fr td w0 (folkT B n fr s) w) := by
  obtain ⟨-, b0, b1⟩ := h.2.2.1.1 3 (by omega)
  refine CT_of_V (by omega) (show (1 : Nat) ≤ mML 222 by decide +kernel) ?_
  refine V_aload (v := ad 90) mi_222_0 (List.Mem.head _) ?_
  refine V_ipush mi_222_1 ?_
  refine V_aload (v := ad 90) mi_222_2 (List.Mem.head _) ?_
  refine V_getI mi_222_3 h.1 (rref gr14 (by omega) h.1) ?_
  refine V_ipush mi_222_6 ?_
  refine V_fresh (a := 0) (x := 0) h (j := 3) (by omega) rfl mi_222_7 ?_
  refine V_ipush mi_222_8 ?_
  refine V_ibin mi_222_9 (by omega) ?_
  rw [show ibF 1 (Int32.ofInt (fr 3)) (Int32.ofInt 1) = Int32.ofInt (fr 3 - 1) by show Int32.ofInt (fr 3) - Int32.ofInt 1 = _; rw [← Int32.ofInt_sub]]
  refine V_callM (As := [.int (Int32.ofInt 0), .int (Int32.ofInt (fr 3 - 1))]) (st := []) mi_222_10 (by omega) (by decide +kernel) (by decide +kernel) h.1 (numm_ct (by omega) (by omega) (by omega) (by omega) (MSF_q h)) (by omega) (show 2 = mN 219 by decide +kernel) (by simp) ?_
  rintro r w2 ⟨rfl, h2⟩
  exact V_retI mi_222_13 (fun q => absurd q (by decide +kernel)) ⟨rfl, MSF_of h h2⟩
theorem hourm_ct {n : Nat} {B fr td : Nat → Int} {s : TS} {w0 : va_W} (h : MSF ad tys n B fr td w0 s ws) : CT l D tys A 224 3 0 0 [.ref (ad 90)] ws (fun r w => r = some (.int (Int32.ofInt (hourR fr s))) ∧ MSF ad tys n B fr td w0 (hourT B n fr s) w) := by
  obtain ⟨-, b0, b1⟩ := h.2.2.1.1 2 (by omega)
  refine CT_of_V (by omega) (show (1 : Nat) ≤ mML 224 by decide +kernel) ?_
  refine V_aload (v := ad 90) mi_224_0 (List.Mem.head _) ?_
  refine V_ipush mi_224_1 ?_
  refine V_aload (v := ad 90) mi_224_2 (List.Mem.head _) ?_
  refine V_getI mi_224_3 h.1 (rref gr14 (by omega) h.1) ?_
  refine V_ipush mi_224_6 ?_
  refine V_fresh (a := 0) (x := 0) h (j := 2) (by omega) rfl mi_224_7 ?_
  refine V_ipush mi_224_8 ?_
  refine V_ibin mi_224_9 (by omega) ?_
  rw [show ibF 1 (Int32.ofInt (fr 2)) (Int32.ofInt 1) = Int32.ofInt (fr 2 - 1) by show Int32.ofInt (fr 2) - Int32.ofInt 1 = _; rw [← Int32.ofInt_sub]]
  refine V_callM (As := [.int (Int32.ofInt 0), .int (Int32.ofInt (fr 2 - 1))]) (st := []) mi_224_10 (by omega) (by decide +kernel) (by decide +kernel) h.1 (numm_ct (by omega) (by omega) (by omega) (by omega) (MSF_q h)) (by omega) (show 2 = mN 219 by decide +kernel) (by simp) ?_
  rintro r w2 ⟨rfl, h2⟩
  exact V_retI mi_224_13 (fun q => absurd q (by decide +kernel)) ⟨rfl, MSF_of h h2⟩
noncomputable def whichT (B : Nat → Int) (n : Nat) (fr : Nat → Int) (f : Nat) (s : TS) : TS := numT B n 0 (fr (6 + 7 * f) - 1) s
noncomputable def whichR (fr : Nat → Int) (f : Nat) (s : TS) : Int := numR 0 (fr (6 + 7 * f) - 1) s
theorem whichm_ct {n f : Nat} {B fr td : Nat → Int} {s : TS} {w0 : va_W} (hf : f < 6) (h : MSF ad tys n B fr td w0 s ws) : CT l D tys A 227 3 0 0 [.ref (ad 90), .int (Int32.ofInt (f : Int))] ws (fun r w => r = some (.int (Int32.ofInt (whichR fr f s))) ∧ MSF ad tys n B fr td w0 (whichT B n fr f s) w) := by
  obtain ⟨-, b0, b1⟩ := h.2.2.1.1 (6 + 7 * f) (by omega)
  refine CT_of_V (by omega) (show (2 : Nat) ≤ mML 227 by decide +kernel) ?_
  refine V_aload (v := ad 90) mi_227_0 (List.Mem.head _) ?_
  refine V_ipush mi_227_1 ?_
  refine V_aload (v := ad 90) mi_227_2 (List.Mem.head _) ?_
  refine V_getI mi_227_3 h.1 (rref gr14 (by omega) h.1) ?_
  refine V_ipush mi_227_6 ?_
  refine V_ipush mi_227_8 ?_
  refine V_iload (v := Int32.ofInt (f : Int)) mi_227_10 (by simp [lv_args, Value.category]) ?_
  refine V_ibin mi_227_11 (by omega) ?_
  refine V_ibin mi_227_12 (by omega) ?_
  have ei : ibF 0 (Int32.ofInt 6) (ibF 2 (Int32.ofInt 7) (Int32.ofInt (f : Int))) = Int32.ofInt (((6 + 7 * f : Nat)) : Int) := by
    show Int32.ofInt 6 + Int32.ofInt 7 * Int32.ofInt (f : Int) = _
    rw [← Int32.ofInt_mul, ← Int32.ofInt_add]
    congr 1
  refine V_fresh (a := 0) (x := 0) h (j := 6 + 7 * f) (by omega) ei mi_227_13 ?_
  refine V_ipush mi_227_14 ?_
  refine V_ibin mi_227_15 (by omega) ?_
  rw [show ibF 1 (Int32.ofInt (fr (6 + 7 * f))) (Int32.ofInt 1) = Int32.ofInt (fr (6 + 7 * f) - 1) by show Int32.ofInt (fr (6 + 7 * f)) - Int32.ofInt 1 = _; rw [← Int32.ofInt_sub]]
  refine V_callM (As := [.int (Int32.ofInt 0), .int (Int32.ofInt (fr (6 + 7 * f) - 1))]) (st := []) mi_227_16 (by omega) (by decide +kernel) (by decide +kernel) h.1 (numm_ct (by omega) (by omega) (by omega) (by omega) (MSF_q h)) (by omega) (show 2 = mN 219 by decide +kernel) (by simp) ?_
  rintro r w2 ⟨rfl, h2⟩
  exact V_retI mi_227_19 (fun q => absurd q (by decide +kernel)) ⟨rfl, MSF_of h h2⟩
end TKF
section TKG
variable {l : Launch} {D : va_G} {tys : List (ClassId × FieldType)} {A : Nat → Prop} {ad : Nat → Nat} {ws : va_W}
theorem gf96b : ∃ s, GG[96]? = some ((1, 0, 294), s) ∧ segAt s 0 = some (0, 0, 9) ∧ segAt s 1 = some (0, 0, 4) ∧ segAt s 2 = some (0, 0, 24) := ⟨_, rfl, by decide +kernel, by decide +kernel, by decide +kernel⟩
noncomputable def updI (g : Nat → Int) (j : Nat) (z : Int) : Nat → Int := fun i => if i = j then z else g i
theorem numR_bd {lo hi : Int} {s : TS} : numR lo hi s = 0 ∨ (lo ≤ numR lo hi s ∧ numR lo hi s ≤ hi) := by
  unfold numR
  split
  · next h =>
    right
    unfold num2 at h ⊢
    split
    · next q => rw [if_pos q] at h; unfold errS at h; rw [if_pos q.1] at h; exact absurd h (show ¬ ((2 : Int) = 0) by decide)
    · next q =>
      rw [if_neg q] at h
      by_cases hh : lo ≤ (num1 s).1.2.2.2 ∧ (num1 s).1.2.2.2 ≤ hi
      · exact hh
      · exact absurd ⟨h, hh⟩ q
  · exact Or.inl rfl
theorem V_fst {k pc d j : Nat} {lv : List (Nat × Value)} {st : List Value} {post : Option Value → va_W → Prop} {n : Nat} {B fr td : Nat → Int} {w0 w : va_W} {s : TS} {segs : List SG} {lo hi z : Int} (h : MSF ad tys n B fr td w0 s w) (hg : GG[96]? = some ((1, 0, 294), segs)) (hj : j < 294) {ix : Int32} (hix : ix = Int32.ofInt (j : Int)) (hi0 : mI k pc = (20, 0, 0, 0, 0)) (hs : segAt segs j = some (0, lo, hi)) (h1 : lo ≤ z) (h2 : z ≤ hi) (z0 : 0 ≤ z) (z1 : z ≤ 4095) (kk : ∀ w' : va_W, MSF ad tys n B (updI fr j z) td w0 s w' → V l D tys A k d 0 0 post 0 0 (pc + 1) lv st w') : V l D tys A k d 0 0 post 0 0 pc lv (.int (Int32.ofInt z) :: .int ix :: .ref (ad 96) :: st) w := by
  have tz : (Int32.ofInt z).toInt = z := Int32.toInt_ofInt_of_le (by omega) (by omega)
  refine V_astX hi0 hix h.1 hg hj (by omega) hs (by omega) (by omega) (fun w' G' U => kk w' ?_)
  obtain ⟨-, ⟨T, ok, h10, h9, h8, h11, h12, h13⟩, ⟨f1, f2⟩, O⟩ := h
  have o : ∀ c i, c ≠ 96 → rd w' c i = rd w c i := fun c i hc => upd_ne U (fun q => hc q.1)
  refine ⟨G', ⟨⟨(o _ _ (by omega)).trans T.1, T.2.1, fun k hk => ⟨(o _ _ (by omega)).trans (T.2.2 k hk).1, (T.2.2 k hk).2⟩⟩, ok, (o _ _ (by omega)).trans h10, (o _ _ (by omega)).trans h9, (o _ _ (by omega)).trans h8, (o _ _ (by omega)).trans h11, (o _ _ (by omega)).trans h12, (o _ _ (by omega)).trans h13⟩, ⟨fun i hi => ?_, fun i hi => (o _ _ (by omega)).trans (f2 i hi)⟩, fun c i hn => (o _ _ (fun q => hn (Or.inl q))).trans (O c i hn)⟩
  unfold updI
  by_cases e : i = j
  · rw [if_pos e, e]
    exact ⟨upd_eq U, z0, z1⟩
  · rw [if_neg e]
    exact ⟨(upd_ne U (fun q => e q.2)).trans (f1 i hi).1, (f1 i hi).2⟩
noncomputable def xHill : List Int32 := (xsT.getD 12 ("", 0, "", [])).2.2.2
noncomputable def xSyll : List Int32 := (xsT.getD 13 ("", 0, "", [])).2.2.2
noncomputable def xPlac : List Int32 := (xsT.getD 14 ("", 0, "", [])).2.2.2
noncomputable def xHour : List Int32 := (xsT.getD 15 ("", 0, "", [])).2.2.2
noncomputable def xAt : List Int32 := (xsT.getD 16 ("", 0, "", [])).2.2.2
theorem xq {i : Nat} (h : i < 24) : xsT[i]? = some (xsT.getD i ("", 0, "", [])) ∧ (xsT.getD i ("", 0, "", [])).2.2.2.length ≤ 9 ∧ 1 ≤ (xsT.getD i ("", 0, "", [])).2.2.2.length := by
  obtain ⟨q, e, l1, l9⟩ := xs_f h
  rw [List.getD_eq_getElem?_getD, e]
  exact ⟨rfl, l9, l1⟩
noncomputable def firA (B : Nat → Int) (n : Nat) (s : TS) : TS := needS B n xHill s
noncomputable def firB (B : Nat → Int) (n : Nat) (s : TS) : TS := toldT B n xSyll 2 9 (firA B n s)
noncomputable def firC (B : Nat → Int) (n : Nat) (s : TS) : TS := toldT B n xPlac 1 4 (firB B n s)
noncomputable def firT (B : Nat → Int) (n : Nat) (s : TS) : TS := toldT B n xHour 1 24 (firC B n s)
noncomputable def firF (B : Nat → Int) (n : Nat) (fr : Nat → Int) (s : TS) : Nat → Int := updI (updI (updI fr 0 (toldR B n xSyll 2 9 (firA B n s))) 1 (toldR B n xPlac 1 4 (firB B n s))) 2 (toldR B n xHour 1 24 (firC B n s))
theorem firm_ct {n : Nat} {B fr td : Nat → Int} {s : TS} {w0 : va_W} (h : MSF ad tys n B fr td w0 s ws) : CT l D tys A 225 8 0 0 [.ref (ad 90)] ws (fun r w => r = none ∧ MSF ad tys n B (firF B n fr s) td w0 (firT B n s) w) := by
  obtain ⟨s96, e96, g0, g1, g2⟩ := gf96b
  obtain ⟨p1, p2, p3⟩ := xq (i := 12) (by omega)
  obtain ⟨q1, q2, q3⟩ := xq (i := 13) (by omega)
  obtain ⟨r1, r2, r3⟩ := xq (i := 14) (by omega)
  obtain ⟨u1, u2, u3⟩ := xq (i := 15) (by omega)
  refine CT_of_V (by omega) (show (1 : Nat) ≤ mML 225 by decide +kernel) ?_
  refine V_aload (v := ad 90) mi_225_0 (List.Mem.head _) ?_
  refine V_ldcS mi_225_1 ?_
  refine V_callM (As := [.ref (D.2 1000 12)]) (st := []) mi_225_3 (by omega) (by decide +kernel) (by decide +kernel) h.1 (needm_ct p1 p2 p3 (MSF_q h)) (by omega) (show 1 = mN 218 by decide +kernel) (by simp) ?_
  rintro r w ⟨rfl, h1⟩
  have h := MSF_of h h1
  refine V_aload (v := ad 90) mi_225_6 (List.Mem.head _) ?_
  refine V_getI mi_225_7 h.1 (rref gr14 (by omega) h.1) ?_
  refine V_ipush mi_225_10 ?_
  refine V_aload (v := ad 90) mi_225_11 (List.Mem.head _) ?_
  refine V_ldcS mi_225_12 ?_
  refine V_ipush mi_225_14 ?_
  refine V_ipush mi_225_15 ?_
  refine V_callM (As := [.ref (D.2 1000 13), .int (Int32.ofInt 2), .int (Int32.ofInt 9)]) (st := [.int (Int32.ofInt 0), .ref (ad 96)]) mi_225_17 (by omega) (by decide +kernel) (by decide +kernel) h.1 (toldm_ct q1 q2 q3 (by omega) (by omega) (by omega) (by omega) (MSF_q h)) (by omega) (show 3 = mN 220 by decide +kernel) (by simp [Value.category]) ?_
  rintro r w ⟨rfl, h1⟩
  have h := MSF_of h h1
  have bd : toldR B n xSyll 2 9 (firA B n s) = 0 ∨ (2 ≤ toldR B n xSyll 2 9 (firA B n s) ∧ toldR B n xSyll 2 9 (firA B n s) ≤ 9) := numR_bd
  refine V_fst (z := toldR B n xSyll 2 9 (firA B n s)) h e96 (j := 0) (by omega) rfl mi_225_20 g0 (by omega) (by omega) (by omega) (by omega) (fun w h => ?_)
  refine V_aload (v := ad 90) mi_225_21 (List.Mem.head _) ?_
  refine V_getI mi_225_22 h.1 (rref gr14 (by omega) h.1) ?_
  refine V_ipush mi_225_25 ?_
  refine V_aload (v := ad 90) mi_225_26 (List.Mem.head _) ?_
  refine V_ldcS mi_225_27 ?_
  refine V_ipush mi_225_29 ?_
  refine V_ipush mi_225_30 ?_
  refine V_callM (As := [.ref (D.2 1000 14), .int (Int32.ofInt 1), .int (Int32.ofInt 4)]) (st := [.int (Int32.ofInt 1), .ref (ad 96)]) mi_225_31 (by omega) (by decide +kernel) (by decide +kernel) h.1 (toldm_ct r1 r2 r3 (by omega) (by omega) (by omega) (by omega) (MSF_q h)) (by omega) (show 3 = mN 220 by decide +kernel) (by simp [Value.category]) ?_
  rintro r w ⟨rfl, h1⟩
  have h := MSF_of h h1
  have bd : toldR B n xPlac 1 4 (firB B n s) = 0 ∨ (1 ≤ toldR B n xPlac 1 4 (firB B n s) ∧ toldR B n xPlac 1 4 (firB B n s) ≤ 4) := numR_bd
  refine V_fst (z := toldR B n xPlac 1 4 (firB B n s)) h e96 (j := 1) (by omega) rfl mi_225_34 g1 (by omega) (by omega) (by omega) (by omega) (fun w h => ?_)
  refine V_aload (v := ad 90) mi_225_35 (List.Mem.head _) ?_
  refine V_getI mi_225_36 h.1 (rref gr14 (by omega) h.1) ?_
  refine V_ipush mi_225_39 ?_
  refine V_aload (v := ad 90) mi_225_40 (List.Mem.head _) ?_
  refine V_ldcS mi_225_41 ?_
  refine V_ipush mi_225_43 ?_
  refine V_ipush mi_225_44 ?_
  refine V_callM (As := [.ref (D.2 1000 15), .int (Int32.ofInt 1), .int (Int32.ofInt 24)]) (st := [.int (Int32.ofInt 2), .ref (ad 96)]) mi_225_46 (by omega) (by decide +kernel) (by decide +kernel) h.1 (toldm_ct u1 u2 u3 (by omega) (by omega) (by omega) (by omega) (MSF_q h)) (by omega) (show 3 = mN 220 by decide +kernel) (by simp [Value.category]) ?_
  rintro r w ⟨rfl, h1⟩
  have h := MSF_of h h1
  have bd : toldR B n xHour 1 24 (firC B n s) = 0 ∨ (1 ≤ toldR B n xHour 1 24 (firC B n s) ∧ toldR B n xHour 1 24 (firC B n s) ≤ 24) := numR_bd
  refine V_fst (z := toldR B n xHour 1 24 (firC B n s)) h e96 (j := 2) (by omega) rfl mi_225_49 g2 (by omega) (by omega) (by omega) (by omega) (fun w h => ?_)
  exact V_retV mi_225_50 ⟨rfl, h⟩
end TKG
section TKH
variable {l : Launch} {D : va_G} {tys : List (ClassId × FieldType)} {A : Nat → Prop} {ad : Nat → Nat} {ws : va_W}
theorem err_ok {e : Int} {s : TS} (e1 : e ≠ 0) : ¬ (errS e s).2.1 = 0 := by
  unfold errS
  split
  · exact e1
  · assumption
theorem num_ok {B : Nat → Int} {n : Nat} {lo hi : Int} {s : TS} (h : (numT B n lo hi s).2.1 = 0) : s.2.1 = 0 ∧ s.1.1 = 2 ∧ (lo ≤ s.1.2.2.2 ∧ s.1.2.2.2 ≤ hi) ∧ numR lo hi s = s.1.2.2.2 ∧ numT B n lo hi s = advS B n s := by
  have h2 : (num2 lo hi s).2.1 = 0 := by
    unfold numT at h
    split at h
    · assumption
    · exact h
  have h1 : (num1 s).2.1 = 0 ∧ (lo ≤ (num1 s).1.2.2.2 ∧ (num1 s).1.2.2.2 ≤ hi) ∧ num2 lo hi s = num1 s := by
    unfold num2 at h2 ⊢
    split at h2
    · exact absurd h2 (err_ok (by decide))
    · next q =>
      rw [if_neg q]
      refine ⟨h2, ?_, rfl⟩
      by_cases hh : lo ≤ (num1 s).1.2.2.2 ∧ (num1 s).1.2.2.2 ≤ hi
      · exact hh
      · exact absurd ⟨h2, hh⟩ q
  have h0 : s.2.1 = 0 ∧ s.1.1 = 2 ∧ num1 s = s := by
    obtain ⟨h1, -, -⟩ := h1
    unfold num1 at h1 ⊢
    split at h1
    · exact absurd h1 (err_ok (by decide))
    · next q =>
      rw [if_neg q]
      refine ⟨h1, ?_, rfl⟩
      by_cases hh : s.1.1 = 2
      · exact hh
      · exact absurd ⟨h1, hh⟩ q
  have e : num2 lo hi s = s := h1.2.2.trans h0.2.2
  refine ⟨h0.1, h0.2.1, ?_, ?_, ?_⟩
  · have := h1.2.1
    rw [h0.2.2] at this
    exact this
  · unfold numR
    rw [if_pos h2, e]
  · unfold numT
    rw [if_pos h2, e]
theorem need_ok {B : Nat → Int} {n : Nat} {cs : List Int32} {s : TS} (h : (needS B n cs s).2.1 = 0) : s.2.1 = 0 ∧ isSp B n cs s = true ∧ needS B n cs s = advS B n s := by
  unfold needS at h ⊢
  split at h
  · next q => rw [if_pos q]; exact ⟨h, q, rfl⟩
  · exact absurd h (err_ok (by decide))
theorem fr_seg {n : Nat} {B fr td : Nat → Int} {w0 w : va_W} {s : TS} (h : MSF ad tys n B fr td w0 s w) {segs : List SG} {j : Nat} {lo hi : Int} (hg : GG[96]? = some ((1, 0, 294), segs)) (hj : j < 294) (hs : segAt segs j = some (0, lo, hi)) (l0 : -2147483648 ≤ lo) (h0 : hi ≤ 2147483647) : lo ≤ fr j ∧ fr j ≤ hi := by
  obtain ⟨z, e, z1, z2⟩ := cel h.1 hg hj hs
  obtain ⟨e2, b1, b2⟩ := h.2.2.1.1 j hj
  rw [e] at e2
  simp only [Option.some.injEq, Value.int.injEq] at e2
  have t1 : (Int32.ofInt z).toInt = z := Int32.toInt_ofInt_of_le (by omega) (by omega)
  have t2 : (Int32.ofInt (fr j)).toInt = fr j := Int32.toInt_ofInt_of_le (by omega) (by omega)
  rw [e2, t2] at t1
  omega
noncomputable def otheP (f : Int) (s : TS) : TS := if s.2.1 = 0 ∧ s.1.1 = 2 ∧ s.1.2.2.2 = f then errS 2 s else s
noncomputable def otheT (B : Nat → Int) (n : Nat) (fr : Nat → Int) (f : Int) (s : TS) : TS := folkT B n fr (otheP f s)
noncomputable def otheR (fr : Nat → Int) (f : Int) (s : TS) : Int := folkR fr (otheP f s)
theorem othem_ct {n : Nat} {B fr td : Nat → Int} {s : TS} {w0 : va_W} {f : Int} (f0 : -2147483648 ≤ f) (f1 : f ≤ 2147483647) (h : MSF ad tys n B fr td w0 s ws) : CT l D tys A 223 4 0 0 [.ref (ad 90), .int (Int32.ofInt f)] ws (fun r w => r = some (.int (Int32.ofInt (otheR fr f s))) ∧ MSF ad tys n B fr td w0 (otheT B n fr f s) w) := by
  have h' := h
  obtain ⟨hG, ⟨T, ok, h10, h9, h8, h11, h12, h13⟩, -, -⟩ := h'
  obtain ⟨b1, b2, b3, b4⟩ := ok
  refine CT_of_V (by omega) (show (2 : Nat) ≤ mML 223 by decide +kernel) ?_
  have fin : ∀ w : va_W, MSF ad tys n B fr td w0 (otheP f s) w → V l D tys A 223 4 0 0 (fun r w => r = some (.int (Int32.ofInt (otheR fr f s))) ∧ MSF ad tys n B fr td w0 (otheT B n fr f s) w) 0 0 28 (lv_args 0 [.ref (ad 90), .int (Int32.ofInt f)]) [] w := by
    intro w hw
    refine V_aload (v := ad 90) mi_223_28 (List.Mem.head _) ?_
    refine V_callM (As := []) (st := []) mi_223_29 (by omega) (by decide +kernel) (by decide +kernel) hw.1 (folkm_ct hw) (by omega) (show 0 = mN 222 by decide +kernel) (by simp) ?_
    rintro r w2 ⟨rfl, h2⟩
    exact V_retI mi_223_32 (fun q => absurd q (by decide +kernel)) ⟨rfl, h2⟩
  have skip : ¬ (s.2.1 = 0 ∧ s.1.1 = 2 ∧ s.1.2.2.2 = f) → MSF ad tys n B fr td w0 (otheP f s) ws := by
    intro q
    unfold otheP
    rw [if_neg q]
    exact h
  refine V_aload (v := ad 90) mi_223_0 (List.Mem.head _) ?_
  refine V_callM (As := []) (st := []) mi_223_1 (by omega) (by decide +kernel) (by decide +kernel) hG (good_ct hG h12 b4.1 b4.2) (by omega) (show 0 = mN 214 by decide +kernel) (by simp) ?_
  rintro r w1 ⟨rfl, rfl⟩
  by_cases hf : s.2.1 = 0
  · rw [if_pos hf]
    refine V_if mi_223_4 (fun h1 => absurd (show (1 : Int32) = 0 from h1) (by decide)) (fun _ => ?_)
    refine V_aload (v := ad 90) mi_223_7 (List.Mem.head _) ?_
    refine V_getI mi_223_8 hG h10 ?_
    refine V_ipush mi_223_11 ?_
    have hc := cdP_iff (x := 1) (a := s.1.1) (b := 2) (by omega) (by omega) (by omega) (by omega)
    refine V_icmp mi_223_12 (fun h1 => fin _ (skip (fun q => (show s.1.1 - 2 ≠ 0 from hc.mp h1) (by omega)))) (fun h1 => ?_)
    have k2 : s.1.1 = 2 := by
      have : ¬ (s.1.1 - 2 ≠ 0) := fun q => h1 (hc.mpr q)
      omega
    refine V_aload (v := ad 90) mi_223_15 (List.Mem.head _) ?_
    refine V_getI mi_223_16 hG h11 ?_
    refine V_iload (v := Int32.ofInt f) mi_223_19 (by simp [lv_args, Value.category]) ?_
    have t1 : (Int32.ofInt s.1.2.2.2).toInt = s.1.2.2.2 := Int32.toInt_ofInt_of_le (by omega) (by omega)
    have t2 : (Int32.ofInt f).toInt = f := Int32.toInt_ofInt_of_le (by omega) (by omega)
    refine V_icmp mi_223_20 (fun h2 => fin _ (skip (fun q => (show Int32.ofInt s.1.2.2.2 ≠ Int32.ofInt f from h2) (by rw [q.2.2])))) (fun h2 => ?_)
    have e2 : s.1.2.2.2 = f := by
      have : Int32.ofInt s.1.2.2.2 = Int32.ofInt f := Decidable.not_not.mp h2
      rw [this, t2] at t1
      exact t1.symm
    refine V_aload (v := ad 90) mi_223_23 (List.Mem.head _) ?_
    refine V_ipush mi_223_24 ?_
    refine V_callM (As := [.int (Int32.ofInt 2)]) (st := []) mi_223_25 (by omega) (by decide +kernel) (by decide +kernel) h.1 (errm_ct (MSF_q h) (by omega) (by omega)) (by omega) (show 1 = mN 215 by decide +kernel) (by simp) ?_
    rintro r w2 ⟨rfl, h2⟩
    refine fin _ ?_
    unfold otheP
    rw [if_pos ⟨hf, k2, e2⟩]
    exact MSF_of h h2
  · rw [if_neg hf]
    exact V_if mi_223_4 (fun _ => fin _ (skip (fun q => hf q.1))) (fun h1 => absurd (show (0 : Int32) = 0 from rfl) h1)
end TKH
section TKJ
variable {l : Launch} {D : va_G} {tys : List (ClassId × FieldType)} {A : Nat → Prop} {ad : Nat → Nat} {ws : va_W}
theorem gf97 : ∃ s, GG[97]? = some ((1, 0, 144), s) ∧ ∀ j, j < 144 → segAt s j = some (0, -1, 3) := by
  refine ⟨_, rfl, fun j hj => ?_⟩
  show (bif Nat.blt j 144 then some _ else _) = _
  rw [show Nat.blt j 144 = true from Nat.blt_eq.mpr hj]
  rfl
theorem gr15 : ∃ g, GG[90]? = some ((0, 11, 36), g) ∧ segAt g 15 = some (2, ((97 : Nat) : Int), ((97 : Nat) : Int)) := ⟨_, rfl, by decide +kernel⟩
/-- a line 'goes': where the reader then stands, at each of its steps -/
noncomputable def goP (fr : Nat → Int) (B : Nat → Int) (n : Nat) (s : TS) : TS := numT B n 0 (fr 1 - 1) (folkT B n fr s)
noncomputable def goN (fr : Nat → Int) (B : Nat → Int) (n : Nat) (s : TS) : TS := needS B n xAt (goP fr B n s)
noncomputable def goT (fr : Nat → Int) (B : Nat → Int) (n : Nat) (s : TS) : TS := hourT B n fr (goN fr B n s)
noncomputable def goI (fr : Nat → Int) (B : Nat → Int) (n : Nat) (s : TS) : Nat := (24 * folkR fr s + hourR fr (goN fr B n s)).toNat
noncomputable def goD (fr td : Nat → Int) (B : Nat → Int) (n : Nat) (s : TS) : Nat → Int := if (goT fr B n s).2.1 = 0 then updI td (goI fr B n s) (numR 0 (fr 1 - 1) (folkT B n fr s)) else td
theorem MSF_td {n : Nat} {B fr td : Nat → Int} {w0 w w' : va_W} {s : TS} {j : Nat} {z : Int} (h : MSF ad tys n B fr td w0 s w) (G' : GOK ad tys GG w') (U : Upd1 w w' 97 j (.int (Int32.ofInt z))) : MSF ad tys n B fr (updI td j z) w0 s w' := by
  obtain ⟨-, ⟨T, ok, h10, h9, h8, h11, h12, h13⟩, ⟨f1, f2⟩, O⟩ := h
  have o : ∀ c i, c ≠ 97 → rd w' c i = rd w c i := fun c i hc => upd_ne U (fun q => hc q.1)
  refine ⟨G', ⟨⟨(o _ _ (by omega)).trans T.1, T.2.1, fun k hk => ⟨(o _ _ (by omega)).trans (T.2.2 k hk).1, (T.2.2 k hk).2⟩⟩, ok, (o _ _ (by omega)).trans h10, (o _ _ (by omega)).trans h9, (o _ _ (by omega)).trans h8, (o _ _ (by omega)).trans h11, (o _ _ (by omega)).trans h12, (o _ _ (by omega)).trans h13⟩, ⟨fun i hi => ⟨(o _ _ (by omega)).trans (f1 i hi).1, (f1 i hi).2⟩, fun i hi => ?_⟩, fun c i hn => (o _ _ (fun q => hn (Or.inr (Or.inl q)))).trans (O c i hn)⟩
  unfold updI
  by_cases e : i = j
  · rw [if_pos e, e]
    exact upd_eq U
  · rw [if_neg e]
    exact (upd_ne U (fun q => e q.2)).trans (f2 i hi)
theorem gom_ct {n : Nat} {B fr td : Nat → Int} {s : TS} {w0 : va_W} (h : MSF ad tys n B fr td w0 s ws) : CT l D tys A 228 7 0 0 [.ref (ad 90)] ws (fun r w => r = none ∧ MSF ad tys n B fr (goD fr td B n s) w0 (goT fr B n s) w) := by
  obtain ⟨s97, e97, f97⟩ := gf97
  obtain ⟨s96, e96, g0, g1, g2⟩ := gf96b
  obtain ⟨s96', e96', -, g3, -, -⟩ := gf96
  obtain ⟨p1, p2, p3⟩ := xq (i := 16) (by omega)
  have b1 := fr_seg h e96 (by omega) g1 (by omega) (by omega)
  have b2 := fr_seg h e96 (by omega) g2 (by omega) (by omega)
  have b3 := fr_seg h e96' (by omega) g3 (by omega) (by omega)
  refine CT_of_V (by omega) (show (1 : Nat) ≤ mML 228 by decide +kernel) ?_
  refine V_aload (v := ad 90) mi_228_0 (List.Mem.head _) ?_
  refine V_callM (As := []) (st := []) mi_228_1 (by omega) (by decide +kernel) (by decide +kernel) h.1 (folkm_ct h) (by omega) (show 0 = mN 222 by decide +kernel) (by simp) ?_
  rintro r w ⟨rfl, h⟩
  refine V_istore mi_228_4 ?_
  refine V_aload (v := ad 90) mi_228_5 (by simp [stL, lv_args, Value.category]) ?_
  refine V_ipush mi_228_6 ?_
  refine V_aload (v := ad 90) mi_228_7 (by simp [stL, lv_args, Value.category]) ?_
  refine V_getI mi_228_8 h.1 (rref gr14 (by omega) h.1) ?_
  refine V_ipush mi_228_11 ?_
  refine V_fresh (a := 0) (x := 0) h (j := 1) (by omega) rfl mi_228_12 ?_
  refine V_ipush mi_228_13 ?_
  refine V_ibin mi_228_14 (by omega) ?_
  rw [show ibF 1 (Int32.ofInt (fr 1)) (Int32.ofInt 1) = Int32.ofInt (fr 1 - 1) by show Int32.ofInt (fr 1) - Int32.ofInt 1 = _; rw [← Int32.ofInt_sub]]
  refine V_callM (As := [.int (Int32.ofInt 0), .int (Int32.ofInt (fr 1 - 1))]) (st := []) mi_228_15 (by omega) (by decide +kernel) (by decide +kernel) h.1 (numm_ct (by omega) (by omega) (by omega) (by omega) (MSF_q h)) (by omega) (show 2 = mN 219 by decide +kernel) (by simp) ?_
  rintro r w ⟨rfl, h1⟩
  have h := MSF_of h h1
  refine V_istore mi_228_18 ?_
  refine V_aload (v := ad 90) mi_228_19 (by simp [stL, lv_args, Value.category]) ?_
  refine V_ldcS mi_228_20 ?_
  refine V_callM (As := [.ref (D.2 1000 16)]) (st := []) mi_228_22 (by omega) (by decide +kernel) (by decide +kernel) h.1 (needm_ct p1 p2 p3 (MSF_q h)) (by omega) (show 1 = mN 218 by decide +kernel) (by simp) ?_
  rintro r w ⟨rfl, h1⟩
  have h := MSF_of h h1
  refine V_aload (v := ad 90) mi_228_25 (by simp [stL, lv_args, Value.category]) ?_
  refine V_callM (As := []) (st := []) mi_228_26 (by omega) (by decide +kernel) (by decide +kernel) h.1 (hourm_ct h) (by omega) (show 0 = mN 224 by decide +kernel) (by simp) ?_
  rintro r w ⟨rfl, h⟩
  have h : MSF ad tys n B fr td w0 (goT fr B n s) w := h
  have h' := h
  obtain ⟨hG, ⟨T, ok, h10, h9, h8, h11, h12, h13⟩, -, -⟩ := h'
  obtain ⟨-, -, -, b4⟩ := ok
  change V l D tys A 228 7 0 0 _ 0 0 (26 + 3) _ ((some (Value.int (Int32.ofInt (hourR fr (goN fr B n s))))).toList ++ []) _
  refine V_istore mi_228_29 ?_
  refine V_aload (v := ad 90) mi_228_30 (by simp [stL, lv_args, Value.category]) ?_
  refine V_callM (As := []) (st := []) mi_228_31 (by omega) (by decide +kernel) (by decide +kernel) hG (good_ct hG h12 b4.1 b4.2) (by omega) (show 0 = mN 214 by decide +kernel) (by simp) ?_
  rintro r w1 ⟨rfl, rfl⟩
  unfold goD
  by_cases hf : (goT fr B n s).2.1 = 0
  · rw [if_pos hf, if_pos hf]
    obtain ⟨k1, -, k2, k3, -⟩ := num_ok (B := B) (n := n) (s := goN fr B n s) hf
    obtain ⟨k4, -, -⟩ := need_ok k1
    obtain ⟨k5, -, k6, k7, -⟩ := num_ok (B := B) (n := n) (s := folkT B n fr s) k4
    obtain ⟨-, -, k8, k9, -⟩ := num_ok (B := B) (n := n) (s := s) k5
    have hh : hourR fr (goN fr B n s) = (goN fr B n s).1.2.2.2 := k3
    have hk : folkR fr s = s.1.2.2.2 := k9
    have ix : 24 * folkR fr s + hourR fr (goN fr B n s) = (goI fr B n s : Int) := by
      unfold goI
      rw [Int.toNat_of_nonneg (by omega)]
    have i144 : goI fr B n s < 144 := by omega
    refine V_if mi_228_34 (fun h1 => absurd (show (1 : Int32) = 0 from h1) (by decide)) (fun _ => ?_)
    refine V_aload (v := ad 90) mi_228_37 (by simp [stL, lv_args, Value.category]) ?_
    refine V_getI mi_228_38 hG (rref gr15 (by omega) hG) ?_
    refine V_ipush mi_228_41 ?_
    refine V_iload (v := Int32.ofInt (folkR fr s)) mi_228_43 (by simp [stL, lv_args, Value.category]) ?_
    refine V_ibin mi_228_44 (by omega) ?_
    refine V_iload (v := Int32.ofInt (hourR fr (goN fr B n s))) mi_228_45 (by simp [stL, lv_args, Value.category]) ?_
    refine V_ibin mi_228_46 (by omega) ?_
    refine V_iload (v := Int32.ofInt (numR 0 (fr 1 - 1) (folkT B n fr s))) mi_228_47 (by simp [stL, lv_args, Value.category]) ?_
    have ei : ibF 0 (ibF 2 (Int32.ofInt 24) (Int32.ofInt (folkR fr s))) (Int32.ofInt (hourR fr (goN fr B n s))) = Int32.ofInt ((goI fr B n s : Nat) : Int) := by
      show Int32.ofInt 24 * Int32.ofInt (folkR fr s) + Int32.ofInt (hourR fr (goN fr B n s)) = _
      rw [← Int32.ofInt_mul, ← Int32.ofInt_add, ix]
    have l1 : (Int32.ofInt (numR 0 (fr 1 - 1) (folkT B n fr s))).toInt = numR 0 (fr 1 - 1) (folkT B n fr s) := Int32.toInt_ofInt_of_le (by omega) (by omega)
    refine V_astX mi_228_48 ei hG e97 i144 (by omega) (f97 _ i144) (by omega) (by omega) (fun w' G' U => ?_)
    exact V_retV mi_228_49 ⟨rfl, MSF_td h G' U⟩
  · rw [if_neg hf, if_neg hf]
    refine V_if mi_228_34 (fun _ => ?_) (fun h1 => absurd (show (0 : Int32) = 0 from rfl) h1)
    exact V_retV mi_228_49 ⟨rfl, h⟩
end TKJ
section TKL
variable {l : Launch} {D : va_G} {tys : List (ClassId × FieldType)} {A : Nat → Prop} {ad : Nat → Nat} {ws : va_W}
/-- a bit set in a number -/
noncomputable def bitO (a i : Int) : Int := (ibF 6 (Int32.ofInt a) (ibF 8 (Int32.ofInt 1) (Int32.ofInt i))).toInt
theorem kbO {a i : Nat} (ha : a < 128) (hi : i < 7) : bitO (a : Int) (i : Int) = ((a ||| 2 ^ i : Nat) : Int) := by
  have e6 := kb68 (a := a) (i := i) ha hi
  unfold bitO
  rw [e6.1, kbT (by omega)]
theorem bitO_bd {a i : Int} (a0 : 0 ≤ a) (a1 : a ≤ 63) (i0 : 0 ≤ i) (i1 : i ≤ 5) : 0 ≤ bitO a i ∧ bitO a i ≤ 63 := by
  obtain ⟨x, rfl⟩ := Int.eq_ofNat_of_zero_le a0
  obtain ⟨y, rfl⟩ := Int.eq_ofNat_of_zero_le i0
  have hp : 2 ^ y ≤ 2 ^ 5 := Nat.pow_le_pow_right (by omega) (by omega)
  have h := Nat.or_lt_two_pow (x := x) (y := 2 ^ y) (n := 6) (by omega) (by omega)
  rw [kbO (a := x) (i := y) (by omega) (by omega)]
  exact ⟨by omega, by omega⟩
theorem g96k : ∃ s, GG[96]? = some ((1, 0, 294), s) ∧ (∀ f, f < 6 → segAt s (6 + 7 * f) = some (0, 0, 6)) ∧ (∀ j, j < 36 → segAt s (66 + j) = some (0, 0, 63)) ∧ (∀ j, j < 6 → segAt s (60 + j) = some (0, 0, 63)) := by
  refine ⟨_, rfl, fun f hf => ?_, fun j hj => ?_, fun j hj => ?_⟩
  · exact (show ∀ f : Fin 6, segAt _ (6 + 7 * f.1) = some (0, 0, 6) by decide +kernel) ⟨f, hf⟩
  · exact (show ∀ j : Fin 36, segAt _ (66 + j.1) = some (0, 0, 63) by decide +kernel) ⟨j, hj⟩
  · exact (show ∀ j : Fin 6, segAt _ (60 + j.1) = some (0, 0, 63) by decide +kernel) ⟨j, hj⟩
noncomputable def knF (fr : Nat → Int) (s : TS) : Int := folkR fr s
noncomputable def knS (fr : Nat → Int) (B : Nat → Int) (n : Nat) (s : TS) : TS := otheT B n fr (knF fr s) (folkT B n fr s)
noncomputable def knO (fr : Nat → Int) (B : Nat → Int) (n : Nat) (s : TS) : Nat := (otheR fr (knF fr s) (folkT B n fr s)).toNat
noncomputable def knT (fr : Nat → Int) (B : Nat → Int) (n : Nat) (s : TS) : TS := whichT B n fr (knO fr B n s) (knS fr B n s)
noncomputable def knI (fr : Nat → Int) (B : Nat → Int) (n : Nat) (s : TS) : Int := whichR fr (knO fr B n s) (knS fr B n s)
noncomputable def knJ (fr : Nat → Int) (B : Nat → Int) (n : Nat) (s : TS) : Nat := 66 + 6 * (knF fr s).toNat + knO fr B n s
noncomputable def knG (fr : Nat → Int) (B : Nat → Int) (n : Nat) (s : TS) : Nat → Int := if (knT fr B n s).2.1 = 0 then updI fr (knJ fr B n s) (bitO (fr (knJ fr B n s)) (knI fr B n s)) else fr
theorem knm_ct {n : Nat} {B fr td : Nat → Int} {s : TS} {w0 : va_W} (h : MSF ad tys n B fr td w0 s ws) : CT l D tys A 229 5 0 0 [.ref (ad 90)] ws (fun r w => r = none ∧ MSF ad tys n B (knG fr B n s) td w0 (knT fr B n s) w) := by
  obtain ⟨s96, e96, g6, g66, -⟩ := g96k
  obtain ⟨s96', e96', -, g3, -, -⟩ := gf96
  have b3 := fr_seg h e96' (by omega) g3 (by omega) (by omega)
  have bf : knF fr s = 0 ∨ (0 ≤ knF fr s ∧ knF fr s ≤ fr 3 - 1) := numR_bd
  have bo : otheR fr (knF fr s) (folkT B n fr s) = 0 ∨ (0 ≤ otheR fr (knF fr s) (folkT B n fr s) ∧ otheR fr (knF fr s) (folkT B n fr s) ≤ fr 3 - 1) := numR_bd
  have eo : otheR fr (knF fr s) (folkT B n fr s) = (knO fr B n s : Int) := by
    unfold knO
    rw [Int.toNat_of_nonneg (by omega)]
  have o6 : knO fr B n s < 6 := by omega
  refine CT_of_V (by omega) (show (1 : Nat) ≤ mML 229 by decide +kernel) ?_
  refine V_aload (v := ad 90) mi_229_0 (List.Mem.head _) ?_
  refine V_callM (As := []) (st := []) mi_229_1 (by omega) (by decide +kernel) (by decide +kernel) h.1 (folkm_ct h) (by omega) (show 0 = mN 222 by decide +kernel) (by simp) ?_
  rintro r w ⟨rfl, h⟩
  change V l D tys A 229 5 0 0 _ 0 0 (1 + 3) _ ((some (Value.int (Int32.ofInt (knF fr s)))).toList ++ []) _
  refine V_istore mi_229_4 ?_
  refine V_aload (v := ad 90) mi_229_5 (by simp [stL, lv_args, Value.category]) ?_
  refine V_iload (v := Int32.ofInt (knF fr s)) mi_229_6 (by simp [stL, lv_args, Value.category]) ?_
  refine V_callM (As := [.int (Int32.ofInt (knF fr s))]) (st := []) mi_229_7 (by omega) (by decide +kernel) (by decide +kernel) h.1 (othem_ct (by omega) (by omega) h) (by omega) (show 1 = mN 223 by decide +kernel) (by simp) ?_
  rintro r w ⟨rfl, h⟩
  rw [eo]
  have h : MSF ad tys n B fr td w0 (knS fr B n s) w := h
  refine V_istore mi_229_10 ?_
  refine V_aload (v := ad 90) mi_229_11 (by simp [stL, lv_args, Value.category]) ?_
  refine V_iload (v := Int32.ofInt (knO fr B n s : Int)) mi_229_12 (by simp [stL, lv_args, Value.category]) ?_
  refine V_callM (As := [.int (Int32.ofInt (knO fr B n s : Int))]) (st := []) mi_229_13 (by omega) (by decide +kernel) (by decide +kernel) h.1 (whichm_ct o6 h) (by omega) (show 1 = mN 227 by decide +kernel) (by simp) ?_
  rintro r w ⟨rfl, h⟩
  change V l D tys A 229 5 0 0 _ 0 0 (13 + 3) _ ((some (Value.int (Int32.ofInt (knI fr B n s)))).toList ++ []) _
  have h : MSF ad tys n B fr td w0 (knT fr B n s) w := h
  have h' := h
  obtain ⟨hG, ⟨T, ok, h10, h9, h8, h11, h12, h13⟩, -, -⟩ := h'
  obtain ⟨-, -, -, b4⟩ := ok
  refine V_istore mi_229_16 ?_
  refine V_aload (v := ad 90) mi_229_17 (by simp [stL, lv_args, Value.category]) ?_
  refine V_callM (As := []) (st := []) mi_229_18 (by omega) (by decide +kernel) (by decide +kernel) hG (good_ct hG h12 b4.1 b4.2) (by omega) (show 0 = mN 214 by decide +kernel) (by simp) ?_
  rintro r w1 ⟨rfl, rfl⟩
  unfold knG
  by_cases hf : (knT fr B n s).2.1 = 0
  · rw [if_pos hf, if_pos hf]
    obtain ⟨k1, -, k2, k3, -⟩ := num_ok (B := B) (n := n) (s := knS fr B n s) hf
    have k3 : knI fr B n s = (knS fr B n s).1.2.2.2 := k3
    have bl := fr_seg h e96 (by omega) (g6 _ o6) (by omega) (by omega)
    have jj : knJ fr B n s = 66 + (6 * (knF fr s).toNat + knO fr B n s) := by unfold knJ; omega
    have j36 : 6 * (knF fr s).toNat + knO fr B n s < 36 := by omega
    have hj : knJ fr B n s < 294 := by omega
    have sj : segAt s96 (knJ fr B n s) = some (0, 0, 63) := by rw [jj]; exact g66 _ j36
    have bk := fr_seg h e96 hj sj (by omega) (by omega)
    have bb := bitO_bd bk.1 bk.2 (i := knI fr B n s) (by omega) (by omega)
    refine V_if mi_229_21 (fun h1 => absurd (show (1 : Int32) = 0 from h1) (by decide)) (fun _ => ?_)
    refine V_aload (v := ad 90) mi_229_24 (by simp [stL, lv_args, Value.category]) ?_
    refine V_getI mi_229_25 hG (rref gr14 (by omega) hG) ?_
    refine V_ipush mi_229_28 ?_
    refine V_ipush mi_229_30 ?_
    refine V_iload (v := Int32.ofInt (knF fr s)) mi_229_32 (by simp [stL, lv_args, Value.category]) ?_
    refine V_ibin mi_229_33 (by omega) ?_
    refine V_ibin mi_229_34 (by omega) ?_
    refine V_iload (v := Int32.ofInt (knO fr B n s : Int)) mi_229_35 (by simp [stL, lv_args, Value.category]) ?_
    refine V_ibin mi_229_36 (by omega) ?_
    have ei : ibF 0 (ibF 0 (Int32.ofInt 66) (ibF 2 (Int32.ofInt 6) (Int32.ofInt (knF fr s)))) (Int32.ofInt (knO fr B n s : Int)) = Int32.ofInt ((knJ fr B n s : Nat) : Int) := by
      show Int32.ofInt 66 + Int32.ofInt 6 * Int32.ofInt (knF fr s) + Int32.ofInt (knO fr B n s : Int) = _
      rw [← Int32.ofInt_mul, ← Int32.ofInt_add, ← Int32.ofInt_add]
      rw [show (66 : Int) + 6 * knF fr s + (knO fr B n s : Int) = ((knJ fr B n s : Nat) : Int) by omega]
    refine V_dup2 mi_229_37 (by simp [Value.category]) (by simp [Value.category]) ?_
    refine V_fresh (a := 0) (x := 0) h hj ei mi_229_38 ?_
    refine V_ipush mi_229_39 ?_
    refine V_iload (v := Int32.ofInt (knI fr B n s)) mi_229_40 (by simp [stL, lv_args, Value.category]) ?_
    refine V_ibin mi_229_41 (by omega) ?_
    refine V_ibin mi_229_42 (by omega) ?_
    rw [show ibF 6 (Int32.ofInt (fr (knJ fr B n s))) (ibF 8 (Int32.ofInt 1) (Int32.ofInt (knI fr B n s))) = Int32.ofInt (bitO (fr (knJ fr B n s)) (knI fr B n s)) by unfold bitO; rw [Int32.ofInt_toInt]]
    refine V_fst h e96 hj ei mi_229_43 sj bb.1 bb.2 bb.1 (by omega) (fun w' h2 => ?_)
    exact V_retV mi_229_44 ⟨rfl, h2⟩
  · rw [if_neg hf, if_neg hf]
    refine V_if mi_229_21 (fun _ => ?_) (fun h1 => absurd (show (0 : Int32) = 0 from rfl) h1)
    exact V_retV mi_229_44 ⟨rfl, h⟩
end TKL
section TKM
variable {l : Launch} {D : va_G} {tys : List (ClassId × FieldType)} {A : Nat → Prop} {ad : Nat → Nat} {ws : va_W}
theorem g96s : ∃ s, GG[96]? = some ((1, 0, 294), s) ∧ (∀ f, f < 6 → segAt s (6 + 7 * f) = some (0, 0, 6)) ∧ segAt s 4 = some (0, 0, 12) ∧ (∀ k, k < 12 → segAt s (246 + 4 * k) = some (0, 0, 5) ∧ segAt s (246 + 4 * k + 1) = some (0, 0, 5) ∧ segAt s (246 + 4 * k + 2) = some (0, 0, 5) ∧ segAt s (246 + 4 * k + 3) = some (0, 0, 23)) := by
  refine ⟨_, rfl, fun f hf => ?_, by decide +kernel, fun k hk => ?_⟩
  · exact (show ∀ f : Fin 6, segAt _ (6 + 7 * f.1) = some (0, 0, 6) by decide +kernel) ⟨f, hf⟩
  · exact (show ∀ k : Fin 12, segAt _ (246 + 4 * k.1) = some (0, 0, 5) ∧ segAt _ (246 + 4 * k.1 + 1) = some (0, 0, 5) ∧ segAt _ (246 + 4 * k.1 + 2) = some (0, 0, 5) ∧ segAt _ (246 + 4 * k.1 + 3) = some (0, 0, 23) by decide +kernel) ⟨k, hk⟩
/-- a line 'says' -/
noncomputable def saF (fr : Nat → Int) (s : TS) : Int := folkR fr s
noncomputable def saA (fr : Nat → Int) (B : Nat → Int) (n : Nat) (s : TS) : TS := folkT B n fr s
noncomputable def saO (fr : Nat → Int) (B : Nat → Int) (n : Nat) (s : TS) : Nat := (folkR fr (saA fr B n s)).toNat
noncomputable def saB (fr : Nat → Int) (B : Nat → Int) (n : Nat) (s : TS) : TS := folkT B n fr (saA fr B n s)
noncomputable def saI (fr : Nat → Int) (B : Nat → Int) (n : Nat) (s : TS) : Int := whichR fr (saO fr B n s) (saB fr B n s)
noncomputable def saC (fr : Nat → Int) (B : Nat → Int) (n : Nat) (s : TS) : TS := whichT B n fr (saO fr B n s) (saB fr B n s)
noncomputable def saN (fr : Nat → Int) (B : Nat → Int) (n : Nat) (s : TS) : TS := needS B n xAt (saC fr B n s)
noncomputable def saH (fr : Nat → Int) (B : Nat → Int) (n : Nat) (s : TS) : Int := hourR fr (saN fr B n s)
noncomputable def saT (fr : Nat → Int) (B : Nat → Int) (n : Nat) (s : TS) : TS := hourT B n fr (saN fr B n s)
noncomputable def saK (fr : Nat → Int) : Nat := 246 + 4 * (fr 4).toNat
noncomputable def saG (fr : Nat → Int) (B : Nat → Int) (n : Nat) (s : TS) : Nat → Int := if (saT fr B n s).2.1 = 0 then updI (updI (updI (updI (updI fr (saK fr) (saF fr s)) (saK fr + 1) (saO fr B n s : Int)) (saK fr + 2) (saI fr B n s)) (saK fr + 3) (saH fr B n s)) 4 (fr 4 + 1) else fr
theorem sam_ct {n : Nat} {B fr td : Nat → Int} {s : TS} {w0 : va_W} (h4 : fr 4 < 12) (h : MSF ad tys n B fr td w0 s ws) : CT l D tys A 230 7 0 0 [.ref (ad 90)] ws (fun r w => r = none ∧ MSF ad tys n B (saG fr B n s) td w0 (saT fr B n s) w) := by
  obtain ⟨s96, e96, g6, g4, gk⟩ := g96s
  obtain ⟨s96', e96', -, g3, -, -⟩ := gf96
  obtain ⟨s96b, e96b, -, -, g2⟩ := gf96b
  obtain ⟨p1, p2, p3⟩ := xq (i := 16) (by omega)
  have b2 := fr_seg h e96b (by omega) g2 (by omega) (by omega)
  have b3 := fr_seg h e96' (by omega) g3 (by omega) (by omega)
  have c4 := fr_seg h e96 (by omega) g4 (by omega) (by omega)
  have k12 : (fr 4).toNat < 12 := by omega
  obtain ⟨q0, q1, q2, q3⟩ := gk _ k12
  have bf : saF fr s = 0 ∨ (0 ≤ saF fr s ∧ saF fr s ≤ fr 3 - 1) := numR_bd
  have bo : folkR fr (saA fr B n s) = 0 ∨ (0 ≤ folkR fr (saA fr B n s) ∧ folkR fr (saA fr B n s) ≤ fr 3 - 1) := numR_bd
  have eo : folkR fr (saA fr B n s) = (saO fr B n s : Int) := by
    unfold saO
    rw [Int.toNat_of_nonneg (by omega)]
  have o6 : saO fr B n s < 6 := by omega
  have bl := fr_seg h e96 (by omega) (g6 _ o6) (by omega) (by omega)
  have bi : saI fr B n s = 0 ∨ (0 ≤ saI fr B n s ∧ saI fr B n s ≤ fr (6 + 7 * saO fr B n s) - 1) := numR_bd
  have bh : saH fr B n s = 0 ∨ (0 ≤ saH fr B n s ∧ saH fr B n s ≤ fr 2 - 1) := numR_bd
  have hK : saK fr = 246 + 4 * (fr 4).toNat := rfl
  have ek : ibF 0 (Int32.ofInt 246) (ibF 2 (Int32.ofInt 4) (Int32.ofInt (fr 4))) = Int32.ofInt ((saK fr : Nat) : Int) := by
    show Int32.ofInt 246 + Int32.ofInt 4 * Int32.ofInt (fr 4) = _
    rw [← Int32.ofInt_mul, ← Int32.ofInt_add]
    rw [show (246 : Int) + 4 * fr 4 = ((saK fr : Nat) : Int) by omega]
  refine CT_of_V (by omega) (show (1 : Nat) ≤ mML 230 by decide +kernel) ?_
  refine V_ipush mi_230_0 ?_
  refine V_ipush mi_230_3 ?_
  refine V_aload (v := ad 90) mi_230_4 (List.Mem.head _) ?_
  refine V_getI mi_230_5 h.1 (rref gr14 (by omega) h.1) ?_
  refine V_ipush mi_230_8 ?_
  refine V_fresh (a := 0) (x := 0) h (j := 4) (by omega) rfl mi_230_9 ?_
  refine V_ibin mi_230_10 (by omega) ?_
  refine V_ibin mi_230_11 (by omega) ?_
  rw [ek]
  refine V_istore mi_230_12 ?_
  refine V_aload (v := ad 90) mi_230_13 (by simp [stL, lv_args, Value.category]) ?_
  refine V_callM (As := []) (st := []) mi_230_14 (by omega) (by decide +kernel) (by decide +kernel) h.1 (folkm_ct h) (by omega) (show 0 = mN 222 by decide +kernel) (by simp) ?_
  rintro r w ⟨rfl, h⟩
  change V l D tys A 230 7 0 0 _ 0 0 (14 + 3) _ ((some (Value.int (Int32.ofInt (saF fr s)))).toList ++ []) _
  have h : MSF ad tys n B fr td w0 (saA fr B n s) w := h
  refine V_istore mi_230_17 ?_
  refine V_aload (v := ad 90) mi_230_18 (by simp [stL, lv_args, Value.category]) ?_
  refine V_callM (As := []) (st := []) mi_230_19 (by omega) (by decide +kernel) (by decide +kernel) h.1 (folkm_ct h) (by omega) (show 0 = mN 222 by decide +kernel) (by simp) ?_
  rintro r w ⟨rfl, h⟩
  rw [eo]
  have h : MSF ad tys n B fr td w0 (saB fr B n s) w := h
  refine V_istore mi_230_22 ?_
  refine V_aload (v := ad 90) mi_230_23 (by simp [stL, lv_args, Value.category]) ?_
  refine V_iload (v := Int32.ofInt (saO fr B n s : Int)) mi_230_24 (by simp [stL, lv_args, Value.category]) ?_
  refine V_callM (As := [.int (Int32.ofInt (saO fr B n s : Int))]) (st := []) mi_230_25 (by omega) (by decide +kernel) (by decide +kernel) h.1 (whichm_ct o6 h) (by omega) (show 1 = mN 227 by decide +kernel) (by simp) ?_
  rintro r w ⟨rfl, h⟩
  change V l D tys A 230 7 0 0 _ 0 0 (25 + 3) _ ((some (Value.int (Int32.ofInt (saI fr B n s)))).toList ++ []) _
  have h : MSF ad tys n B fr td w0 (saC fr B n s) w := h
  refine V_istore mi_230_28 ?_
  refine V_aload (v := ad 90) mi_230_30 (by simp [stL, lv_args, Value.category]) ?_
  refine V_ldcS mi_230_31 ?_
  refine V_callM (As := [.ref (D.2 1000 16)]) (st := []) mi_230_33 (by omega) (by decide +kernel) (by decide +kernel) h.1 (needm_ct p1 p2 p3 (MSF_q h)) (by omega) (show 1 = mN 218 by decide +kernel) (by simp) ?_
  rintro r w ⟨rfl, h1⟩
  have h : MSF ad tys n B fr td w0 (saN fr B n s) w := MSF_of h h1
  refine V_aload (v := ad 90) mi_230_36 (by simp [stL, lv_args, Value.category]) ?_
  refine V_callM (As := []) (st := []) mi_230_37 (by omega) (by decide +kernel) (by decide +kernel) h.1 (hourm_ct h) (by omega) (show 0 = mN 224 by decide +kernel) (by simp) ?_
  rintro r w ⟨rfl, h⟩
  change V l D tys A 230 7 0 0 _ 0 0 (37 + 3) _ ((some (Value.int (Int32.ofInt (saH fr B n s)))).toList ++ []) _
  have h : MSF ad tys n B fr td w0 (saT fr B n s) w := h
  have h' := h
  obtain ⟨hG, ⟨T, ok, h10, h9, h8, h11, h12, h13⟩, -, -⟩ := h'
  obtain ⟨-, -, -, b4⟩ := ok
  refine V_istore mi_230_40 ?_
  refine V_aload (v := ad 90) mi_230_42 (by simp [stL, lv_args, Value.category]) ?_
  refine V_callM (As := []) (st := []) mi_230_43 (by omega) (by decide +kernel) (by decide +kernel) hG (good_ct hG h12 b4.1 b4.2) (by omega) (show 0 = mN 214 by decide +kernel) (by simp) ?_
  rintro r w1 ⟨rfl, rfl⟩
  unfold saG
  by_cases hf : (saT fr B n s).2.1 = 0
  · rw [if_pos hf, if_pos hf]
    refine V_if mi_230_46 (fun _ => ?_) (fun h1 => absurd (show (1 : Int32) ≠ 0 by decide) h1)
    have ka : ∀ m : Nat, ibF 0 (Int32.ofInt ((saK fr : Nat) : Int)) (Int32.ofInt (m : Int)) = Int32.ofInt ((saK fr + m : Nat) : Int) := fun m => by
      show Int32.ofInt ((saK fr : Nat) : Int) + Int32.ofInt (m : Int) = _
      rw [← Int32.ofInt_add]; rfl
    refine V_aload (v := ad 90) mi_230_50 (by simp [stL, lv_args, Value.category]) ?_
    refine V_getI mi_230_51 h.1 (rref gr14 (by omega) h.1) ?_
    refine V_iload (v := Int32.ofInt ((saK fr : Nat) : Int)) mi_230_54 (by simp [stL, lv_args, Value.category]) ?_
    refine V_ipush mi_230_55 ?_
    refine V_ibin mi_230_56 (by omega) ?_
    refine V_iload (v := Int32.ofInt (saF fr s)) mi_230_57 (by simp [stL, lv_args, Value.category]) ?_
    refine V_fst (z := saF fr s) h e96 (j := saK fr) (by omega) (ka 0) mi_230_58 q0 (by omega) (by omega) (by omega) (by omega) (fun w h => ?_)
    refine V_aload (v := ad 90) mi_230_59 (by simp [stL, lv_args, Value.category]) ?_
    refine V_getI mi_230_60 h.1 (rref gr14 (by omega) h.1) ?_
    refine V_iload (v := Int32.ofInt ((saK fr : Nat) : Int)) mi_230_63 (by simp [stL, lv_args, Value.category]) ?_
    refine V_ipush mi_230_64 ?_
    refine V_ibin mi_230_65 (by omega) ?_
    refine V_iload (v := Int32.ofInt (saO fr B n s : Int)) mi_230_66 (by simp [stL, lv_args, Value.category]) ?_
    refine V_fst (z := (saO fr B n s : Int)) h e96 (j := saK fr + 1) (by omega) (ka 1) mi_230_67 q1 (by omega) (by omega) (by omega) (by omega) (fun w h => ?_)
    refine V_aload (v := ad 90) mi_230_68 (by simp [stL, lv_args, Value.category]) ?_
    refine V_getI mi_230_69 h.1 (rref gr14 (by omega) h.1) ?_
    refine V_iload (v := Int32.ofInt ((saK fr : Nat) : Int)) mi_230_72 (by simp [stL, lv_args, Value.category]) ?_
    refine V_ipush mi_230_73 ?_
    refine V_ibin mi_230_74 (by omega) ?_
    refine V_iload (v := Int32.ofInt (saI fr B n s)) mi_230_75 (by simp [stL, lv_args, Value.category]) ?_
    refine V_fst (z := saI fr B n s) h e96 (j := saK fr + 2) (by omega) (ka 2) mi_230_77 q2 (by omega) (by omega) (by omega) (by omega) (fun w h => ?_)
    refine V_aload (v := ad 90) mi_230_78 (by simp [stL, lv_args, Value.category]) ?_
    refine V_getI mi_230_79 h.1 (rref gr14 (by omega) h.1) ?_
    refine V_iload (v := Int32.ofInt ((saK fr : Nat) : Int)) mi_230_82 (by simp [stL, lv_args, Value.category]) ?_
    refine V_ipush mi_230_83 ?_
    refine V_ibin mi_230_84 (by omega) ?_
    refine V_iload (v := Int32.ofInt (saH fr B n s)) mi_230_85 (by simp [stL, lv_args, Value.category]) ?_
    refine V_fst (z := saH fr B n s) h e96 (j := saK fr + 3) (by omega) (ka 3) mi_230_87 q3 (by omega) (by omega) (by omega) (by omega) (fun w h => ?_)
    refine V_aload (v := ad 90) mi_230_88 (by simp [stL, lv_args, Value.category]) ?_
    refine V_getI mi_230_89 h.1 (rref gr14 (by omega) h.1) ?_
    refine V_ipush mi_230_92 ?_
    refine V_dup2 mi_230_93 (by simp [Value.category]) (by simp [Value.category]) ?_
    refine V_fresh (a := 0) (x := 0) h (j := 4) (by omega) rfl mi_230_94 ?_
    refine V_ipush mi_230_95 ?_
    refine V_ibin mi_230_96 (by omega) ?_
    have e4 : updI (updI (updI (updI fr (saK fr) (saF fr s)) (saK fr + 1) (saO fr B n s : Int)) (saK fr + 2) (saI fr B n s)) (saK fr + 3) (saH fr B n s) 4 = fr 4 := by
      unfold updI
      rw [if_neg (by omega), if_neg (by omega), if_neg (by omega), if_neg (by omega)]
    rw [e4, show ibF 0 (Int32.ofInt (fr 4)) (Int32.ofInt 1) = Int32.ofInt (fr 4 + 1) by show Int32.ofInt (fr 4) + Int32.ofInt 1 = _; rw [← Int32.ofInt_add]]
    refine V_fst (z := fr 4 + 1) h e96 (j := 4) (by omega) rfl mi_230_97 g4 (by omega) (by omega) (by omega) (by omega) (fun w h => ?_)
    exact V_retV mi_230_98 ⟨rfl, h⟩
  · rw [if_neg hf, if_neg hf]
    refine V_if mi_230_46 (fun h1 => absurd (show (0 : Int32) = 0 from rfl) h1) (fun _ => ?_)
    exact V_retV mi_230_49 ⟨rfl, h⟩
end TKM
