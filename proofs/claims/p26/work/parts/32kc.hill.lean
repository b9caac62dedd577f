section
theorem mi_218_0 : mI 218 0 = (5, 0, 0, 0, 0) := by decide +kernel
theorem mi_218_1 : mI 218 1 = (5, 0, 1, 0, 0) := by decide +kernel
theorem mi_218_2 : mI 218 2 = (26, 1375, 157, 217, 0) := by decide +kernel
theorem mi_218_5 : mI 218 5 = (14, 8, 1, 13, 0) := by decide +kernel
theorem mi_218_8 : mI 218 8 = (5, 0, 0, 0, 0) := by decide +kernel
theorem mi_218_9 : mI 218 9 = (1, 1, 0, 0, 0) := by decide +kernel
theorem mi_218_10 : mI 218 10 = (26, 1385, 160, 215, 0) := by decide +kernel
theorem mi_218_13 : mI 218 13 = (27, 0, 2, 0, 0) := by decide +kernel
theorem mi_219_0 : mI 219 0 = (5, 0, 0, 0, 0) := by decide +kernel
theorem mi_219_1 : mI 219 1 = (26, 1358, 136, 214, 0) := by decide +kernel
theorem mi_219_4 : mI 219 4 = (14, 16, 0, 20, 0) := by decide +kernel
theorem mi_219_7 : mI 219 7 = (5, 0, 0, 0, 0) := by decide +kernel
theorem mi_219_8 : mI 219 8 = (17, 1216, 112, 11, 10) := by decide +kernel
theorem mi_219_11 : mI 219 11 = (1, 2, 0, 0, 0) := by decide +kernel
theorem mi_219_12 : mI 219 12 = (15, 8, 0, 20, 0) := by decide +kernel
theorem mi_219_15 : mI 219 15 = (5, 0, 0, 0, 0) := by decide +kernel
theorem mi_219_16 : mI 219 16 = (1, 1, 0, 0, 0) := by decide +kernel
theorem mi_219_17 : mI 219 17 = (26, 1385, 160, 215, 0) := by decide +kernel
theorem mi_219_20 : mI 219 20 = (5, 0, 0, 0, 0) := by decide +kernel
theorem mi_219_21 : mI 219 21 = (26, 1358, 136, 214, 0) := by decide +kernel
theorem mi_219_24 : mI 219 24 = (14, 23, 0, 47, 0) := by decide +kernel
theorem mi_219_27 : mI 219 27 = (5, 0, 0, 0, 0) := by decide +kernel
theorem mi_219_28 : mI 219 28 = (17, 1217, 123, 11, 11) := by decide +kernel
theorem mi_219_31 : mI 219 31 = (12, 0, 1, 0, 0) := by decide +kernel
theorem mi_219_32 : mI 219 32 = (3, 0, 1, 0, 0) := by decide +kernel
theorem mi_219_33 : mI 219 33 = (12, 0, 1, 0, 0) := by decide +kernel
theorem mi_219_34 : mI 219 34 = (3, 0, 2, 0, 0) := by decide +kernel
theorem mi_219_35 : mI 219 35 = (12, 0, 1, 0, 0) := by decide +kernel
theorem mi_219_36 : mI 219 36 = (26, 1321, 85, 193, 1) := by decide +kernel
theorem mi_219_39 : mI 219 39 = (14, 8, 1, 47, 0) := by decide +kernel
theorem mi_219_42 : mI 219 42 = (5, 0, 0, 0, 0) := by decide +kernel
theorem mi_219_43 : mI 219 43 = (1, 2, 0, 0, 0) := by decide +kernel
theorem mi_219_44 : mI 219 44 = (26, 1385, 160, 215, 0) := by decide +kernel
theorem mi_219_47 : mI 219 47 = (5, 0, 0, 0, 0) := by decide +kernel
theorem mi_219_48 : mI 219 48 = (26, 1358, 136, 214, 0) := by decide +kernel
theorem mi_219_51 : mI 219 51 = (14, 5, 1, 56, 0) := by decide +kernel
theorem mi_219_54 : mI 219 54 = (1, 0, 0, 0, 0) := by decide +kernel
theorem mi_219_55 : mI 219 55 = (27, 0, 0, 0, 0) := by decide +kernel
theorem mi_219_56 : mI 219 56 = (5, 0, 0, 0, 0) := by decide +kernel
theorem mi_219_57 : mI 219 57 = (17, 1217, 123, 11, 11) := by decide +kernel
theorem mi_219_60 : mI 219 60 = (6, 0, 3, 0, 0) := by decide +kernel
theorem mi_219_61 : mI 219 61 = (5, 0, 0, 0, 0) := by decide +kernel
theorem mi_219_62 : mI 219 62 = (26, 1344, 154, 213, 0) := by decide +kernel
theorem mi_219_65 : mI 219 65 = (3, 0, 3, 0, 0) := by decide +kernel
theorem mi_219_66 : mI 219 66 = (27, 0, 0, 0, 0) := by decide +kernel
theorem mi_220_0 : mI 220 0 = (5, 0, 0, 0, 0) := by decide +kernel
theorem mi_220_1 : mI 220 1 = (5, 0, 1, 0, 0) := by decide +kernel
theorem mi_220_2 : mI 220 2 = (26, 1371, 164, 218, 0) := by decide +kernel
theorem mi_220_5 : mI 220 5 = (5, 0, 0, 0, 0) := by decide +kernel
theorem mi_220_6 : mI 220 6 = (3, 0, 2, 0, 0) := by decide +kernel
theorem mi_220_7 : mI 220 7 = (3, 0, 3, 0, 0) := by decide +kernel
theorem mi_220_8 : mI 220 8 = (26, 1394, 168, 219, 0) := by decide +kernel
theorem mi_220_11 : mI 220 11 = (27, 0, 0, 0, 0) := by decide +kernel
theorem mi_222_0 : mI 222 0 = (5, 0, 0, 0, 0) := by decide +kernel
theorem mi_222_1 : mI 222 1 = (1, 0, 0, 0, 0) := by decide +kernel
theorem mi_222_2 : mI 222 2 = (5, 0, 0, 0, 0) := by decide +kernel
theorem mi_222_3 : mI 222 3 = (17, 1220, 31, 11, 14) := by decide +kernel
theorem mi_222_6 : mI 222 6 = (1, 3, 0, 0, 0) := by decide +kernel
theorem mi_222_7 : mI 222 7 = (19, 0, 0, 0, 0) := by decide +kernel
theorem mi_222_8 : mI 222 8 = (1, 1, 0, 0, 0) := by decide +kernel
theorem mi_222_9 : mI 222 9 = (10, 0, 1, 0, 0) := by decide +kernel
theorem mi_222_10 : mI 222 10 = (26, 1394, 168, 219, 0) := by decide +kernel
theorem mi_222_13 : mI 222 13 = (27, 0, 0, 0, 0) := by decide +kernel
theorem mi_223_0 : mI 223 0 = (5, 0, 0, 0, 0) := by decide +kernel
theorem mi_223_1 : mI 223 1 = (26, 1358, 136, 214, 0) := by decide +kernel
theorem mi_223_4 : mI 223 4 = (14, 24, 0, 28, 0) := by decide +kernel
theorem mi_223_7 : mI 223 7 = (5, 0, 0, 0, 0) := by decide +kernel
theorem mi_223_8 : mI 223 8 = (17, 1216, 112, 11, 10) := by decide +kernel
theorem mi_223_11 : mI 223 11 = (1, 2, 0, 0, 0) := by decide +kernel
theorem mi_223_12 : mI 223 12 = (15, 16, 1, 28, 0) := by decide +kernel
theorem mi_223_15 : mI 223 15 = (5, 0, 0, 0, 0) := by decide +kernel
theorem mi_223_16 : mI 223 16 = (17, 1217, 123, 11, 11) := by decide +kernel
theorem mi_223_19 : mI 223 19 = (3, 0, 1, 0, 0) := by decide +kernel
theorem mi_223_20 : mI 223 20 = (15, 8, 1, 28, 0) := by decide +kernel
theorem mi_223_23 : mI 223 23 = (5, 0, 0, 0, 0) := by decide +kernel
theorem mi_223_24 : mI 223 24 = (1, 2, 0, 0, 0) := by decide +kernel
theorem mi_223_25 : mI 223 25 = (26, 1385, 160, 215, 0) := by decide +kernel
theorem mi_223_28 : mI 223 28 = (5, 0, 0, 0, 0) := by decide +kernel
theorem mi_223_29 : mI 223 29 = (26, 1415, 171, 222, 0) := by decide +kernel
theorem mi_223_32 : mI 223 32 = (27, 0, 0, 0, 0) := by decide +kernel
theorem mi_224_0 : mI 224 0 = (5, 0, 0, 0, 0) := by decide +kernel
theorem mi_224_1 : mI 224 1 = (1, 0, 0, 0, 0) := by decide +kernel
theorem mi_224_2 : mI 224 2 = (5, 0, 0, 0, 0) := by decide +kernel
theorem mi_224_3 : mI 224 3 = (17, 1220, 31, 11, 14) := by decide +kernel
theorem mi_224_6 : mI 224 6 = (1, 2, 0, 0, 0) := by decide +kernel
theorem mi_224_7 : mI 224 7 = (19, 0, 0, 0, 0) := by decide +kernel
theorem mi_224_8 : mI 224 8 = (1, 1, 0, 0, 0) := by decide +kernel
theorem mi_224_9 : mI 224 9 = (10, 0, 1, 0, 0) := by decide +kernel
theorem mi_224_10 : mI 224 10 = (26, 1394, 168, 219, 0) := by decide +kernel
theorem mi_224_13 : mI 224 13 = (27, 0, 0, 0, 0) := by decide +kernel
theorem mi_225_0 : mI 225 0 = (5, 0, 0, 0, 0) := by decide +kernel
theorem mi_225_1 : mI 225 1 = (35, 0, 174, 12, 0) := by decide +kernel
theorem mi_225_3 : mI 225 3 = (26, 1371, 164, 218, 0) := by decide +kernel
theorem mi_225_6 : mI 225 6 = (5, 0, 0, 0, 0) := by decide +kernel
theorem mi_225_7 : mI 225 7 = (17, 1220, 31, 11, 14) := by decide +kernel
theorem mi_225_10 : mI 225 10 = (1, 0, 0, 0, 0) := by decide +kernel
theorem mi_225_11 : mI 225 11 = (5, 0, 0, 0, 0) := by decide +kernel
theorem mi_225_12 : mI 225 12 = (35, 0, 176, 13, 0) := by decide +kernel
theorem mi_225_14 : mI 225 14 = (1, 2, 0, 0, 0) := by decide +kernel
theorem mi_225_15 : mI 225 15 = (1, 9, 1, 0, 0) := by decide +kernel
theorem mi_225_17 : mI 225 17 = (26, 1390, 178, 220, 0) := by decide +kernel
theorem mi_225_20 : mI 225 20 = (20, 0, 0, 0, 0) := by decide +kernel
theorem mi_225_21 : mI 225 21 = (5, 0, 0, 0, 0) := by decide +kernel
theorem mi_225_22 : mI 225 22 = (17, 1220, 31, 11, 14) := by decide +kernel
theorem mi_225_25 : mI 225 25 = (1, 1, 0, 0, 0) := by decide +kernel
theorem mi_225_26 : mI 225 26 = (5, 0, 0, 0, 0) := by decide +kernel
theorem mi_225_27 : mI 225 27 = (35, 0, 182, 14, 0) := by decide +kernel
theorem mi_225_29 : mI 225 29 = (1, 1, 0, 0, 0) := by decide +kernel
theorem mi_225_30 : mI 225 30 = (1, 4, 0, 0, 0) := by decide +kernel
theorem mi_225_31 : mI 225 31 = (26, 1390, 178, 220, 0) := by decide +kernel
theorem mi_225_34 : mI 225 34 = (20, 0, 0, 0, 0) := by decide +kernel
theorem mi_225_35 : mI 225 35 = (5, 0, 0, 0, 0) := by decide +kernel
theorem mi_225_36 : mI 225 36 = (17, 1220, 31, 11, 14) := by decide +kernel
theorem mi_225_39 : mI 225 39 = (1, 2, 0, 0, 0) := by decide +kernel
theorem mi_225_40 : mI 225 40 = (5, 0, 0, 0, 0) := by decide +kernel
theorem mi_225_41 : mI 225 41 = (35, 0, 184, 15, 0) := by decide +kernel
theorem mi_225_43 : mI 225 43 = (1, 1, 0, 0, 0) := by decide +kernel
theorem mi_225_44 : mI 225 44 = (1, 24, 1, 0, 0) := by decide +kernel
theorem mi_225_46 : mI 225 46 = (26, 1390, 178, 220, 0) := by decide +kernel
theorem mi_225_49 : mI 225 49 = (20, 0, 0, 0, 0) := by decide +kernel
theorem mi_225_50 : mI 225 50 = (27, 0, 2, 0, 0) := by decide +kernel
theorem mi_226_0 : mI 226 0 = (5, 0, 0, 0, 0) := by decide +kernel
theorem mi_226_1 : mI 226 1 = (17, 1220, 31, 11, 14) := by decide +kernel
theorem mi_226_4 : mI 226 4 = (1, 3, 0, 0, 0) := by decide +kernel
theorem mi_226_5 : mI 226 5 = (19, 0, 0, 0, 0) := by decide +kernel
theorem mi_226_6 : mI 226 6 = (6, 0, 1, 0, 0) := by decide +kernel
theorem mi_226_7 : mI 226 7 = (1, 0, 0, 0, 0) := by decide +kernel
theorem mi_226_8 : mI 226 8 = (6, 0, 2, 0, 0) := by decide +kernel
theorem mi_226_9 : mI 226 9 = (5, 0, 0, 0, 0) := by decide +kernel
theorem mi_226_10 : mI 226 10 = (26, 1358, 136, 214, 0) := by decide +kernel
theorem mi_226_13 : mI 226 13 = (14, 35, 0, 48, 0) := by decide +kernel
theorem mi_226_16 : mI 226 16 = (5, 0, 0, 0, 0) := by decide +kernel
theorem mi_226_17 : mI 226 17 = (17, 1216, 112, 11, 10) := by decide +kernel
theorem mi_226_20 : mI 226 20 = (1, 2, 0, 0, 0) := by decide +kernel
theorem mi_226_21 : mI 226 21 = (15, 27, 1, 48, 0) := by decide +kernel
theorem mi_226_24 : mI 226 24 = (3, 0, 2, 0, 0) := by decide +kernel
theorem mi_226_25 : mI 226 25 = (1, 6, 1, 0, 0) := by decide +kernel
theorem mi_226_27 : mI 226 27 = (15, 21, 1, 48, 0) := by decide +kernel
theorem mi_226_30 : mI 226 30 = (5, 0, 0, 0, 0) := by decide +kernel
theorem mi_226_31 : mI 226 31 = (17, 1217, 123, 11, 11) := by decide +kernel
theorem mi_226_34 : mI 226 34 = (5, 0, 0, 0, 0) := by decide +kernel
theorem mi_226_35 : mI 226 35 = (17, 1220, 31, 11, 14) := by decide +kernel
theorem mi_226_38 : mI 226 38 = (1, 0, 0, 0, 0) := by decide +kernel
theorem mi_226_39 : mI 226 39 = (19, 0, 0, 0, 0) := by decide +kernel
theorem mi_226_40 : mI 226 40 = (15, 8, 3, 48, 0) := by decide +kernel
theorem mi_226_43 : mI 226 43 = (5, 0, 0, 0, 0) := by decide +kernel
theorem mi_226_44 : mI 226 44 = (1, 3, 0, 0, 0) := by decide +kernel
theorem mi_226_45 : mI 226 45 = (26, 1385, 160, 215, 0) := by decide +kernel
theorem mi_226_48 : mI 226 48 = (5, 0, 0, 0, 0) := by decide +kernel
theorem mi_226_49 : mI 226 49 = (1, 0, 0, 0, 0) := by decide +kernel
theorem mi_226_50 : mI 226 50 = (5, 0, 0, 0, 0) := by decide +kernel
theorem mi_226_51 : mI 226 51 = (17, 1220, 31, 11, 14) := by decide +kernel
theorem mi_226_54 : mI 226 54 = (1, 0, 0, 0, 0) := by decide +kernel
theorem mi_226_55 : mI 226 55 = (19, 0, 0, 0, 0) := by decide +kernel
theorem mi_226_56 : mI 226 56 = (1, 1, 0, 0, 0) := by decide +kernel
theorem mi_226_57 : mI 226 57 = (10, 0, 1, 0, 0) := by decide +kernel
theorem mi_226_58 : mI 226 58 = (26, 1394, 168, 219, 0) := by decide +kernel
theorem mi_226_61 : mI 226 61 = (6, 0, 3, 0, 0) := by decide +kernel
theorem mi_226_62 : mI 226 62 = (5, 0, 0, 0, 0) := by decide +kernel
theorem mi_226_63 : mI 226 63 = (26, 1358, 136, 214, 0) := by decide +kernel
theorem mi_226_66 : mI 226 66 = (14, 4, 1, 70, 0) := by decide +kernel
theorem mi_226_69 : mI 226 69 = (27, 0, 2, 0, 0) := by decide +kernel
theorem mi_226_70 : mI 226 70 = (5, 0, 0, 0, 0) := by decide +kernel
theorem mi_226_71 : mI 226 71 = (17, 1220, 31, 11, 14) := by decide +kernel
theorem mi_226_74 : mI 226 74 = (1, 6, 1, 0, 0) := by decide +kernel
theorem mi_226_76 : mI 226 76 = (1, 7, 1, 0, 0) := by decide +kernel
theorem mi_226_78 : mI 226 78 = (3, 0, 1, 0, 0) := by decide +kernel
theorem mi_226_79 : mI 226 79 = (10, 0, 2, 0, 0) := by decide +kernel
theorem mi_226_80 : mI 226 80 = (10, 0, 0, 0, 0) := by decide +kernel
theorem mi_226_81 : mI 226 81 = (1, 1, 0, 0, 0) := by decide +kernel
theorem mi_226_82 : mI 226 82 = (10, 0, 0, 0, 0) := by decide +kernel
theorem mi_226_83 : mI 226 83 = (3, 0, 2, 0, 0) := by decide +kernel
theorem mi_226_84 : mI 226 84 = (10, 0, 0, 0, 0) := by decide +kernel
theorem mi_226_85 : mI 226 85 = (3, 0, 3, 0, 0) := by decide +kernel
theorem mi_226_86 : mI 226 86 = (20, 0, 0, 0, 0) := by decide +kernel
theorem mi_226_87 : mI 226 87 = (9, 1, 2, 0, 0) := by decide +kernel
theorem mi_226_90 : mI 226 90 = (5, 0, 0, 0, 0) := by decide +kernel
theorem mi_226_91 : mI 226 91 = (17, 1216, 112, 11, 10) := by decide +kernel
theorem mi_226_94 : mI 226 94 = (1, 3, 0, 0, 0) := by decide +kernel
theorem mi_226_95 : mI 226 95 = (15, (-86), 1, 9, 0) := by decide +kernel
theorem mi_226_98 : mI 226 98 = (5, 0, 0, 0, 0) := by decide +kernel
theorem mi_226_99 : mI 226 99 = (17, 1220, 31, 11, 14) := by decide +kernel
theorem mi_226_102 : mI 226 102 = (1, 6, 1, 0, 0) := by decide +kernel
theorem mi_226_104 : mI 226 104 = (1, 7, 1, 0, 0) := by decide +kernel
theorem mi_226_106 : mI 226 106 = (3, 0, 1, 0, 0) := by decide +kernel
theorem mi_226_107 : mI 226 107 = (10, 0, 2, 0, 0) := by decide +kernel
theorem mi_226_108 : mI 226 108 = (10, 0, 0, 0, 0) := by decide +kernel
theorem mi_226_109 : mI 226 109 = (3, 0, 2, 0, 0) := by decide +kernel
theorem mi_226_110 : mI 226 110 = (20, 0, 0, 0, 0) := by decide +kernel
theorem mi_226_111 : mI 226 111 = (5, 0, 0, 0, 0) := by decide +kernel
theorem mi_226_112 : mI 226 112 = (17, 1220, 31, 11, 14) := by decide +kernel
theorem mi_226_115 : mI 226 115 = (1, 48, 1, 0, 0) := by decide +kernel
theorem mi_226_117 : mI 226 117 = (3, 0, 1, 0, 0) := by decide +kernel
theorem mi_226_118 : mI 226 118 = (10, 0, 0, 0, 0) := by decide +kernel
theorem mi_226_119 : mI 226 119 = (1, 1, 0, 0, 0) := by decide +kernel
theorem mi_226_120 : mI 226 120 = (20, 0, 0, 0, 0) := by decide +kernel
theorem mi_226_121 : mI 226 121 = (5, 0, 0, 0, 0) := by decide +kernel
theorem mi_226_122 : mI 226 122 = (17, 1220, 31, 11, 14) := by decide +kernel
theorem mi_226_125 : mI 226 125 = (1, 3, 0, 0, 0) := by decide +kernel
theorem mi_226_126 : mI 226 126 = (22, 0, 1, 0, 0) := by decide +kernel
theorem mi_226_127 : mI 226 127 = (19, 0, 0, 0, 0) := by decide +kernel
theorem mi_226_128 : mI 226 128 = (1, 1, 0, 0, 0) := by decide +kernel
theorem mi_226_129 : mI 226 129 = (10, 0, 0, 0, 0) := by decide +kernel
theorem mi_226_130 : mI 226 130 = (20, 0, 0, 0, 0) := by decide +kernel
theorem mi_226_131 : mI 226 131 = (27, 0, 2, 0, 0) := by decide +kernel
theorem mi_227_0 : mI 227 0 = (5, 0, 0, 0, 0) := by decide +kernel
theorem mi_227_1 : mI 227 1 = (1, 0, 0, 0, 0) := by decide +kernel
theorem mi_227_2 : mI 227 2 = (5, 0, 0, 0, 0) := by decide +kernel
theorem mi_227_3 : mI 227 3 = (17, 1220, 31, 11, 14) := by decide +kernel
theorem mi_227_6 : mI 227 6 = (1, 6, 1, 0, 0) := by decide +kernel
theorem mi_227_8 : mI 227 8 = (1, 7, 1, 0, 0) := by decide +kernel
theorem mi_227_10 : mI 227 10 = (3, 0, 1, 0, 0) := by decide +kernel
theorem mi_227_11 : mI 227 11 = (10, 0, 2, 0, 0) := by decide +kernel
theorem mi_227_12 : mI 227 12 = (10, 0, 0, 0, 0) := by decide +kernel
theorem mi_227_13 : mI 227 13 = (19, 0, 0, 0, 0) := by decide +kernel
theorem mi_227_14 : mI 227 14 = (1, 1, 0, 0, 0) := by decide +kernel
theorem mi_227_15 : mI 227 15 = (10, 0, 1, 0, 0) := by decide +kernel
theorem mi_227_16 : mI 227 16 = (26, 1394, 168, 219, 0) := by decide +kernel
theorem mi_227_19 : mI 227 19 = (27, 0, 0, 0, 0) := by decide +kernel
theorem mi_228_0 : mI 228 0 = (5, 0, 0, 0, 0) := by decide +kernel
theorem mi_228_1 : mI 228 1 = (26, 1415, 171, 222, 0) := by decide +kernel
theorem mi_228_4 : mI 228 4 = (6, 0, 1, 0, 0) := by decide +kernel
theorem mi_228_5 : mI 228 5 = (5, 0, 0, 0, 0) := by decide +kernel
theorem mi_228_6 : mI 228 6 = (1, 0, 0, 0, 0) := by decide +kernel
theorem mi_228_7 : mI 228 7 = (5, 0, 0, 0, 0) := by decide +kernel
theorem mi_228_8 : mI 228 8 = (17, 1220, 31, 11, 14) := by decide +kernel
theorem mi_228_11 : mI 228 11 = (1, 1, 0, 0, 0) := by decide +kernel
theorem mi_228_12 : mI 228 12 = (19, 0, 0, 0, 0) := by decide +kernel
theorem mi_228_13 : mI 228 13 = (1, 1, 0, 0, 0) := by decide +kernel
theorem mi_228_14 : mI 228 14 = (10, 0, 1, 0, 0) := by decide +kernel
theorem mi_228_15 : mI 228 15 = (26, 1394, 168, 219, 0) := by decide +kernel
theorem mi_228_18 : mI 228 18 = (6, 0, 2, 0, 0) := by decide +kernel
theorem mi_228_19 : mI 228 19 = (5, 0, 0, 0, 0) := by decide +kernel
theorem mi_228_20 : mI 228 20 = (35, 0, 186, 16, 0) := by decide +kernel
theorem mi_228_22 : mI 228 22 = (26, 1371, 164, 218, 0) := by decide +kernel
theorem mi_228_25 : mI 228 25 = (5, 0, 0, 0, 0) := by decide +kernel
theorem mi_228_26 : mI 228 26 = (26, 1424, 187, 224, 0) := by decide +kernel
theorem mi_228_29 : mI 228 29 = (6, 0, 3, 0, 0) := by decide +kernel
theorem mi_228_30 : mI 228 30 = (5, 0, 0, 0, 0) := by decide +kernel
theorem mi_228_31 : mI 228 31 = (26, 1358, 136, 214, 0) := by decide +kernel
theorem mi_228_34 : mI 228 34 = (14, 15, 0, 49, 0) := by decide +kernel
theorem mi_228_37 : mI 228 37 = (5, 0, 0, 0, 0) := by decide +kernel
theorem mi_228_38 : mI 228 38 = (17, 1221, 34, 11, 15) := by decide +kernel
theorem mi_228_41 : mI 228 41 = (1, 24, 1, 0, 0) := by decide +kernel
theorem mi_228_43 : mI 228 43 = (3, 0, 1, 0, 0) := by decide +kernel
theorem mi_228_44 : mI 228 44 = (10, 0, 2, 0, 0) := by decide +kernel
theorem mi_228_45 : mI 228 45 = (3, 0, 3, 0, 0) := by decide +kernel
theorem mi_228_46 : mI 228 46 = (10, 0, 0, 0, 0) := by decide +kernel
theorem mi_228_47 : mI 228 47 = (3, 0, 2, 0, 0) := by decide +kernel
theorem mi_228_48 : mI 228 48 = (20, 0, 0, 0, 0) := by decide +kernel
theorem mi_228_49 : mI 228 49 = (27, 0, 2, 0, 0) := by decide +kernel
theorem mi_229_0 : mI 229 0 = (5, 0, 0, 0, 0) := by decide +kernel
theorem mi_229_1 : mI 229 1 = (26, 1415, 171, 222, 0) := by decide +kernel
theorem mi_229_4 : mI 229 4 = (6, 0, 1, 0, 0) := by decide +kernel
theorem mi_229_5 : mI 229 5 = (5, 0, 0, 0, 0) := by decide +kernel
theorem mi_229_6 : mI 229 6 = (3, 0, 1, 0, 0) := by decide +kernel
theorem mi_229_7 : mI 229 7 = (26, 1432, 190, 223, 0) := by decide +kernel
theorem mi_229_10 : mI 229 10 = (6, 0, 2, 0, 0) := by decide +kernel
theorem mi_229_11 : mI 229 11 = (5, 0, 0, 0, 0) := by decide +kernel
theorem mi_229_12 : mI 229 12 = (3, 0, 2, 0, 0) := by decide +kernel
theorem mi_229_13 : mI 229 13 = (26, 1436, 193, 227, 0) := by decide +kernel
theorem mi_229_16 : mI 229 16 = (6, 0, 3, 0, 0) := by decide +kernel
theorem mi_229_17 : mI 229 17 = (5, 0, 0, 0, 0) := by decide +kernel
theorem mi_229_18 : mI 229 18 = (26, 1358, 136, 214, 0) := by decide +kernel
theorem mi_229_21 : mI 229 21 = (14, 23, 0, 44, 0) := by decide +kernel
theorem mi_229_24 : mI 229 24 = (5, 0, 0, 0, 0) := by decide +kernel
theorem mi_229_25 : mI 229 25 = (17, 1220, 31, 11, 14) := by decide +kernel
theorem mi_229_28 : mI 229 28 = (1, 66, 1, 0, 0) := by decide +kernel
theorem mi_229_30 : mI 229 30 = (1, 6, 1, 0, 0) := by decide +kernel
theorem mi_229_32 : mI 229 32 = (3, 0, 1, 0, 0) := by decide +kernel
theorem mi_229_33 : mI 229 33 = (10, 0, 2, 0, 0) := by decide +kernel
theorem mi_229_34 : mI 229 34 = (10, 0, 0, 0, 0) := by decide +kernel
theorem mi_229_35 : mI 229 35 = (3, 0, 2, 0, 0) := by decide +kernel
theorem mi_229_36 : mI 229 36 = (10, 0, 0, 0, 0) := by decide +kernel
theorem mi_229_37 : mI 229 37 = (22, 0, 1, 0, 0) := by decide +kernel
theorem mi_229_38 : mI 229 38 = (19, 0, 0, 0, 0) := by decide +kernel
theorem mi_229_39 : mI 229 39 = (1, 1, 0, 0, 0) := by decide +kernel
theorem mi_229_40 : mI 229 40 = (3, 0, 3, 0, 0) := by decide +kernel
theorem mi_229_41 : mI 229 41 = (10, 0, 8, 0, 0) := by decide +kernel
theorem mi_229_42 : mI 229 42 = (10, 0, 6, 0, 0) := by decide +kernel
theorem mi_229_43 : mI 229 43 = (20, 0, 0, 0, 0) := by decide +kernel
theorem mi_229_44 : mI 229 44 = (27, 0, 2, 0, 0) := by decide +kernel
theorem mi_230_0 : mI 230 0 = (1, 246, 2, 0, 0) := by decide +kernel
theorem mi_230_3 : mI 230 3 = (1, 4, 0, 0, 0) := by decide +kernel
theorem mi_230_4 : mI 230 4 = (5, 0, 0, 0, 0) := by decide +kernel
theorem mi_230_5 : mI 230 5 = (17, 1220, 31, 11, 14) := by decide +kernel
theorem mi_230_8 : mI 230 8 = (1, 4, 0, 0, 0) := by decide +kernel
theorem mi_230_9 : mI 230 9 = (19, 0, 0, 0, 0) := by decide +kernel
theorem mi_230_10 : mI 230 10 = (10, 0, 2, 0, 0) := by decide +kernel
theorem mi_230_11 : mI 230 11 = (10, 0, 0, 0, 0) := by decide +kernel
theorem mi_230_12 : mI 230 12 = (6, 0, 1, 0, 0) := by decide +kernel
theorem mi_230_13 : mI 230 13 = (5, 0, 0, 0, 0) := by decide +kernel
theorem mi_230_14 : mI 230 14 = (26, 1415, 171, 222, 0) := by decide +kernel
theorem mi_230_17 : mI 230 17 = (6, 0, 2, 0, 0) := by decide +kernel
theorem mi_230_18 : mI 230 18 = (5, 0, 0, 0, 0) := by decide +kernel
theorem mi_230_19 : mI 230 19 = (26, 1415, 171, 222, 0) := by decide +kernel
theorem mi_230_22 : mI 230 22 = (6, 0, 3, 0, 0) := by decide +kernel
theorem mi_230_23 : mI 230 23 = (5, 0, 0, 0, 0) := by decide +kernel
theorem mi_230_24 : mI 230 24 = (3, 0, 3, 0, 0) := by decide +kernel
theorem mi_230_25 : mI 230 25 = (26, 1436, 193, 227, 0) := by decide +kernel
theorem mi_230_28 : mI 230 28 = (6, 0, 4, 1, 0) := by decide +kernel
theorem mi_230_30 : mI 230 30 = (5, 0, 0, 0, 0) := by decide +kernel
theorem mi_230_31 : mI 230 31 = (35, 0, 186, 16, 0) := by decide +kernel
theorem mi_230_33 : mI 230 33 = (26, 1371, 164, 218, 0) := by decide +kernel
theorem mi_230_36 : mI 230 36 = (5, 0, 0, 0, 0) := by decide +kernel
theorem mi_230_37 : mI 230 37 = (26, 1424, 187, 224, 0) := by decide +kernel
theorem mi_230_40 : mI 230 40 = (6, 0, 5, 1, 0) := by decide +kernel
theorem mi_230_42 : mI 230 42 = (5, 0, 0, 0, 0) := by decide +kernel
theorem mi_230_43 : mI 230 43 = (26, 1358, 136, 214, 0) := by decide +kernel
theorem mi_230_46 : mI 230 46 = (14, 4, 1, 50, 0) := by decide +kernel
theorem mi_230_49 : mI 230 49 = (27, 0, 2, 0, 0) := by decide +kernel
theorem mi_230_50 : mI 230 50 = (5, 0, 0, 0, 0) := by decide +kernel
theorem mi_230_51 : mI 230 51 = (17, 1220, 31, 11, 14) := by decide +kernel
theorem mi_230_54 : mI 230 54 = (3, 0, 1, 0, 0) := by decide +kernel
theorem mi_230_55 : mI 230 55 = (1, 0, 0, 0, 0) := by decide +kernel
theorem mi_230_56 : mI 230 56 = (10, 0, 0, 0, 0) := by decide +kernel
theorem mi_230_57 : mI 230 57 = (3, 0, 2, 0, 0) := by decide +kernel
theorem mi_230_58 : mI 230 58 = (20, 0, 0, 0, 0) := by decide +kernel
theorem mi_230_59 : mI 230 59 = (5, 0, 0, 0, 0) := by decide +kernel
theorem mi_230_60 : mI 230 60 = (17, 1220, 31, 11, 14) := by decide +kernel
theorem mi_230_63 : mI 230 63 = (3, 0, 1, 0, 0) := by decide +kernel
theorem mi_230_64 : mI 230 64 = (1, 1, 0, 0, 0) := by decide +kernel
theorem mi_230_65 : mI 230 65 = (10, 0, 0, 0, 0) := by decide +kernel
theorem mi_230_66 : mI 230 66 = (3, 0, 3, 0, 0) := by decide +kernel
theorem mi_230_67 : mI 230 67 = (20, 0, 0, 0, 0) := by decide +kernel
theorem mi_230_68 : mI 230 68 = (5, 0, 0, 0, 0) := by decide +kernel
theorem mi_230_69 : mI 230 69 = (17, 1220, 31, 11, 14) := by decide +kernel
theorem mi_230_72 : mI 230 72 = (3, 0, 1, 0, 0) := by decide +kernel
theorem mi_230_73 : mI 230 73 = (1, 2, 0, 0, 0) := by decide +kernel
theorem mi_230_74 : mI 230 74 = (10, 0, 0, 0, 0) := by decide +kernel
theorem mi_230_75 : mI 230 75 = (3, 0, 4, 1, 0) := by decide +kernel
theorem mi_230_77 : mI 230 77 = (20, 0, 0, 0, 0) := by decide +kernel
theorem mi_230_78 : mI 230 78 = (5, 0, 0, 0, 0) := by decide +kernel
theorem mi_230_79 : mI 230 79 = (17, 1220, 31, 11, 14) := by decide +kernel
theorem mi_230_82 : mI 230 82 = (3, 0, 1, 0, 0) := by decide +kernel
theorem mi_230_83 : mI 230 83 = (1, 3, 0, 0, 0) := by decide +kernel
theorem mi_230_84 : mI 230 84 = (10, 0, 0, 0, 0) := by decide +kernel
theorem mi_230_85 : mI 230 85 = (3, 0, 5, 1, 0) := by decide +kernel
theorem mi_230_87 : mI 230 87 = (20, 0, 0, 0, 0) := by decide +kernel
theorem mi_230_88 : mI 230 88 = (5, 0, 0, 0, 0) := by decide +kernel
theorem mi_230_89 : mI 230 89 = (17, 1220, 31, 11, 14) := by decide +kernel
theorem mi_230_92 : mI 230 92 = (1, 4, 0, 0, 0) := by decide +kernel
theorem mi_230_93 : mI 230 93 = (22, 0, 1, 0, 0) := by decide +kernel
theorem mi_230_94 : mI 230 94 = (19, 0, 0, 0, 0) := by decide +kernel
theorem mi_230_95 : mI 230 95 = (1, 1, 0, 0, 0) := by decide +kernel
theorem mi_230_96 : mI 230 96 = (10, 0, 0, 0, 0) := by decide +kernel
theorem mi_230_97 : mI 230 97 = (20, 0, 0, 0, 0) := by decide +kernel
theorem mi_230_98 : mI 230 98 = (27, 0, 2, 0, 0) := by decide +kernel
section TKS
variable {l : Launch} {D : va_G} {tys : List (ClassId × FieldType)} {A : Nat → Prop} {ad : Nat → Nat} {ws : va_W}
theorem num_bd {B : Nat → Int} {n : Nat} : ∀ {f i : Nat} {v : Int}, 0 ≤ v → v ≤ 99999 → 0 ≤ numS B n f i v ∧ numS B n f i v ≤ 99999
  | 0, i, v, h0, h1 => ⟨h0, h1⟩
  | f + 1, i, v, h0, h1 => by
    unfold numS
    split
    · next hd =>
      unfold diB at hd
      rw [Bool.and_eq_true, decide_eq_true_eq, decide_eq_true_eq] at hd
      exact num_bd (by omega) (by omega)
    · exact ⟨h0, h1⟩
theorem tk_bd {B : Nat → Int} {n a : Nat} {v : Int} (ha : a ≤ n) (v0 : -2147483648 ≤ v) (v1 : v ≤ 2147483647) : (0 ≤ tkK B n a ∧ tkK B n a ≤ 4) ∧ (a ≤ tkI B n a ∧ tkI B n a ≤ tkE B n a ∧ tkE B n a ≤ n) ∧ (-2147483648 ≤ tkV B n a v ∧ tkV B n a v ≤ 2147483647) := by
  have i1 : a ≤ tkI B n a := run_ge
  have i2 : tkI B n a ≤ n := run_le (by decide) ha
  have hn : (0 : Int) ≤ numS B n 1401 (tkI B n a) 0 ∧ numS B n 1401 (tkI B n a) 0 ≤ 99999 := num_bd (by omega) (by omega)
  have r1 : tkI B n a ≤ runS leB B n 1401 (tkI B n a) ∧ runS leB B n 1401 (tkI B n a) ≤ n := ⟨run_ge, run_le (by decide) i2⟩
  have r2 : tkI B n a ≤ runS diB B n 1401 (tkI B n a) ∧ runS diB B n 1401 (tkI B n a) ≤ n := ⟨run_ge, run_le (by decide) i2⟩
  have hc : tkC B n a ≠ -1 → tkI B n a < n := fun h => see_lt h
  refine ⟨?_, ⟨i1, ?_⟩, ?_⟩
  · unfold tkK
    repeat' split
    all_goals omega
  · unfold tkE
    split
    · omega
    · next h =>
      have := hc h
      split
      · omega
      · split <;> omega
  · unfold tkV
    repeat' split
    all_goals omega
/-- where a reader stands: the token (kind, start, stop, number), the fault (kind, place) -/
noncomputable abbrev TS : Type := (Int × Nat × Nat × Int) × (Int × Int)
noncomputable def tsOK (n : Nat) (s : TS) : Prop := (0 ≤ s.1.1 ∧ s.1.1 ≤ 4) ∧ (s.1.2.1 ≤ s.1.2.2.1 ∧ s.1.2.2.1 ≤ n) ∧ (-2147483648 ≤ s.1.2.2.2 ∧ s.1.2.2.2 ≤ 2147483647) ∧ (0 ≤ s.2.1 ∧ s.2.1 ≤ 3)
noncomputable def advS (B : Nat → Int) (n : Nat) (s : TS) : TS := ((tkK B n s.1.2.2.1, tkI B n s.1.2.2.1, tkE B n s.1.2.2.1, tkV B n s.1.2.2.1 s.1.2.2.2), s.2)
noncomputable def errS (e : Int) (s : TS) : TS := if s.2.1 = 0 then (s.1, (e, (s.1.2.1 : Int))) else s
noncomputable def isSp (B : Nat → Int) (n : Nat) (cs : List Int32) (s : TS) : Bool := isB s.2.1 s.1.1 B n s.1.2.1 s.1.2.2.1 cs
noncomputable def takeS (B : Nat → Int) (n : Nat) (cs : List Int32) (s : TS) : TS := if isSp B n cs s = true then advS B n s else s
noncomputable def needS (B : Nat → Int) (n : Nat) (cs : List Int32) (s : TS) : TS := if isSp B n cs s = true then advS B n s else errS 1 s
noncomputable def num1 (s : TS) : TS := if s.2.1 = 0 ∧ s.1.1 ≠ 2 then errS 1 s else s
noncomputable def num2 (lo hi : Int) (s : TS) : TS := if (num1 s).2.1 = 0 ∧ ¬ (lo ≤ (num1 s).1.2.2.2 ∧ (num1 s).1.2.2.2 ≤ hi) then errS 2 (num1 s) else num1 s
noncomputable def numT (B : Nat → Int) (n : Nat) (lo hi : Int) (s : TS) : TS := if (num2 lo hi s).2.1 = 0 then advS B n (num2 lo hi s) else num2 lo hi s
noncomputable def numR (lo hi : Int) (s : TS) : Int := if (num2 lo hi s).2.1 = 0 then (num2 lo hi s).1.2.2.2 else 0
theorem adv_OK {B : Nat → Int} {n : Nat} {s : TS} (h : tsOK n s) : tsOK n (advS B n s) := by
  obtain ⟨h1, h2, h3, h4⟩ := h
  obtain ⟨t1, t2, t3⟩ := tk_bd (B := B) (n := n) (a := s.1.2.2.1) (v := s.1.2.2.2) h2.2 h3.1 h3.2
  exact ⟨t1, t2.2, t3, h4⟩
theorem err_OK {n : Nat} {e : Int} {s : TS} (h : tsOK n s) (e1 : 1 ≤ e) (e3 : e ≤ 3) : tsOK n (errS e s) := by
  unfold errS
  split
  · exact ⟨h.1, h.2.1, h.2.2.1, by show 0 ≤ e; omega, e3⟩
  · exact h
/-- nothing but the reader's own places -/
noncomputable def MKO (w0 w : va_W) : Prop := ∀ c j, ¬ (c = 90 ∧ 8 ≤ j ∧ j ≤ 13) → rd w c j = rd w0 c j
theorem MKO_rf {w : va_W} : MKO w w := fun _ _ _ => rfl
theorem MKO_upd {w0 w w' : va_W} {j : Nat} {v : Value} (h : MKO w0 w) (hu : Upd1 w w' 90 j v) (h8 : 8 ≤ j) (h13 : j ≤ 13) : MKO w0 w' := fun c' j' hn => (upd_ne hu (fun q => hn ⟨q.1, by omega, by omega⟩)).trans (h c' j' hn)
theorem MKO_tko {w0 w w' : va_W} (h : MKO w0 w) (hu : TKO w w') : MKO w0 w' := fun c' j' hn => (hu c' j' (fun q => hn ⟨q.1, q.2.1, by omega⟩)).trans (h c' j' hn)
/-- the reference stands so -/
noncomputable def MSt (n : Nat) (B : Nat → Int) (s : TS) (w : va_W) : Prop := TXM w n B ∧ tsOK n s ∧ rd w 90 10 = some (.int (Int32.ofInt s.1.1)) ∧ rd w 90 9 = some (.int (Int32.ofInt (s.1.2.1 : Int))) ∧ rd w 90 8 = some (.int (Int32.ofInt (s.1.2.2.1 : Int))) ∧ rd w 90 11 = some (.int (Int32.ofInt s.1.2.2.2)) ∧ rd w 90 12 = some (.int (Int32.ofInt s.2.1)) ∧ rd w 90 13 = some (.int (Int32.ofInt s.2.2))
noncomputable def MSQ (ad : Nat → Nat) (tys : List (ClassId × FieldType)) (n : Nat) (B : Nat → Int) (w0 : va_W) (s : TS) (w : va_W) : Prop := GOK ad tys GG w ∧ MSt n B s w ∧ MKO w0 w
theorem advm_ct {n : Nat} {B : Nat → Int} {s : TS} {w0 : va_W} (h : MSQ ad tys n B w0 s ws) : CT l D tys A 213 1 0 0 [.ref (ad 90)] ws (fun r w => r = none ∧ MSQ ad tys n B w0 (advS B n s) w) := by
  obtain ⟨hG, ⟨T, ok, h10, h9, h8, h11, h12, h13⟩, O⟩ := h
  refine CT_post (adm_ct hG T ok.2.1.2 h8 h11) ?_
  rintro r w ⟨rfl, G1, O1, k8, k9, k10, k11⟩
  refine ⟨rfl, G1, ⟨⟨(O1 _ _ (by omega)).trans T.1, T.2.1, fun k hk => ⟨(O1 _ _ (by omega)).trans (T.2.2 k hk).1, (T.2.2 k hk).2⟩⟩, adv_OK ok, k10, k9, k8, k11, ?_, ?_⟩, MKO_tko O O1⟩
  · exact (O1 _ _ (by omega)).trans h12
  · exact (O1 _ _ (by omega)).trans h13
theorem errm_ct {n : Nat} {B : Nat → Int} {s : TS} {w0 : va_W} {e : Int} (h : MSQ ad tys n B w0 s ws) (e1 : 1 ≤ e) (e3 : e ≤ 3) : CT l D tys A 215 1 0 0 [.ref (ad 90), .int (Int32.ofInt e)] ws (fun r w => r = none ∧ MSQ ad tys n B w0 (errS e s) w) := by
  obtain ⟨hG, ⟨T, ok, h10, h9, h8, h11, h12, h13⟩, O⟩ := h
  have ok2 := err_OK ok e1 e3
  obtain ⟨b1, b2, b3, b4⟩ := ok
  have n1 := T.2.1
  refine CT_of_V (by omega) (show (2 : Nat) ≤ mML 215 by decide +kernel) ?_
  refine V_aload (v := ad 90) mi_215_0 (List.Mem.head _) ?_
  refine V_callM (As := []) (st := []) mi_215_1 (by omega) (by decide +kernel) (by decide +kernel) hG (good_ct hG h12 b4.1 b4.2) (by omega) (show 0 = mN 214 by decide +kernel) (by simp) ?_
  rintro r w ⟨rfl, rfl⟩
  unfold errS at ok2 ⊢
  by_cases hf0 : s.2.1 = 0
  · rw [if_pos hf0] at ok2 ⊢
    rw [if_pos hf0]
    refine V_if mi_215_4 (fun _ => ?_) (fun h1 => absurd (show (1 : Int32) ≠ 0 by decide) h1)
    refine V_aload (v := ad 90) mi_215_8 (List.Mem.head _) ?_
    refine V_iload (v := Int32.ofInt e) mi_215_9 (List.Mem.tail _ (List.Mem.head _)) ?_
    have te : (Int32.ofInt e).toInt = e := Int32.toInt_ofInt_of_le (by omega) (by omega)
    refine V_putI mi_215_10 hG f12 (by omega) rfl (by decide +kernel) (by omega) (by omega) (fun w1 G1 U1 => ?_)
    have tr : (Int32.ofInt (s.1.2.1 : Int)).toInt = (s.1.2.1 : Int) := Int32.toInt_ofInt_of_le (by omega) (by omega)
    refine V_aload (v := ad 90) mi_215_13 (List.Mem.head _) ?_
    refine V_aload (v := ad 90) mi_215_14 (List.Mem.head _) ?_
    refine V_getI mi_215_15 G1 ((upd_ne U1 (by omega)).trans h9) ?_
    refine V_putI mi_215_18 G1 f13 (by omega) rfl (by decide +kernel) (by omega) (by omega) (fun w2 G2 U2 => ?_)
    have pp : ∀ j, j ≠ 12 → j ≠ 13 → rd w2 90 j = rd w 90 j := fun j h1 h2 => (upd_ne U2 (fun q => h2 q.2)).trans (upd_ne U1 (fun q => h1 q.2))
    refine V_retV mi_215_21 ⟨rfl, G2, ⟨TXM_upd (TXM_upd T U1 (by omega)) U2 (by omega), ok2, (pp _ (by omega) (by omega)).trans h10, (pp _ (by omega) (by omega)).trans h9, (pp _ (by omega) (by omega)).trans h8, (pp _ (by omega) (by omega)).trans h11, ?_, upd_eq U2⟩, MKO_upd (MKO_upd O U1 (by omega) (by omega)) U2 (by omega) (by omega)⟩
    rw [upd_ne U2 (by omega)]
    exact upd_eq U1
  · rw [if_neg hf0] at ok2 ⊢
    rw [if_neg hf0]
    refine V_if mi_215_4 (fun h1 => absurd (show (0 : Int32) = 0 from rfl) h1) (fun _ => ?_)
    exact V_retV mi_215_7 ⟨rfl, hG, ⟨T, ok2, h10, h9, h8, h11, h12, h13⟩, O⟩
theorem ism_ct {i : Nat} {q : String × Nat × String × List Int32} (hq : xsT[i]? = some q) (hl : q.2.2.2.length ≤ 9) (hl1 : 1 ≤ q.2.2.2.length) {n : Nat} {B : Nat → Int} {s : TS} {w0 : va_W} (h : MSQ ad tys n B w0 s ws) : CT l D tys A 216 4 0 0 [.ref (ad 90), .ref (D.2 1000 i)] ws (fun r w' => w' = ws ∧ r = some (.int (bI (isSp B n q.2.2.2 s)))) := by
  obtain ⟨hG, ⟨T, ok, h10, h9, h8, h11, h12, h13⟩, O⟩ := h
  obtain ⟨b1, b2, b3, b4⟩ := ok
  exact isx_ct hq hl hl1 hG T h12 b4.1 b4.2 h10 b1.1 b1.2 h8 h9 b2.2 b2.1
theorem bI1 {b : Bool} : bI b &&& 1 = bI b := by cases b <;> decide
theorem takem_ct {i : Nat} {q : String × Nat × String × List Int32} (hq : xsT[i]? = some q) (hl : q.2.2.2.length ≤ 9) (hl1 : 1 ≤ q.2.2.2.length) {n : Nat} {B : Nat → Int} {s : TS} {w0 : va_W} (h : MSQ ad tys n B w0 s ws) : CT l D tys A 217 5 0 0 [.ref (ad 90), .ref (D.2 1000 i)] ws (fun r w => r = some (.int (bI (isSp B n q.2.2.2 s))) ∧ MSQ ad tys n B w0 (takeS B n q.2.2.2 s) w) := by
  refine CT_of_V (by omega) (show (2 : Nat) ≤ mML 217 by decide +kernel) ?_
  refine V_aload (v := ad 90) mi_217_0 (List.Mem.head _) ?_
  refine V_aload (v := D.2 1000 i) mi_217_1 (List.Mem.tail _ (List.Mem.head _)) ?_
  refine V_callM (As := [.ref (D.2 1000 i)]) (st := []) mi_217_2 (by omega) (by decide +kernel) (by decide +kernel) h.1 (ism_ct hq hl hl1 h) (by omega) (show 1 = mN 216 by decide +kernel) (by simp) ?_
  rintro r w ⟨rfl, rfl⟩
  refine V_istore mi_217_5 ?_
  refine V_iload (v := bI (isSp B n q.2.2.2 s)) mi_217_6 (by simp [stL]) ?_
  unfold takeS
  by_cases hb : isSp B n q.2.2.2 s = true
  · rw [hb, if_pos rfl]
    refine V_if mi_217_7 (fun h1 => absurd (show (1 : Int32) = 0 from h1) (by decide)) (fun _ => ?_)
    refine V_aload (v := ad 90) mi_217_10 (by simp [stL, lv_args, Value.category]) ?_
    refine V_callM (As := []) (st := []) mi_217_11 (by omega) (by decide +kernel) (by decide +kernel) h.1 (advm_ct h) (by omega) (show 0 = mN 213 by decide +kernel) (by simp) ?_
    rintro r w1 ⟨rfl, h1⟩
    refine V_iload (v := bI true) mi_217_14 (by simp [stL, lv_args, Value.category]) ?_
    exact V_retI mi_217_15 (fun _ => by decide) ⟨rfl, h1⟩
  · have hb := Bool.eq_false_iff.mpr hb
    rw [hb, if_neg (by decide)]
    refine V_if mi_217_7 (fun _ => ?_) (fun h1 => absurd (show (0 : Int32) = 0 from rfl) h1)
    refine V_iload (v := bI false) mi_217_14 (by simp [stL, lv_args, Value.category]) ?_
    exact V_retI mi_217_15 (fun _ => by decide) ⟨rfl, h⟩
theorem needm_ct {i : Nat} {q : String × Nat × String × List Int32} (hq : xsT[i]? = some q) (hl : q.2.2.2.length ≤ 9) (hl1 : 1 ≤ q.2.2.2.length) {n : Nat} {B : Nat → Int} {s : TS} {w0 : va_W} (h : MSQ ad tys n B w0 s ws) : CT l D tys A 218 6 0 0 [.ref (ad 90), .ref (D.2 1000 i)] ws (fun r w => r = none ∧ MSQ ad tys n B w0 (needS B n q.2.2.2 s) w) := by
  refine CT_of_V (by omega) (show (2 : Nat) ≤ mML 218 by decide +kernel) ?_
  refine V_aload (v := ad 90) mi_218_0 (List.Mem.head _) ?_
  refine V_aload (v := D.2 1000 i) mi_218_1 (List.Mem.tail _ (List.Mem.head _)) ?_
  refine V_callM (As := [.ref (D.2 1000 i)]) (st := []) mi_218_2 (by omega) (by decide +kernel) (by decide +kernel) h.1 (takem_ct hq hl hl1 h) (by omega) (show 1 = mN 217 by decide +kernel) (by simp) ?_
  rintro r w ⟨rfl, h1⟩
  unfold takeS at h1
  unfold needS
  by_cases hb : isSp B n q.2.2.2 s = true
  · rw [if_pos hb] at h1 ⊢
    rw [hb]
    refine V_if mi_218_5 (fun _ => ?_) (fun h1 => absurd (show (1 : Int32) ≠ 0 by decide) h1)
    exact V_retV mi_218_13 ⟨rfl, h1⟩
  · rw [if_neg hb] at h1 ⊢
    rw [Bool.eq_false_iff.mpr hb]
    refine V_if mi_218_5 (fun h1 => absurd (show (0 : Int32) = 0 from rfl) h1) (fun _ => ?_)
    refine V_aload (v := ad 90) mi_218_8 (List.Mem.head _) ?_
    refine V_ipush mi_218_9 ?_
    refine V_callM (As := [.int (Int32.ofInt 1)]) (st := []) mi_218_10 (by omega) (by decide +kernel) (by decide +kernel) h1.1 (errm_ct h1 (by omega) (by omega)) (by omega) (show 1 = mN 215 by decide +kernel) (by simp) ?_
    rintro r w1 ⟨rfl, h2⟩
    exact V_retV mi_218_13 ⟨rfl, h2⟩
end TKS
section TKR
variable {l : Launch} {D : va_G} {tys : List (ClassId × FieldType)} {A : Nat → Prop} {ad : Nat → Nat} {ws : va_W}
theorem inM2 {m lo hi : Int} (h1 : -2147483648 ≤ m) (h2 : m ≤ 2147483647) (a1 : -2147483648 ≤ lo) (a2 : lo ≤ 2147483647) (b1 : -2147483648 ≤ hi) (b2 : hi ≤ 2147483647) : CT l D tys A 193 0 0 0 [.long (Int64.ofInt m), .long (Int64.ofInt lo), .long (Int64.ofInt hi)] ws (fun r w => w = ws ∧ r = some (.int (bI (decide (lo ≤ m ∧ m ≤ hi))))) := by
  refine CT_post (in2_ct (v := m) (lo := lo) (hi := hi) (by omega) (by omega) (by omega) (by omega) (by omega) (by omega)) (fun r w h => ⟨h.1, ?_⟩)
  rcases h.2 with ⟨e, q1, q2⟩ | ⟨e, q⟩
  · rw [e, decide_eq_true ⟨q1, q2⟩]; rfl
  · rw [e, decide_eq_false q]; rfl
noncomputable def LNu (ad : Nat → Nat) (lo hi : Int) : List (Nat × Value) := [(0, .ref (ad 90)), (1, .int (Int32.ofInt lo)), (2, .int (Int32.ofInt hi))]
theorem num_47 {n : Nat} {B : Nat → Int} {s : TS} {w0 w : va_W} {lo hi : Int} (h : MSQ ad tys n B w0 s w) : V l D tys A 219 2 0 0 (fun r w => r = some (.int (Int32.ofInt (if s.2.1 = 0 then s.1.2.2.2 else 0))) ∧ MSQ ad tys n B w0 (if s.2.1 = 0 then advS B n s else s) w) 0 0 47 (LNu ad lo hi) [] w := by
  have h' := h
  obtain ⟨hG, ⟨T, ok, h10, h9, h8, h11, h12, h13⟩, O⟩ := h'
  obtain ⟨b1, b2, b3, b4⟩ := ok
  refine V_aload (v := ad 90) mi_219_47 (List.Mem.head _) ?_
  refine V_callM (As := []) (st := []) mi_219_48 (by omega) (by decide +kernel) (by decide +kernel) hG (good_ct hG h12 b4.1 b4.2) (by omega) (show 0 = mN 214 by decide +kernel) (by simp) ?_
  rintro r w1 ⟨rfl, rfl⟩
  by_cases hf : s.2.1 = 0
  · rw [if_pos hf, if_pos hf, if_pos hf]
    refine V_if mi_219_51 (fun _ => ?_) (fun h1 => absurd (show (1 : Int32) ≠ 0 by decide) h1)
    refine V_aload (v := ad 90) mi_219_56 (List.Mem.head _) ?_
    refine V_getI mi_219_57 hG h11 ?_
    refine V_istore mi_219_60 ?_
    refine V_aload (v := ad 90) mi_219_61 (by simp [stL, LNu, Value.category]) ?_
    refine V_callM (As := []) (st := []) mi_219_62 (by omega) (by decide +kernel) (by decide +kernel) h.1 (advm_ct h) (by omega) (show 0 = mN 213 by decide +kernel) (by simp) ?_
    rintro r w2 ⟨rfl, h1⟩
    refine V_iload (v := Int32.ofInt s.1.2.2.2) mi_219_65 (by simp [stL, LNu, Value.category]) ?_
    exact V_retI mi_219_66 (fun q => absurd q (by decide +kernel)) ⟨rfl, h1⟩
  · rw [if_neg hf, if_neg hf, if_neg hf]
    refine V_if mi_219_51 (fun h1 => absurd (show (0 : Int32) = 0 from rfl) h1) (fun _ => ?_)
    refine V_ipush mi_219_54 ?_
    exact V_retI mi_219_55 (fun q => absurd q (by decide +kernel)) ⟨rfl, h⟩
theorem num_20 {n : Nat} {B : Nat → Int} {s : TS} {w0 w : va_W} {lo hi : Int} (a1 : -2147483648 ≤ lo) (a2 : lo ≤ 2147483647) (c1 : -2147483648 ≤ hi) (c2 : hi ≤ 2147483647) (h : MSQ ad tys n B w0 s w) (post : Option Value → va_W → Prop) (kk : ∀ w' : va_W, MSQ ad tys n B w0 (if s.2.1 = 0 ∧ ¬ (lo ≤ s.1.2.2.2 ∧ s.1.2.2.2 ≤ hi) then errS 2 s else s) w' → V l D tys A 219 2 0 0 post 0 0 47 (LNu ad lo hi) [] w') : V l D tys A 219 2 0 0 post 0 0 20 (LNu ad lo hi) [] w := by
  have h' := h
  obtain ⟨hG, ⟨T, ok, h10, h9, h8, h11, h12, h13⟩, O⟩ := h'
  obtain ⟨b1, b2, b3, b4⟩ := ok
  refine V_aload (v := ad 90) mi_219_20 (List.Mem.head _) ?_
  refine V_callM (As := []) (st := []) mi_219_21 (by omega) (by decide +kernel) (by decide +kernel) hG (good_ct hG h12 b4.1 b4.2) (by omega) (show 0 = mN 214 by decide +kernel) (by simp) ?_
  rintro r w1 ⟨rfl, rfl⟩
  by_cases hf : s.2.1 = 0
  · rw [if_pos hf]
    refine V_if mi_219_24 (fun h1 => absurd (show (1 : Int32) = 0 from h1) (by decide)) (fun _ => ?_)
    refine V_aload (v := ad 90) mi_219_27 (List.Mem.head _) ?_
    refine V_getI mi_219_28 hG h11 ?_
    refine V_i2l mi_219_31 ?_
    rw [Int32.toInt64_ofInt b3.1 b3.2]
    refine V_iload (v := Int32.ofInt lo) mi_219_32 (by simp [LNu]) ?_
    refine V_i2l mi_219_33 ?_
    rw [Int32.toInt64_ofInt a1 a2]
    refine V_iload (v := Int32.ofInt hi) mi_219_34 (by simp [LNu]) ?_
    refine V_i2l mi_219_35 ?_
    rw [Int32.toInt64_ofInt c1 c2]
    refine V_stat (As := [.long (Int64.ofInt s.1.2.2.2), .long (Int64.ofInt lo), .long (Int64.ofInt hi)]) (st := []) mi_219_36 (by omega) (inM2 b3.1 b3.2 a1 a2 c1 c2) (by omega) (show 3 = mN 193 by decide +kernel) (by simp) ⟨Nat.le_refl _, Nat.le_refl _⟩ ?_
    rintro r w2 ⟨rfl, rfl⟩
    by_cases hi' : lo ≤ s.1.2.2.2 ∧ s.1.2.2.2 ≤ hi
    · rw [if_neg (fun q => q.2 hi')] at kk
      rw [decide_eq_true hi']
      exact V_if mi_219_39 (fun _ => kk _ h) (fun h1 => absurd (show (1 : Int32) ≠ 0 by decide) h1)
    · rw [if_pos ⟨hf, hi'⟩] at kk
      rw [decide_eq_false hi']
      refine V_if mi_219_39 (fun h1 => absurd (show (0 : Int32) = 0 from rfl) h1) (fun _ => ?_)
      refine V_aload (v := ad 90) mi_219_42 (List.Mem.head _) ?_
      refine V_ipush mi_219_43 ?_
      refine V_callM (As := [.int (Int32.ofInt 2)]) (st := []) mi_219_44 (by omega) (by decide +kernel) (by decide +kernel) h.1 (errm_ct h (by omega) (by omega)) (by omega) (show 1 = mN 215 by decide +kernel) (by simp) ?_
      rintro r w1 ⟨rfl, h2⟩
      exact kk _ h2
  · rw [if_neg hf]
    rw [if_neg (fun q => hf q.1)] at kk
    exact V_if mi_219_24 (fun _ => kk _ h) (fun h1 => absurd (show (0 : Int32) = 0 from rfl) h1)
theorem numm_ct {n : Nat} {B : Nat → Int} {s : TS} {w0 : va_W} {lo hi : Int} (a1 : -2147483648 ≤ lo) (a2 : lo ≤ 2147483647) (c1 : -2147483648 ≤ hi) (c2 : hi ≤ 2147483647) (h : MSQ ad tys n B w0 s ws) : CT l D tys A 219 2 0 0 [.ref (ad 90), .int (Int32.ofInt lo), .int (Int32.ofInt hi)] ws (fun r w => r = some (.int (Int32.ofInt (numR lo hi s))) ∧ MSQ ad tys n B w0 (numT B n lo hi s) w) := by
  have h' := h
  obtain ⟨hG, ⟨T, ok, h10, h9, h8, h11, h12, h13⟩, O⟩ := h'
  obtain ⟨b1, b2, b3, b4⟩ := ok
  refine CT_of_V (by omega) (show (3 : Nat) ≤ mML 219 by decide +kernel) ?_
  have fin : ∀ w : va_W, MSQ ad tys n B w0 (num1 s) w → V l D tys A 219 2 0 0 (fun r w => r = some (.int (Int32.ofInt (numR lo hi s))) ∧ MSQ ad tys n B w0 (numT B n lo hi s) w) 0 0 20 (LNu ad lo hi) [] w := by
    intro w hw
    refine num_20 a1 a2 c1 c2 hw _ (fun w' hw' => ?_)
    exact num_47 (s := num2 lo hi s) hw'
  refine V_aload (v := ad 90) mi_219_0 (List.Mem.head _) ?_
  refine V_callM (As := []) (st := []) mi_219_1 (by omega) (by decide +kernel) (by decide +kernel) hG (good_ct hG h12 b4.1 b4.2) (by omega) (show 0 = mN 214 by decide +kernel) (by simp) ?_
  rintro r w1 ⟨rfl, rfl⟩
  have sub : ∀ w : va_W, MSQ ad tys n B w0 (num1 s) w → V l D tys A 219 2 0 0 (fun r w => r = some (.int (Int32.ofInt (numR lo hi s))) ∧ MSQ ad tys n B w0 (numT B n lo hi s) w) 0 0 20 (lv_args 0 [.ref (ad 90), .int (Int32.ofInt lo), .int (Int32.ofInt hi)]) [] w := by
    intro w hw
    refine V_sub (lv' := LNu ad lo hi) (fun p hp => ?_) (fin w hw)
    simp only [LNu, List.mem_cons, List.not_mem_nil, or_false] at hp
    rcases hp with h | h | h <;> simp [h, LNu, stL, lv_args, Value.category]
  by_cases hf : s.2.1 = 0
  · rw [if_pos hf]
    refine V_if mi_219_4 (fun h1 => absurd (show (1 : Int32) = 0 from h1) (by decide)) (fun _ => ?_)
    refine V_aload (v := ad 90) mi_219_7 (List.Mem.head _) ?_
    refine V_getI mi_219_8 hG h10 ?_
    refine V_ipush mi_219_11 ?_
    have hc := cdP_iff (x := 0) (a := s.1.1) (b := 2) (by omega) (by omega) (by omega) (by omega)
    refine V_icmp mi_219_12 (fun h1 => sub _ ?_) (fun h1 => ?_)
    · have : s.1.1 - 2 = 0 := hc.mp h1
      unfold num1
      rw [if_neg (fun q => q.2 (by omega))]
      exact h
    · have : ¬ (s.1.1 - 2 = 0) := fun q => h1 (hc.mpr q)
      refine V_aload (v := ad 90) mi_219_15 (List.Mem.head _) ?_
      refine V_ipush mi_219_16 ?_
      refine V_callM (As := [.int (Int32.ofInt 1)]) (st := []) mi_219_17 (by omega) (by decide +kernel) (by decide +kernel) h.1 (errm_ct h (by omega) (by omega)) (by omega) (show 1 = mN 215 by decide +kernel) (by simp) ?_
      rintro r w1 ⟨rfl, h2⟩
      refine sub _ ?_
      unfold num1
      rw [if_pos ⟨hf, by omega⟩]
      exact h2
  · rw [if_neg hf]
    refine V_if mi_219_4 (fun _ => sub _ ?_) (fun h1 => absurd (show (0 : Int32) = 0 from rfl) h1)
    unfold num1
    rw [if_neg (fun q => hf q.1)]
    exact h
end TKR
section TKF
variable {l : Launch} {D : va_G} {tys : List (ClassId × FieldType)} {A : Nat → Prop} {ad : Nat → Nat} {ws : va_W}
noncomputable def toldT (B : Nat → Int) (n : Nat) (cs : List Int32) (lo hi : Int) (s : TS) : TS := numT B n lo hi (needS B n cs s)
noncomputable def toldR (B : Nat → Int) (n : Nat) (cs : List Int32) (lo hi : Int) (s : TS) : Int := numR lo hi (needS B n cs s)
theorem toldm_ct {i : Nat} {q : String × Nat × String × List Int32} (hq : xsT[i]? = some q) (hl : q.2.2.2.length ≤ 9) (hl1 : 1 ≤ q.2.2.2.length) {n : Nat} {B : Nat → Int} {s : TS} {w0 : va_W} {lo hi : Int} (a1 : -2147483648 ≤ lo) (a2 : lo ≤ 2147483647) (c1 : -2147483648 ≤ hi) (c2 : hi ≤ 2147483647) (h : MSQ ad tys n B w0 s ws) : CT l D tys A 220 7 0 0 [.ref (ad 90), .ref (D.2 1000 i), .int (Int32.ofInt lo), .int (Int32.ofInt hi)] ws (fun r w => r = some (.int (Int32.ofInt (toldR B n q.2.2.2 lo hi s))) ∧ MSQ ad tys n B w0 (toldT B n q.2.2.2 lo hi s) w) := by
  refine CT_of_V (by omega) (show (4 : Nat) ≤ mML 220 by decide +kernel) ?_
  refine V_aload (v := ad 90) mi_220_0 (List.Mem.head _) ?_
  refine V_aload (v := D.2 1000 i) mi_220_1 (List.Mem.tail _ (List.Mem.head _)) ?_
  refine V_callM (As := [.ref (D.2 1000 i)]) (st := []) mi_220_2 (by omega) (by decide +kernel) (by decide +kernel) h.1 (needm_ct hq hl hl1 h) (by omega) (show 1 = mN 218 by decide +kernel) (by simp) ?_
  rintro r w ⟨rfl, h1⟩
  refine V_aload (v := ad 90) mi_220_5 (List.Mem.head _) ?_
  refine V_iload (v := Int32.ofInt lo) mi_220_6 (by simp [lv_args, Value.category]) ?_
  refine V_iload (v := Int32.ofInt hi) mi_220_7 (by simp [lv_args, Value.category]) ?_
  refine V_callM (As := [.int (Int32.ofInt lo), .int (Int32.ofInt hi)]) (st := []) mi_220_8 (by omega) (by decide +kernel) (by decide +kernel) h1.1 (numm_ct a1 a2 c1 c2 h1) (by omega) (show 2 = mN 219 by decide +kernel) (by simp) ?_
  rintro r w2 ⟨rfl, h2⟩
  exact V_retI mi_220_11 (fun q => absurd q (by decide +kernel)) ⟨rfl, h2⟩
/-- what the reference has read so far -/
noncomputable def FRS (fr td : Nat → Int) (w : va_W) : Prop := (∀ j, j < 294 → rd w 96 j = some (.int (Int32.ofInt (fr j))) ∧ 0 ≤ fr j ∧ fr j ≤ 4095) ∧ (∀ j, j < 144 → rd w 97 j = some (.int (Int32.ofInt (td j))))
noncomputable def MK2 (w0 w : va_W) : Prop := ∀ c j, ¬ (c = 96 ∨ c = 97 ∨ (c = 90 ∧ 8 ≤ j ∧ j ≤ 13)) → rd w c j = rd w0 c j
noncomputable def MSF (ad : Nat → Nat) (tys : List (ClassId × FieldType)) (n : Nat) (B : Nat → Int) (fr td : Nat → Int) (w0 : va_W) (s : TS) (w : va_W) : Prop := GOK ad tys GG w ∧ MSt n B s w ∧ FRS fr td w ∧ MK2 w0 w
theorem MSF_q {n : Nat} {B fr td : Nat → Int} {w0 w : va_W} {s : TS} (h : MSF ad tys n B fr td w0 s w) : MSQ ad tys n B w s w := ⟨h.1, h.2.1, MKO_rf⟩
theorem MSF_of {n : Nat} {B fr td : Nat → Int} {w0 w w2 : va_W} {s s2 : TS} (h : MSF ad tys n B fr td w0 s w) (h2 : MSQ ad tys n B w s2 w2) : MSF ad tys n B fr td w0 s2 w2 := by
  obtain ⟨G2, S2, O2⟩ := h2
  obtain ⟨-, -, ⟨f1, f2⟩, O⟩ := h
  refine ⟨G2, S2, ⟨fun j hj => ⟨(O2 _ _ (by omega)).trans (f1 j hj).1, (f1 j hj).2⟩, fun j hj => (O2 _ _ (by omega)).trans (f2 j hj)⟩, fun c j hn => (O2 _ _ (by omega)).trans (O c j hn)⟩
theorem V_fresh {k pc d j : Nat} {lv : List (Nat × Value)} {st : List Value} {post : Option Value → va_W → Prop} {n : Nat} {B fr td : Nat → Int} {w0 w : va_W} {s : TS} {a x : Int} (h : MSF ad tys n B fr td w0 s w) (hj : j < 294) {ix : Int32} (hix : ix = Int32.ofInt (j : Int)) (hi : mI k pc = (19, 0, 0, 0, 0)) (kk : V l D tys A k d 0 0 post 0 0 (pc + 1) lv (.int (Int32.ofInt (fr j)) :: st) w) : V l D tys A k d 0 0 post 0 0 pc lv (.int ix :: .ref (ad 96) :: st) w := by
  obtain ⟨s96, e96, -, -, -, -⟩ := gf96
  exact V_aldX hi hix h.1 e96 hj (by omega) (h.2.2.1.1 j hj).1 kk
noncomputable def folkT (B : Nat → Int) (n : Nat) (fr : Nat → Int) (s : TS) : TS := numT B n 0 (fr 3 - 1) s
noncomputable def folkR (fr : Nat → Int) (s : TS) : Int := numR 0 (fr 3 - 1) s
noncomputable def hourT (B : Nat → Int) (n : Nat) (fr : Nat → Int) (s : TS) : TS := numT B n 0 (fr 2 - 1) s
noncomputable def hourR (fr : Nat → Int) (s : TS) : Int := numR 0 (fr 2 - 1) s
theorem folkm_ct {n : Nat} {B fr td : Nat → Int} {s : TS} {w0 : va_W} (h : MSF ad tys n B fr td w0 s ws) : CT l D tys A 222 3 0 0 [.ref (ad 90)] ws (fun r w => r = some (.int (Int32.ofInt (folkR fr s))) ∧ MSF ad tys n B fr td w0 (folkT B n fr s) w) := by
  obtain ⟨-, b0, b1⟩ := h.2.2.1.1 3 (by omega)
  refine CT_of_V (by omega) (show (1 : Nat) ≤ mML 222 by decide +kernel) ?_
  refine V_aload (v := ad 90) mi_222_0 (List.Mem.head _) ?_
  refine V_ipush mi_222_1 ?_
  refine V_aload (v := ad 90) mi_222_2 (List.Mem.head _) ?_
  refine V_getI mi_222_3 h.1 (rref gr14 (by omega) h.1) ?_
  refine V_ipush mi_222_6 ?_
  refine V_fresh (a := 0) (x := 0) h (j := 3) (by omega) rfl mi_222_7 ?_
  refine V_ipush mi_222_8 ?_
  refine V_ibin mi_222_9 (by omega) ?_
  rw [show ibF 1 (Int32.ofInt (fr 3)) (Int32.ofInt 1) = Int32.ofInt (fr 3 - 1) by show Int32.ofInt (fr 3) - Int32.ofInt 1 = _; rw [← Int32.ofInt_sub]]
  refine V_callM (As := [.int (Int32.ofInt 0), .int (Int32.ofInt (fr 3 - 1))]) (st := []) mi_222_10 (by omega) (by decide +kernel) (by decide +kernel) h.1 (numm_ct (by omega) (by omega) (by omega) (by omega) (MSF_q h)) (by omega) (show 2 = mN 219 by decide +kernel) (by simp) ?_
  rintro r w2 ⟨rfl, h2⟩
  exact V_retI mi_222_13 (fun q => absurd q (by decide +kernel)) ⟨rfl, MSF_of h h2⟩
theorem hourm_ct {n : Nat} {B fr td : Nat → Int} {s : TS} {w0 : va_W} (h : MSF ad tys n B fr td w0 s ws) : CT l D tys A 224 3 0 0 [.ref (ad 90)] ws (fun r w => r = some (.int (Int32.ofInt (hourR fr s))) ∧ MSF ad tys n B fr td w0 (hourT B n fr s) w) := by
  obtain ⟨-, b0, b1⟩ := h.2.2.1.1 2 (by omega)
  refine CT_of_V (by omega) (show (1 : Nat) ≤ mML 224 by decide +kernel) ?_
  refine V_aload (v := ad 90) mi_224_0 (List.Mem.head _) ?_
  refine V_ipush mi_224_1 ?_
  refine V_aload (v := ad 90) mi_224_2 (List.Mem.head _) ?_
  refine V_getI mi_224_3 h.1 (rref gr14 (by omega) h.1) ?_
  refine V_ipush mi_224_6 ?_
  refine V_fresh (a := 0) (x := 0) h (j := 2) (by omega) rfl mi_224_7 ?_
  refine V_ipush mi_224_8 ?_
  refine V_ibin mi_224_9 (by omega) ?_
  rw [show ibF 1 (Int32.ofInt (fr 2)) (Int32.ofInt 1) = Int32.ofInt (fr 2 - 1) by show Int32.ofInt (fr 2) - Int32.ofInt 1 = _; rw [← Int32.ofInt_sub]]
  refine V_callM (As := [.int (Int32.ofInt 0), .int (Int32.ofInt (fr 2 - 1))]) (st := []) mi_224_10 (by omega) (by decide +kernel) (by decide +kernel) h.1 (numm_ct (by omega) (by omega) (by omega) (by omega) (MSF_q h)) (by omega) (show 2 = mN 219 by decide +kernel) (by simp) ?_
  rintro r w2 ⟨rfl, h2⟩
  exact V_retI mi_224_13 (fun q => absurd q (by decide +kernel)) ⟨rfl, MSF_of h h2⟩
noncomputable def whichT (B : Nat → Int) (n : Nat) (fr : Nat → Int) (f : Nat) (s : TS) : TS := numT B n 0 (fr (6 + 7 * f) - 1) s
noncomputable def whichR (fr : Nat → Int) (f : Nat) (s : TS) : Int := numR 0 (fr (6 + 7 * f) - 1) s
theorem whichm_ct {n f : Nat} {B fr td : Nat → Int} {s : TS} {w0 : va_W} (hf : f < 6) (h : MSF ad tys n B fr td w0 s ws) : CT l D tys A 227 3 0 0 [.ref (ad 90), .int (Int32.ofInt (f : Int))] ws (fun r w => r = some (.int (Int32.ofInt (whichR fr f s))) ∧ MSF ad tys n B fr td w0 (whichT B n fr f s) w) := by
  obtain ⟨-, b0, b1⟩ := h.2.2.1.1 (6 + 7 * f) (by omega)
  refine CT_of_V (by omega) (show (2 : Nat) ≤ mML 227 by decide +kernel) ?_
  refine V_aload (v := ad 90) mi_227_0 (List.Mem.head _) ?_
  refine V_ipush mi_227_1 ?_
  refine V_aload (v := ad 90) mi_227_2 (List.Mem.head _) ?_
  refine V_getI mi_227_3 h.1 (rref gr14 (by omega) h.1) ?_
  refine V_ipush mi_227_6 ?_
  refine V_ipush mi_227_8 ?_
  refine V_iload (v := Int32.ofInt (f : Int)) mi_227_10 (by simp [lv_args, Value.category]) ?_
  refine V_ibin mi_227_11 (by omega) ?_
  refine V_ibin mi_227_12 (by omega) ?_
  have ei : ibF 0 (Int32.ofInt 6) (ibF 2 (Int32.ofInt 7) (Int32.ofInt (f : Int))) = Int32.ofInt (((6 + 7 * f : Nat)) : Int) := by
    show Int32.ofInt 6 + Int32.ofInt 7 * Int32.ofInt (f : Int) = _
    rw [← Int32.ofInt_mul, ← Int32.ofInt_add]
    congr 1
  refine V_fresh (a := 0) (x := 0) h (j := 6 + 7 * f) (by omega) ei mi_227_13 ?_
  refine V_ipush mi_227_14 ?_
  refine V_ibin mi_227_15 (by omega) ?_
  rw [show ibF 1 (Int32.ofInt (fr (6 + 7 * f))) (Int32.ofInt 1) = Int32.ofInt (fr (6 + 7 * f) - 1) by show Int32.ofInt (fr (6 + 7 * f)) - Int32.ofInt 1 = _; rw [← Int32.ofInt_sub]]
  refine V_callM (As := [.int (Int32.ofInt 0), .int (Int32.ofInt (fr (6 + 7 * f) - 1))]) (st := []) mi_227_16 (by omega) (by decide +kernel) (by decide +kernel) h.1 (numm_ct (by omega) (by omega) (by omega) (by omega) (MSF_q h)) (by omega) (show 2 = mN 219 by decide +kernel) (by simp) ?_
  rintro r w2 ⟨rfl, h2⟩
  exact V_retI mi_227_19 (fun q => absurd q (by decide +kernel)) ⟨rfl, MSF_of h h2⟩
end TKF
section TKG
variable {l : Launch} {D : va_G} {tys : List (ClassId × FieldType)} {A : Nat → Prop} {ad : Nat → Nat} {ws : va_W}
theorem gf96b : ∃ s, GG[96]? = some ((1, 0, 294), s) ∧ segAt s 0 = some (0, 0, 9) ∧ segAt s 1 = some (0, 0, 4) ∧ segAt s 2 = some (0, 0, 24) := ⟨_, rfl, by decide +kernel, by decide +kernel, by decide +kernel⟩
noncomputable def updI (g : Nat → Int) (j : Nat) (z : Int) : Nat → Int := fun i => if i = j then z else g i
theorem numR_bd {lo hi : Int} {s : TS} : numR lo hi s = 0 ∨ (lo ≤ numR lo hi s ∧ numR lo hi s ≤ hi) := by
  unfold numR
  split
  · next h =>
    right
    unfold num2 at h ⊢
    split
    · next q => rw [if_pos q] at h; unfold errS at h; rw [if_pos q.1] at h; exact absurd h (show ¬ ((2 : Int) = 0) by decide)
    · next q =>
      rw [if_neg q] at h
      by_cases hh : lo ≤ (num1 s).1.2.2.2 ∧ (num1 s).1.2.2.2 ≤ hi
      · exact hh
      · exact absurd ⟨h, hh⟩ q
  · exact Or.inl rfl
theorem V_fst {k pc d j : Nat} {lv : List (Nat × Value)} {st : List Value} {post : Option Value → va_W → Prop} {n : Nat} {B fr td : Nat → Int} {w0 w : va_W} {s : TS} {segs : List SG} {lo hi z : Int} (h : MSF ad tys n B fr td w0 s w) (hg : GG[96]? = some ((1, 0, 294), segs)) (hj : j < 294) {ix : Int32} (hix : ix = Int32.ofInt (j : Int)) (hi0 : mI k pc = (20, 0, 0, 0, 0)) (hs : segAt segs j = some (0, lo, hi)) (h1 : lo ≤ z) (h2 : z ≤ hi) (z0 : 0 ≤ z) (z1 : z ≤ 4095) (kk : ∀ w' : va_W, MSF ad tys n B (updI fr j z) td w0 s w' → V l D tys A k d 0 0 post 0 0 (pc + 1) lv st w') : V l D tys A k d 0 0 post 0 0 pc lv (.int (Int32.ofInt z) :: .int ix :: .ref (ad 96) :: st) w := by
  have tz : (Int32.ofInt z).toInt = z := Int32.toInt_ofInt_of_le (by omega) (by omega)
  refine V_astX hi0 hix h.1 hg hj (by omega) hs (by omega) (by omega) (fun w' G' U => kk w' ?_)
  obtain ⟨-, ⟨T, ok, h10, h9, h8, h11, h12, h13⟩, ⟨f1, f2⟩, O⟩ := h
  have o : ∀ c i, c ≠ 96 → rd w' c i = rd w c i := fun c i hc => upd_ne U (fun q => hc q.1)
  refine ⟨G', ⟨⟨(o _ _ (by omega)).trans T.1, T.2.1, fun k hk => ⟨(o _ _ (by omega)).trans (T.2.2 k hk).1, (T.2.2 k hk).2⟩⟩, ok, (o _ _ (by omega)).trans h10, (o _ _ (by omega)).trans h9, (o _ _ (by omega)).trans h8, (o _ _ (by omega)).trans h11, (o _ _ (by omega)).trans h12, (o _ _ (by omega)).trans h13⟩, ⟨fun i hi => ?_, fun i hi => (o _ _ (by omega)).trans (f2 i hi)⟩, fun c i hn => (o _ _ (fun q => hn (Or.inl q))).trans (O c i hn)⟩
  unfold updI
  by_cases e : i = j
  · rw [if_pos e, e]
    exact ⟨upd_eq U, z0, z1⟩
  · rw [if_neg e]
    exact ⟨(upd_ne U (fun q => e q.2)).trans (f1 i hi).1, (f1 i hi).2⟩
noncomputable def xHill : List Int32 := (xsT.getD 12 ("", 0, "", [])).2.2.2
noncomputable def xSyll : List Int32 := (xsT.getD 13 ("", 0, "", [])).2.2.2
noncomputable def xPlac : List Int32 := (xsT.getD 14 ("", 0, "", [])).2.2.2
noncomputable def xHour : List Int32 := (xsT.getD 15 ("", 0, "", [])).2.2.2
noncomputable def xAt : List Int32 := (xsT.getD 16 ("", 0, "", [])).2.2.2
theorem xq {i : Nat} (h : i < 24) : xsT[i]? = some (xsT.getD i ("", 0, "", [])) ∧ (xsT.getD i ("", 0, "", [])).2.2.2.length ≤ 9 ∧ 1 ≤ (xsT.getD i ("", 0, "", [])).2.2.2.length := by
  obtain ⟨q, e, l1, l9⟩ := xs_f h
  rw [List.getD_eq_getElem?_getD, e]
  exact ⟨rfl, l9, l1⟩
noncomputable def firA (B : Nat → Int) (n : Nat) (s : TS) : TS := needS B n xHill s
noncomputable def firB (B : Nat → Int) (n : Nat) (s : TS) : TS := toldT B n xSyll 2 9 (firA B n s)
noncomputable def firC (B : Nat → Int) (n : Nat) (s : TS) : TS := toldT B n xPlac 1 4 (firB B n s)
noncomputable def firT (B : Nat → Int) (n : Nat) (s : TS) : TS := toldT B n xHour 1 24 (firC B n s)
noncomputable def firF (B : Nat → Int) (n : Nat) (fr : Nat → Int) (s : TS) : Nat → Int := updI (updI (updI fr 0 (toldR B n xSyll 2 9 (firA B n s))) 1 (toldR B n xPlac 1 4 (firB B n s))) 2 (toldR B n xHour 1 24 (firC B n s))
theorem firm_ct {n : Nat} {B fr td : Nat → Int} {s : TS} {w0 : va_W} (h : MSF ad tys n B fr td w0 s ws) : CT l D tys A 225 8 0 0 [.ref (ad 90)] ws (fun r w => r = none ∧ MSF ad tys n B (firF B n fr s) td w0 (firT B n s) w) := by
  obtain ⟨s96, e96, g0, g1, g2⟩ := gf96b
  obtain ⟨p1, p2, p3⟩ := xq (i := 12) (by omega)
  obtain ⟨q1, q2, q3⟩ := xq (i := 13) (by omega)
  obtain ⟨r1, r2, r3⟩ := xq (i := 14) (by omega)
  obtain ⟨u1, u2, u3⟩ := xq (i := 15) (by omega)
  refine CT_of_V (by omega) (show (1 : Nat) ≤ mML 225 by decide +kernel) ?_
  refine V_aload (v := ad 90) mi_225_0 (List.Mem.head _) ?_
  refine V_ldcS mi_225_1 ?_
  refine V_callM (As := [.ref (D.2 1000 12)]) (st := []) mi_225_3 (by omega) (by decide +kernel) (by decide +kernel) h.1 (needm_ct p1 p2 p3 (MSF_q h)) (by omega) (show 1 = mN 218 by decide +kernel) (by simp) ?_
  rintro r w ⟨rfl, h1⟩
  have h := MSF_of h h1
  refine V_aload (v := ad 90) mi_225_6 (List.Mem.head _) ?_
  refine V_getI mi_225_7 h.1 (rref gr14 (by omega) h.1) ?_
  refine V_ipush mi_225_10 ?_
  refine V_aload (v := ad 90) mi_225_11 (List.Mem.head _) ?_
  refine V_ldcS mi_225_12 ?_
  refine V_ipush mi_225_14 ?_
  refine V_ipush mi_225_15 ?_
  refine V_callM (As := [.ref (D.2 1000 13), .int (Int32.ofInt 2), .int (Int32.ofInt 9)]) (st := [.int (Int32.ofInt 0), .ref (ad 96)]) mi_225_17 (by omega) (by decide +kernel) (by decide +kernel) h.1 (toldm_ct q1 q2 q3 (by omega) (by omega) (by omega) (by omega) (MSF_q h)) (by omega) (show 3 = mN 220 by decide +kernel) (by simp [Value.category]) ?_
  rintro r w ⟨rfl, h1⟩
  have h := MSF_of h h1
  have bd : toldR B n xSyll 2 9 (firA B n s) = 0 ∨ (2 ≤ toldR B n xSyll 2 9 (firA B n s) ∧ toldR B n xSyll 2 9 (firA B n s) ≤ 9) := numR_bd
  refine V_fst (z := toldR B n xSyll 2 9 (firA B n s)) h e96 (j := 0) (by omega) rfl mi_225_20 g0 (by omega) (by omega) (by omega) (by omega) (fun w h => ?_)
  refine V_aload (v := ad 90) mi_225_21 (List.Mem.head _) ?_
  refine V_getI mi_225_22 h.1 (rref gr14 (by omega) h.1) ?_
  refine V_ipush mi_225_25 ?_
  refine V_aload (v := ad 90) mi_225_26 (List.Mem.head _) ?_
  refine V_ldcS mi_225_27 ?_
  refine V_ipush mi_225_29 ?_
  refine V_ipush mi_225_30 ?_
  refine V_callM (As := [.ref (D.2 1000 14), .int (Int32.ofInt 1), .int (Int32.ofInt 4)]) (st := [.int (Int32.ofInt 1), .ref (ad 96)]) mi_225_31 (by omega) (by decide +kernel) (by decide +kernel) h.1 (toldm_ct r1 r2 r3 (by omega) (by omega) (by omega) (by omega) (MSF_q h)) (by omega) (show 3 = mN 220 by decide +kernel) (by simp [Value.category]) ?_
  rintro r w ⟨rfl, h1⟩
  have h := MSF_of h h1
  have bd : toldR B n xPlac 1 4 (firB B n s) = 0 ∨ (1 ≤ toldR B n xPlac 1 4 (firB B n s) ∧ toldR B n xPlac 1 4 (firB B n s) ≤ 4) := numR_bd
  refine V_fst (z := toldR B n xPlac 1 4 (firB B n s)) h e96 (j := 1) (by omega) rfl mi_225_34 g1 (by omega) (by omega) (by omega) (by omega) (fun w h => ?_)
  refine V_aload (v := ad 90) mi_225_35 (List.Mem.head _) ?_
  refine V_getI mi_225_36 h.1 (rref gr14 (by omega) h.1) ?_
  refine V_ipush mi_225_39 ?_
  refine V_aload (v := ad 90) mi_225_40 (List.Mem.head _) ?_
  refine V_ldcS mi_225_41 ?_
  refine V_ipush mi_225_43 ?_
  refine V_ipush mi_225_44 ?_
  refine V_callM (As := [.ref (D.2 1000 15), .int (Int32.ofInt 1), .int (Int32.ofInt 24)]) (st := [.int (Int32.ofInt 2), .ref (ad 96)]) mi_225_46 (by omega) (by decide +kernel) (by decide +kernel) h.1 (toldm_ct u1 u2 u3 (by omega) (by omega) (by omega) (by omega) (MSF_q h)) (by omega) (show 3 = mN 220 by decide +kernel) (by simp [Value.category]) ?_
  rintro r w ⟨rfl, h1⟩
  have h := MSF_of h h1
  have bd : toldR B n xHour 1 24 (firC B n s) = 0 ∨ (1 ≤ toldR B n xHour 1 24 (firC B n s) ∧ toldR B n xHour 1 24 (firC B n s) ≤ 24) := numR_bd
  refine V_fst (z := toldR B n xHour 1 24 (firC B n s)) h e96 (j := 2) (by omega) rfl mi_225_49 g2 (by omega) (by omega) (by omega) (by omega) (fun w h => ?_)
  exact V_retV mi_225_50 ⟨rfl, h⟩
end TKG
section TKH
variable {l : Launch} {D : va_G} {tys : List (ClassId × FieldType)} {A : Nat → Prop} {ad : Nat → Nat} {ws : va_W}
theorem err_ok {e : Int} {s : TS} (e1 : e ≠ 0) : ¬ (errS e s).2.1 = 0 := by
  unfold errS
  split
  · exact e1
  · assumption
theorem num_ok {B : Nat → Int} {n : Nat} {lo hi : Int} {s : TS} (h : (numT B n lo hi s).2.1 = 0) : s.2.1 = 0 ∧ s.1.1 = 2 ∧ (lo ≤ s.1.2.2.2 ∧ s.1.2.2.2 ≤ hi) ∧ numR lo hi s = s.1.2.2.2 ∧ numT B n lo hi s = advS B n s := by
  have h2 : (num2 lo hi s).2.1 = 0 := by
    unfold numT at h
    split at h
    · assumption
    · exact h
  have h1 : (num1 s).2.1 = 0 ∧ (lo ≤ (num1 s).1.2.2.2 ∧ (num1 s).1.2.2.2 ≤ hi) ∧ num2 lo hi s = num1 s := by
    unfold num2 at h2 ⊢
    split at h2
    · exact absurd h2 (err_ok (by decide))
    · next q =>
      rw [if_neg q]
      refine ⟨h2, ?_, rfl⟩
      by_cases hh : lo ≤ (num1 s).1.2.2.2 ∧ (num1 s).1.2.2.2 ≤ hi
      · exact hh
      · exact absurd ⟨h2, hh⟩ q
  have h0 : s.2.1 = 0 ∧ s.1.1 = 2 ∧ num1 s = s := by
    obtain ⟨h1, -, -⟩ := h1
    unfold num1 at h1 ⊢
    split at h1
    · exact absurd h1 (err_ok (by decide))
    · next q =>
      rw [if_neg q]
      refine ⟨h1, ?_, rfl⟩
      by_cases hh : s.1.1 = 2
      · exact hh
      · exact absurd ⟨h1, hh⟩ q
  have e : num2 lo hi s = s := h1.2.2.trans h0.2.2
  refine ⟨h0.1, h0.2.1, ?_, ?_, ?_⟩
  · have := h1.2.1
    rw [h0.2.2] at this
    exact this
  · unfold numR
    rw [if_pos h2, e]
  · unfold numT
    rw [if_pos h2, e]
theorem need_ok {B : Nat → Int} {n : Nat} {cs : List Int32} {s : TS} (h : (needS B n cs s).2.1 = 0) : s.2.1 = 0 ∧ isSp B n cs s = true ∧ needS B n cs s = advS B n s := by
  unfold needS at h ⊢
  split at h
  · next q => rw [if_pos q]; exact ⟨h, q, rfl⟩
  · exact absurd h (err_ok (by decide))
theorem fr_seg {n : Nat} {B fr td : Nat → Int} {w0 w : va_W} {s : TS} (h : MSF ad tys n B fr td w0 s w) {segs : List SG} {j : Nat} {lo hi : Int} (hg : GG[96]? = some ((1, 0, 294), segs)) (hj : j < 294) (hs : segAt segs j = some (0, lo, hi)) (l0 : -2147483648 ≤ lo) (h0 : hi ≤ 2147483647) : lo ≤ fr j ∧ fr j ≤ hi := by
  obtain ⟨z, e, z1, z2⟩ := cel h.1 hg hj hs
  obtain ⟨e2, b1, b2⟩ := h.2.2.1.1 j hj
  rw [e] at e2
  simp only [Option.some.injEq, Value.int.injEq] at e2
  have t1 : (Int32.ofInt z).toInt = z := Int32.toInt_ofInt_of_le (by omega) (by omega)
  have t2 : (Int32.ofInt (fr j)).toInt = fr j := Int32.toInt_ofInt_of_le (by omega) (by omega)
  rw [e2, t2] at t1
  omega
noncomputable def otheP (f : Int) (s : TS) : TS := if s.2.1 = 0 ∧ s.1.1 = 2 ∧ s.1.2.2.2 = f then errS 2 s else s
noncomputable def otheT (B : Nat → Int) (n : Nat) (fr : Nat → Int) (f : Int) (s : TS) : TS := folkT B n fr (otheP f s)
noncomputable def otheR (fr : Nat → Int) (f : Int) (s : TS) : Int := folkR fr (otheP f s)
theorem othem_ct {n : Nat} {B fr td : Nat → Int} {s : TS} {w0 : va_W} {f : Int} (f0 : -2147483648 ≤ f) (f1 : f ≤ 2147483647) (h : MSF ad tys n B fr td w0 s ws) : CT l D tys A 223 4 0 0 [.ref (ad 90), .int (Int32.ofInt f)] ws (fun r w => r = some (.int (Int32.ofInt (otheR fr f s))) ∧ MSF ad tys n B fr td w0 (otheT B n fr f s) w) := by
  have h' := h
  obtain ⟨hG, ⟨T, ok, h10, h9, h8, h11, h12, h13⟩, -, -⟩ := h'
  obtain ⟨b1, b2, b3, b4⟩ := ok
  refine CT_of_V (by omega) (show (2 : Nat) ≤ mML 223 by decide +kernel) ?_
  have fin : ∀ w : va_W, MSF ad tys n B fr td w0 (otheP f s) w → V l D tys A 223 4 0 0 (fun r w => r = some (.int (Int32.ofInt (otheR fr f s))) ∧ MSF ad tys n B fr td w0 (otheT B n fr f s) w) 0 0 28 (lv_args 0 [.ref (ad 90), .int (Int32.ofInt f)]) [] w := by
    intro w hw
    refine V_aload (v := ad 90) mi_223_28 (List.Mem.head _) ?_
    refine V_callM (As := []) (st := []) mi_223_29 (by omega) (by decide +kernel) (by decide +kernel) hw.1 (folkm_ct hw) (by omega) (show 0 = mN 222 by decide +kernel) (by simp) ?_
    rintro r w2 ⟨rfl, h2⟩
    exact V_retI mi_223_32 (fun q => absurd q (by decide +kernel)) ⟨rfl, h2⟩
  have skip : ¬ (s.2.1 = 0 ∧ s.1.1 = 2 ∧ s.1.2.2.2 = f) → MSF ad tys n B fr td w0 (otheP f s) ws := by
    intro q
    unfold otheP
    rw [if_neg q]
    exact h
  refine V_aload (v := ad 90) mi_223_0 (List.Mem.head _) ?_
  refine V_callM (As := []) (st := []) mi_223_1 (by omega) (by decide +kernel) (by decide +kernel) hG (good_ct hG h12 b4.1 b4.2) (by omega) (show 0 = mN 214 by decide +kernel) (by simp) ?_
  rintro r w1 ⟨rfl, rfl⟩
  by_cases hf : s.2.1 = 0
  · rw [if_pos hf]
    refine V_if mi_223_4 (fun h1 => absurd (show (1 : Int32) = 0 from h1) (by decide)) (fun _ => ?_)
    refine V_aload (v := ad 90) mi_223_7 (List.Mem.head _) ?_
    refine V_getI mi_223_8 hG h10 ?_
    refine V_ipush mi_223_11 ?_
    have hc := cdP_iff (x := 1) (a := s.1.1) (b := 2) (by omega) (by omega) (by omega) (by omega)
    refine V_icmp mi_223_12 (fun h1 => fin _ (skip (fun q => (show s.1.1 - 2 ≠ 0 from hc.mp h1) (by omega)))) (fun h1 => ?_)
    have k2 : s.1.1 = 2 := by
      have : ¬ (s.1.1 - 2 ≠ 0) := fun q => h1 (hc.mpr q)
      omega
    refine V_aload (v := ad 90) mi_223_15 (List.Mem.head _) ?_
    refine V_getI mi_223_16 hG h11 ?_
    refine V_iload (v := Int32.ofInt f) mi_223_19 (by simp [lv_args, Value.category]) ?_
    have t1 : (Int32.ofInt s.1.2.2.2).toInt = s.1.2.2.2 := Int32.toInt_ofInt_of_le (by omega) (by omega)
    have t2 : (Int32.ofInt f).toInt = f := Int32.toInt_ofInt_of_le (by omega) (by omega)
    refine V_icmp mi_223_20 (fun h2 => fin _ (skip (fun q => (show Int32.ofInt s.1.2.2.2 ≠ Int32.ofInt f from h2) (by rw [q.2.2])))) (fun h2 => ?_)
    have e2 : s.1.2.2.2 = f := by
      have : Int32.ofInt s.1.2.2.2 = Int32.ofInt f := Decidable.not_not.mp h2
      rw [this, t2] at t1
      exact t1.symm
    refine V_aload (v := ad 90) mi_223_23 (List.Mem.head _) ?_
    refine V_ipush mi_223_24 ?_
    refine V_callM (As := [.int (Int32.ofInt 2)]) (st := []) mi_223_25 (by omega) (by decide +kernel) (by decide +kernel) h.1 (errm_ct (MSF_q h) (by omega) (by omega)) (by omega) (show 1 = mN 215 by decide +kernel) (by simp) ?_
    rintro r w2 ⟨rfl, h2⟩
    refine fin _ ?_
    unfold otheP
    rw [if_pos ⟨hf, k2, e2⟩]
    exact MSF_of h h2
  · rw [if_neg hf]
    exact V_if mi_223_4 (fun _ => fin _ (skip (fun q => hf q.1))) (fun h1 => absurd (show (0 : Int32) = 0 from rfl) h1)
end TKH
section TKJ
variable {l : Launch} {D : va_G} {tys : List (ClassId × FieldType)} {A : Nat → Prop} {ad : Nat → Nat} {ws : va_W}
theorem gf97 : ∃ s, GG[97]? = some ((1, 0, 144), s) ∧ ∀ j, j < 144 → segAt s j = some (0, -1, 3) := by
  refine ⟨_, rfl, fun j hj => ?_⟩
  show (bif Nat.blt j 144 then some _ else _) = _
  rw [show Nat.blt j 144 = true from Nat.blt_eq.mpr hj]
  rfl
theorem gr15 : ∃ g, GG[90]? = some ((0, 11, 36), g) ∧ segAt g 15 = some (2, ((97 : Nat) : Int), ((97 : Nat) : Int)) := ⟨_, rfl, by decide +kernel⟩
/-- a line 'goes': where the reader then stands, at each of its steps -/
noncomputable def goP (fr : Nat → Int) (B : Nat → Int) (n : Nat) (s : TS) : TS := numT B n 0 (fr 1 - 1) (folkT B n fr s)
noncomputable def goN (fr : Nat → Int) (B : Nat → Int) (n : Nat) (s : TS) : TS := needS B n xAt (goP fr B n s)
noncomputable def goT (fr : Nat → Int) (B : Nat → Int) (n : Nat) (s : TS) : TS := hourT B n fr (goN fr B n s)
noncomputable def goI (fr : Nat → Int) (B : Nat → Int) (n : Nat) (s : TS) : Nat := (24 * folkR fr s + hourR fr (goN fr B n s)).toNat
noncomputable def goD (fr td : Nat → Int) (B : Nat → Int) (n : Nat) (s : TS) : Nat → Int := if (goT fr B n s).2.1 = 0 then updI td (goI fr B n s) (numR 0 (fr 1 - 1) (folkT B n fr s)) else td
theorem MSF_td {n : Nat} {B fr td : Nat → Int} {w0 w w' : va_W} {s : TS} {j : Nat} {z : Int} (h : MSF ad tys n B fr td w0 s w) (G' : GOK ad tys GG w') (U : Upd1 w w' 97 j (.int (Int32.ofInt z))) : MSF ad tys n B fr (updI td j z) w0 s w' := by
  obtain ⟨-, ⟨T, ok, h10, h9, h8, h11, h12, h13⟩, ⟨f1, f2⟩, O⟩ := h
  have o : ∀ c i, c ≠ 97 → rd w' c i = rd w c i := fun c i hc => upd_ne U (fun q => hc q.1)
  refine ⟨G', ⟨⟨(o _ _ (by omega)).trans T.1, T.2.1, fun k hk => ⟨(o _ _ (by omega)).trans (T.2.2 k hk).1, (T.2.2 k hk).2⟩⟩, ok, (o _ _ (by omega)).trans h10, (o _ _ (by omega)).trans h9, (o _ _ (by omega)).trans h8, (o _ _ (by omega)).trans h11, (o _ _ (by omega)).trans h12, (o _ _ (by omega)).trans h13⟩, ⟨fun i hi => ⟨(o _ _ (by omega)).trans (f1 i hi).1, (f1 i hi).2⟩, fun i hi => ?_⟩, fun c i hn => (o _ _ (fun q => hn (Or.inr (Or.inl q)))).trans (O c i hn)⟩
  unfold updI
  by_cases e : i = j
  · rw [if_pos e, e]
    exact upd_eq U
  · rw [if_neg e]
    exact (upd_ne U (fun q => e q.2)).trans (f2 i hi)
theorem gom_ct {n : Nat} {B fr td : Nat → Int} {s : TS} {w0 : va_W} (h : MSF ad tys n B fr td w0 s ws) : CT l D tys A 228 7 0 0 [.ref (ad 90)] ws (fun r w => r = none ∧ MSF ad tys n B fr (goD fr td B n s) w0 (goT fr B n s) w) := by
  obtain ⟨s97, e97, f97⟩ := gf97
  obtain ⟨s96, e96, g0, g1, g2⟩ := gf96b
  obtain ⟨s96', e96', -, g3, -, -⟩ := gf96
  obtain ⟨p1, p2, p3⟩ := xq (i := 16) (by omega)
  have b1 := fr_seg h e96 (by omega) g1 (by omega) (by omega)
  have b2 := fr_seg h e96 (by omega) g2 (by omega) (by omega)
  have b3 := fr_seg h e96' (by omega) g3 (by omega) (by omega)
  refine CT_of_V (by omega) (show (1 : Nat) ≤ mML 228 by decide +kernel) ?_
  refine V_aload (v := ad 90) mi_228_0 (List.Mem.head _) ?_
  refine V_callM (As := []) (st := []) mi_228_1 (by omega) (by decide +kernel) (by decide +kernel) h.1 (folkm_ct h) (by omega) (show 0 = mN 222 by decide +kernel) (by simp) ?_
  rintro r w ⟨rfl, h⟩
  refine V_istore mi_228_4 ?_
  refine V_aload (v := ad 90) mi_228_5 (by simp [stL, lv_args, Value.category]) ?_
  refine V_ipush mi_228_6 ?_
  refine V_aload (v := ad 90) mi_228_7 (by simp [stL, lv_args, Value.category]) ?_
  refine V_getI mi_228_8 h.1 (rref gr14 (by omega) h.1) ?_
  refine V_ipush mi_228_11 ?_
  refine V_fresh (a := 0) (x := 0) h (j := 1) (by omega) rfl mi_228_12 ?_
  refine V_ipush mi_228_13 ?_
  refine V_ibin mi_228_14 (by omega) ?_
  rw [show ibF 1 (Int32.ofInt (fr 1)) (Int32.ofInt 1) = Int32.ofInt (fr 1 - 1) by show Int32.ofInt (fr 1) - Int32.ofInt 1 = _; rw [← Int32.ofInt_sub]]
  refine V_callM (As := [.int (Int32.ofInt 0), .int (Int32.ofInt (fr 1 - 1))]) (st := []) mi_228_15 (by omega) (by decide +kernel) (by decide +kernel) h.1 (numm_ct (by omega) (by omega) (by omega) (by omega) (MSF_q h)) (by omega) (show 2 = mN 219 by decide +kernel) (by simp) ?_
  rintro r w ⟨rfl, h1⟩
  have h := MSF_of h h1
  refine V_istore mi_228_18 ?_
  refine V_aload (v := ad 90) mi_228_19 (by simp [stL, lv_args, Value.category]) ?_
  refine V_ldcS mi_228_20 ?_
  refine V_callM (As := [.ref (D.2 1000 16)]) (st := []) mi_228_22 (by omega) (by decide +kernel) (by decide +kernel) h.1 (needm_ct p1 p2 p3 (MSF_q h)) (by omega) (show 1 = mN 218 by decide +kernel) (by simp) ?_
  rintro r w ⟨rfl, h1⟩
  have h := MSF_of h h1
  refine V_aload (v := ad 90) mi_228_25 (by simp [stL, lv_args, Value.category]) ?_
  refine V_callM (As := []) (st := []) mi_228_26 (by omega) (by decide +kernel) (by decide +kernel) h.1 (hourm_ct h) (by omega) (show 0 = mN 224 by decide +kernel) (by simp) ?_
  rintro r w ⟨rfl, h⟩
  have h : MSF ad tys n B fr td w0 (goT fr B n s) w := h
  have h' := h
  obtain ⟨hG, ⟨T, ok, h10, h9, h8, h11, h12, h13⟩, -, -⟩ := h'
  obtain ⟨-, -, -, b4⟩ := ok
  change V l D tys A 228 7 0 0 _ 0 0 (26 + 3) _ ((some (Value.int (Int32.ofInt (hourR fr (goN fr B n s))))).toList ++ []) _
  refine V_istore mi_228_29 ?_
  refine V_aload (v := ad 90) mi_228_30 (by simp [stL, lv_args, Value.category]) ?_
  refine V_callM (As := []) (st := []) mi_228_31 (by omega) (by decide +kernel) (by decide +kernel) hG (good_ct hG h12 b4.1 b4.2) (by omega) (show 0 = mN 214 by decide +kernel) (by simp) ?_
  rintro r w1 ⟨rfl, rfl⟩
  unfold goD
  by_cases hf : (goT fr B n s).2.1 = 0
  · rw [if_pos hf, if_pos hf]
    obtain ⟨k1, -, k2, k3, -⟩ := num_ok (B := B) (n := n) (s := goN fr B n s) hf
    obtain ⟨k4, -, -⟩ := need_ok k1
    obtain ⟨k5, -, k6, k7, -⟩ := num_ok (B := B) (n := n) (s := folkT B n fr s) k4
    obtain ⟨-, -, k8, k9, -⟩ := num_ok (B := B) (n := n) (s := s) k5
    have hh : hourR fr (goN fr B n s) = (goN fr B n s).1.2.2.2 := k3
    have hk : folkR fr s = s.1.2.2.2 := k9
    have ix : 24 * folkR fr s + hourR fr (goN fr B n s) = (goI fr B n s : Int) := by
      unfold goI
      rw [Int.toNat_of_nonneg (by omega)]
    have i144 : goI fr B n s < 144 := by omega
    refine V_if mi_228_34 (fun h1 => absurd (show (1 : Int32) = 0 from h1) (by decide)) (fun _ => ?_)
    refine V_aload (v := ad 90) mi_228_37 (by simp [stL, lv_args, Value.category]) ?_
    refine V_getI mi_228_38 hG (rref gr15 (by omega) hG) ?_
    refine V_ipush mi_228_41 ?_
    refine V_iload (v := Int32.ofInt (folkR fr s)) mi_228_43 (by simp [stL, lv_args, Value.category]) ?_
    refine V_ibin mi_228_44 (by omega) ?_
    refine V_iload (v := Int32.ofInt (hourR fr (goN fr B n s))) mi_228_45 (by simp [stL, lv_args, Value.category]) ?_
    refine V_ibin mi_228_46 (by omega) ?_
    refine V_iload (v := Int32.ofInt (numR 0 (fr 1 - 1) (folkT B n fr s))) mi_228_47 (by simp [stL, lv_args, Value.category]) ?_
    have ei : ibF 0 (ibF 2 (Int32.ofInt 24) (Int32.ofInt (folkR fr s))) (Int32.ofInt (hourR fr (goN fr B n s))) = Int32.ofInt ((goI fr B n s : Nat) : Int) := by
      show Int32.ofInt 24 * Int32.ofInt (folkR fr s) + Int32.ofInt (hourR fr (goN fr B n s)) = _
      rw [← Int32.ofInt_mul, ← Int32.ofInt_add, ix]
    have l1 : (Int32.ofInt (numR 0 (fr 1 - 1) (folkT B n fr s))).toInt = numR 0 (fr 1 - 1) (folkT B n fr s) := Int32.toInt_ofInt_of_le (by omega) (by omega)
    refine V_astX mi_228_48 ei hG e97 i144 (by omega) (f97 _ i144) (by omega) (by omega) (fun w' G' U => ?_)
    exact V_retV mi_228_49 ⟨rfl, MSF_td h G' U⟩
  · rw [if_neg hf, if_neg hf]
    refine V_if mi_228_34 (fun _ => ?_) (fun h1 => absurd (show (0 : Int32) = 0 from rfl) h1)
    exact V_retV mi_228_49 ⟨rfl, h⟩
end TKJ
section TKL
variable {l : Launch} {D : va_G} {tys : List (ClassId × FieldType)} {A : Nat → Prop} {ad : Nat → Nat} {ws : va_W}
/-- a bit set in a number -/
noncomputable def bitO (a i : Int) : Int := (ibF 6 (Int32.ofInt a) (ibF 8 (Int32.ofInt 1) (Int32.ofInt i))).toInt
theorem kbO {a i : Nat} (ha : a < 128) (hi : i < 7) : bitO (a : Int) (i : Int) = ((a ||| 2 ^ i : Nat) : Int) := by
  have e6 := kb68 (a := a) (i := i) ha hi
  unfold bitO
  rw [e6.1, kbT (by omega)]
theorem bitO_bd {a i : Int} (a0 : 0 ≤ a) (a1 : a ≤ 63) (i0 : 0 ≤ i) (i1 : i ≤ 5) : 0 ≤ bitO a i ∧ bitO a i ≤ 63 := by
  obtain ⟨x, rfl⟩ := Int.eq_ofNat_of_zero_le a0
  obtain ⟨y, rfl⟩ := Int.eq_ofNat_of_zero_le i0
  have hp : 2 ^ y ≤ 2 ^ 5 := Nat.pow_le_pow_right (by omega) (by omega)
  have h := Nat.or_lt_two_pow (x := x) (y := 2 ^ y) (n := 6) (by omega) (by omega)
  rw [kbO (a := x) (i := y) (by omega) (by omega)]
  exact ⟨by omega, by omega⟩
theorem g96k : ∃ s, GG[96]? = some ((1, 0, 294), s) ∧ (∀ f, f < 6 → segAt s (6 + 7 * f) = some (0, 0, 6)) ∧ (∀ j, j < 36 → segAt s (66 + j) = some (0, 0, 63)) ∧ (∀ j, j < 6 → segAt s (60 + j) = some (0, 0, 63)) := by
  refine ⟨_, rfl, fun f hf => ?_, fun j hj => ?_, fun j hj => ?_⟩
  · exact (show ∀ f : Fin 6, segAt _ (6 + 7 * f.1) = some (0, 0, 6) by decide +kernel) ⟨f, hf⟩
  · exact (show ∀ j : Fin 36, segAt _ (66 + j.1) = some (0, 0, 63) by decide +kernel) ⟨j, hj⟩
  · exact (show ∀ j : Fin 6, segAt _ (60 + j.1) = some (0, 0, 63) by decide +kernel) ⟨j, hj⟩
noncomputable def knF (fr : Nat → Int) (s : TS) : Int := folkR fr s
noncomputable def knS (fr : Nat → Int) (B : Nat → Int) (n : Nat) (s : TS) : TS := otheT B n fr (knF fr s) (folkT B n fr s)
noncomputable def knO (fr : Nat → Int) (B : Nat → Int) (n : Nat) (s : TS) : Nat := (otheR fr (knF fr s) (folkT B n fr s)).toNat
noncomputable def knT (fr : Nat → Int) (B : Nat → Int) (n : Nat) (s : TS) : TS := whichT B n fr (knO fr B n s) (knS fr B n s)
noncomputable def knI (fr : Nat → Int) (B : Nat → Int) (n : Nat) (s : TS) : Int := whichR fr (knO fr B n s) (knS fr B n s)
noncomputable def knJ (fr : Nat → Int) (B : Nat → Int) (n : Nat) (s : TS) : Nat := 66 + 6 * (knF fr s).toNat + knO fr B n s
noncomputable def knG (fr : Nat → Int) (B : Nat → Int) (n : Nat) (s : TS) : Nat → Int := if (knT fr B n s).2.1 = 0 then updI fr (knJ fr B n s) (bitO (fr (knJ fr B n s)) (knI fr B n s)) else fr
theorem knm_ct {n : Nat} {B fr td : Nat → Int} {s : TS} {w0 : va_W} (h : MSF ad tys n B fr td w0 s ws) : CT l D tys A 229 5 0 0 [.ref (ad 90)] ws (fun r w => r = none ∧ MSF ad tys n B (knG fr B n s) td w0 (knT fr B n s) w) := by
  obtain ⟨s96, e96, g6, g66, -⟩ := g96k
  obtain ⟨s96', e96', -, g3, -, -⟩ := gf96
  have b3 := fr_seg h e96' (by omega) g3 (by omega) (by omega)
  have bf : knF fr s = 0 ∨ (0 ≤ knF fr s ∧ knF fr s ≤ fr 3 - 1) := numR_bd
  have bo : otheR fr (knF fr s) (folkT B n fr s) = 0 ∨ (0 ≤ otheR fr (knF fr s) (folkT B n fr s) ∧ otheR fr (knF fr s) (folkT B n fr s) ≤ fr 3 - 1) := numR_bd
  have eo : otheR fr (knF fr s) (folkT B n fr s) = (knO fr B n s : Int) := by
    unfold knO
    rw [Int.toNat_of_nonneg (by omega)]
  have o6 : knO fr B n s < 6 := by omega
  refine CT_of_V (by omega) (show (1 : Nat) ≤ mML 229 by decide +kernel) ?_
  refine V_aload (v := ad 90) mi_229_0 (List.Mem.head _) ?_
  refine V_callM (As := []) (st := []) mi_229_1 (by omega) (by decide +kernel) (by decide +kernel) h.1 (folkm_ct h) (by omega) (show 0 = mN 222 by decide +kernel) (by simp) ?_
  rintro r w ⟨rfl, h⟩
  change V l D tys A 229 5 0 0 _ 0 0 (1 + 3) _ ((some (Value.int (Int32.ofInt (knF fr s)))).toList ++ []) _
  refine V_istore mi_229_4 ?_
  refine V_aload (v := ad 90) mi_229_5 (by simp [stL, lv_args, Value.category]) ?_
  refine V_iload (v := Int32.ofInt (knF fr s)) mi_229_6 (by simp [stL, lv_args, Value.category]) ?_
  refine V_callM (As := [.int (Int32.ofInt (knF fr s))]) (st := []) mi_229_7 (by omega) (by decide +kernel) (by decide +kernel) h.1 (othem_ct (by omega) (by omega) h) (by omega) (show 1 = mN 223 by decide +kernel) (by simp) ?_
  rintro r w ⟨rfl, h⟩
  rw [eo]
  have h : MSF ad tys n B fr td w0 (knS fr B n s) w := h
  refine V_istore mi_229_10 ?_
  refine V_aload (v := ad 90) mi_229_11 (by simp [stL, lv_args, Value.category]) ?_
  refine V_iload (v := Int32.ofInt (knO fr B n s : Int)) mi_229_12 (by simp [stL, lv_args, Value.category]) ?_
  refine V_callM (As := [.int (Int32.ofInt (knO fr B n s : Int))]) (st := []) mi_229_13 (by omega) (by decide +kernel) (by decide +kernel) h.1 (whichm_ct o6 h) (by omega) (show 1 = mN 227 by decide +kernel) (by simp) ?_
  rintro r w ⟨rfl, h⟩
  change V l D tys A 229 5 0 0 _ 0 0 (13 + 3) _ ((some (Value.int (Int32.ofInt (knI fr B n s)))).toList ++ []) _
  have h : MSF ad tys n B fr td w0 (knT fr B n s) w := h
  have h' := h
  obtain ⟨hG, ⟨T, ok, h10, h9, h8, h11, h12, h13⟩, -, -⟩ := h'
  obtain ⟨-, -, -, b4⟩ := ok
  refine V_istore mi_229_16 ?_
  refine V_aload (v := ad 90) mi_229_17 (by simp [stL, lv_args, Value.category]) ?_
  refine V_callM (As := []) (st := []) mi_229_18 (by omega) (by decide +kernel) (by decide +kernel) hG (good_ct hG h12 b4.1 b4.2) (by omega) (show 0 = mN 214 by decide +kernel) (by simp) ?_
  rintro r w1 ⟨rfl, rfl⟩
  unfold knG
  by_cases hf : (knT fr B n s).2.1 = 0
  · rw [if_pos hf, if_pos hf]
    obtain ⟨k1, -, k2, k3, -⟩ := num_ok (B := B) (n := n) (s := knS fr B n s) hf
    have k3 : knI fr B n s = (knS fr B n s).1.2.2.2 := k3
    have bl := fr_seg h e96 (by omega) (g6 _ o6) (by omega) (by omega)
    have jj : knJ fr B n s = 66 + (6 * (knF fr s).toNat + knO fr B n s) := by unfold knJ; omega
    have j36 : 6 * (knF fr s).toNat + knO fr B n s < 36 := by omega
    have hj : knJ fr B n s < 294 := by omega
    have sj : segAt s96 (knJ fr B n s) = some (0, 0, 63) := by rw [jj]; exact g66 _ j36
    have bk := fr_seg h e96 hj sj (by omega) (by omega)
    have bb := bitO_bd bk.1 bk.2 (i := knI fr B n s) (by omega) (by omega)
    refine V_if mi_229_21 (fun h1 => absurd (show (1 : Int32) = 0 from h1) (by decide)) (fun _ => ?_)
    refine V_aload (v := ad 90) mi_229_24 (by simp [stL, lv_args, Value.category]) ?_
    refine V_getI mi_229_25 hG (rref gr14 (by omega) hG) ?_
    refine V_ipush mi_229_28 ?_
    refine V_ipush mi_229_30 ?_
    refine V_iload (v := Int32.ofInt (knF fr s)) mi_229_32 (by simp [stL, lv_args, Value.category]) ?_
    refine V_ibin mi_229_33 (by omega) ?_
    refine V_ibin mi_229_34 (by omega) ?_
    refine V_iload (v := Int32.ofInt (knO fr B n s : Int)) mi_229_35 (by simp [stL, lv_args, Value.category]) ?_
    refine V_ibin mi_229_36 (by omega) ?_
    have ei : ibF 0 (ibF 0 (Int32.ofInt 66) (ibF 2 (Int32.ofInt 6) (Int32.ofInt (knF fr s)))) (Int32.ofInt (knO fr B n s : Int)) = Int32.ofInt ((knJ fr B n s : Nat) : Int) := by
      show Int32.ofInt 66 + Int32.ofInt 6 * Int32.ofInt (knF fr s) + Int32.ofInt (knO fr B n s : Int) = _
      rw [← Int32.ofInt_mul, ← Int32.ofInt_add, ← Int32.ofInt_add]
      rw [show (66 : Int) + 6 * knF fr s + (knO fr B n s : Int) = ((knJ fr B n s : Nat) : Int) by omega]
    refine V_dup2 mi_229_37 (by simp [Value.category]) (by simp [Value.category]) ?_
    refine V_fresh (a := 0) (x := 0) h hj ei mi_229_38 ?_
    refine V_ipush mi_229_39 ?_
    refine V_iload (v := Int32.ofInt (knI fr B n s)) mi_229_40 (by simp [stL, lv_args, Value.category]) ?_
    refine V_ibin mi_229_41 (by omega) ?_
    refine V_ibin mi_229_42 (by omega) ?_
    rw [show ibF 6 (Int32.ofInt (fr (knJ fr B n s))) (ibF 8 (Int32.ofInt 1) (Int32.ofInt (knI fr B n s))) = Int32.ofInt (bitO (fr (knJ fr B n s)) (knI fr B n s)) by unfold bitO; rw [Int32.ofInt_toInt]]
    refine V_fst h e96 hj ei mi_229_43 sj bb.1 bb.2 bb.1 (by omega) (fun w' h2 => ?_)
    exact V_retV mi_229_44 ⟨rfl, h2⟩
  · rw [if_neg hf, if_neg hf]
    refine V_if mi_229_21 (fun _ => ?_) (fun h1 => absurd (show (0 : Int32) = 0 from rfl) h1)
    exact V_retV mi_229_44 ⟨rfl, h⟩
end TKL
section TKM
variable {l : Launch} {D : va_G} {tys : List (ClassId × FieldType)} {A : Nat → Prop} {ad : Nat → Nat} {ws : va_W}
theorem g96s : ∃ s, GG[96]? = some ((1, 0, 294), s) ∧ (∀ f, f < 6 → segAt s (6 + 7 * f) = some (0, 0, 6)) ∧ segAt s 4 = some (0, 0, 12) ∧ (∀ k, k < 12 → segAt s (246 + 4 * k) = some (0, 0, 5) ∧ segAt s (246 + 4 * k + 1) = some (0, 0, 5) ∧ segAt s (246 + 4 * k + 2) = some (0, 0, 5) ∧ segAt s (246 + 4 * k + 3) = some (0, 0, 23)) := by
  refine ⟨_, rfl, fun f hf => ?_, by decide +kernel, fun k hk => ?_⟩
  · exact (show ∀ f : Fin 6, segAt _ (6 + 7 * f.1) = some (0, 0, 6) by decide +kernel) ⟨f, hf⟩
  · exact (show ∀ k : Fin 12, segAt _ (246 + 4 * k.1) = some (0, 0, 5) ∧ segAt _ (246 + 4 * k.1 + 1) = some (0, 0, 5) ∧ segAt _ (246 + 4 * k.1 + 2) = some (0, 0, 5) ∧ segAt _ (246 + 4 * k.1 + 3) = some (0, 0, 23) by decide +kernel) ⟨k, hk⟩
/-- a line 'says' -/
noncomputable def saF (fr : Nat → Int) (s : TS) : Int := folkR fr s
noncomputable def saA (fr : Nat → Int) (B : Nat → Int) (n : Nat) (s : TS) : TS := folkT B n fr s
noncomputable def saO (fr : Nat → Int) (B : Nat → Int) (n : Nat) (s : TS) : Nat := (folkR fr (saA fr B n s)).toNat
noncomputable def saB (fr : Nat → Int) (B : Nat → Int) (n : Nat) (s : TS) : TS := folkT B n fr (saA fr B n s)
noncomputable def saI (fr : Nat → Int) (B : Nat → Int) (n : Nat) (s : TS) : Int := whichR fr (saO fr B n s) (saB fr B n s)
noncomputable def saC (fr : Nat → Int) (B : Nat → Int) (n : Nat) (s : TS) : TS := whichT B n fr (saO fr B n s) (saB fr B n s)
noncomputable def saN (fr : Nat → Int) (B : Nat → Int) (n : Nat) (s : TS) : TS := needS B n xAt (saC fr B n s)
noncomputable def saH (fr : Nat → Int) (B : Nat → Int) (n : Nat) (s : TS) : Int := hourR fr (saN fr B n s)
noncomputable def saT (fr : Nat → Int) (B : Nat → Int) (n : Nat) (s : TS) : TS := hourT B n fr (saN fr B n s)
noncomputable def saK (fr : Nat → Int) : Nat := 246 + 4 * (fr 4).toNat
noncomputable def saG (fr : Nat → Int) (B : Nat → Int) (n : Nat) (s : TS) : Nat → Int := if (saT fr B n s).2.1 = 0 then updI (updI (updI (updI (updI fr (saK fr) (saF fr s)) (saK fr + 1) (saO fr B n s : Int)) (saK fr + 2) (saI fr B n s)) (saK fr + 3) (saH fr B n s)) 4 (fr 4 + 1) else fr
theorem sam_ct {n : Nat} {B fr td : Nat → Int} {s : TS} {w0 : va_W} (h4 : fr 4 < 12) (h : MSF ad tys n B fr td w0 s ws) : CT l D tys A 230 7 0 0 [.ref (ad 90)] ws (fun r w => r = none ∧ MSF ad tys n B (saG fr B n s) td w0 (saT fr B n s) w) := by
  obtain ⟨s96, e96, g6, g4, gk⟩ := g96s
  obtain ⟨s96', e96', -, g3, -, -⟩ := gf96
  obtain ⟨s96b, e96b, -, -, g2⟩ := gf96b
  obtain ⟨p1, p2, p3⟩ := xq (i := 16) (by omega)
  have b2 := fr_seg h e96b (by omega) g2 (by omega) (by omega)
  have b3 := fr_seg h e96' (by omega) g3 (by omega) (by omega)
  have c4 := fr_seg h e96 (by omega) g4 (by omega) (by omega)
  have k12 : (fr 4).toNat < 12 := by omega
  obtain ⟨q0, q1, q2, q3⟩ := gk _ k12
  have bf : saF fr s = 0 ∨ (0 ≤ saF fr s ∧ saF fr s ≤ fr 3 - 1) := numR_bd
  have bo : folkR fr (saA fr B n s) = 0 ∨ (0 ≤ folkR fr (saA fr B n s) ∧ folkR fr (saA fr B n s) ≤ fr 3 - 1) := numR_bd
  have eo : folkR fr (saA fr B n s) = (saO fr B n s : Int) := by
    unfold saO
    rw [Int.toNat_of_nonneg (by omega)]
  have o6 : saO fr B n s < 6 := by omega
  have bl := fr_seg h e96 (by omega) (g6 _ o6) (by omega) (by omega)
  have bi : saI fr B n s = 0 ∨ (0 ≤ saI fr B n s ∧ saI fr B n s ≤ fr (6 + 7 * saO fr B n s) - 1) := numR_bd
  have bh : saH fr B n s = 0 ∨ (0 ≤ saH fr B n s ∧ saH fr B n s ≤ fr 2 - 1) := numR_bd
  have hK : saK fr = 246 + 4 * (fr 4).toNat := rfl
  have ek : ibF 0 (Int32.ofInt 246) (ibF 2 (Int32.ofInt 4) (Int32.ofInt (fr 4))) = Int32.ofInt ((saK fr : Nat) : Int) := by
    show Int32.ofInt 246 + Int32.ofInt 4 * Int32.ofInt (fr 4) = _
    rw [← Int32.ofInt_mul, ← Int32.ofInt_add]
    rw [show (246 : Int) + 4 * fr 4 = ((saK fr : Nat) : Int) by omega]
  refine CT_of_V (by omega) (show (1 : Nat) ≤ mML 230 by decide +kernel) ?_
  refine V_ipush mi_230_0 ?_
  refine V_ipush mi_230_3 ?_
  refine V_aload (v := ad 90) mi_230_4 (List.Mem.head _) ?_
  refine V_getI mi_230_5 h.1 (rref gr14 (by omega) h.1) ?_
  refine V_ipush mi_230_8 ?_
  refine V_fresh (a := 0) (x := 0) h (j := 4) (by omega) rfl mi_230_9 ?_
  refine V_ibin mi_230_10 (by omega) ?_
  refine V_ibin mi_230_11 (by omega) ?_
  rw [ek]
  refine V_istore mi_230_12 ?_
  refine V_aload (v := ad 90) mi_230_13 (by simp [stL, lv_args, Value.category]) ?_
  refine V_callM (As := []) (st := []) mi_230_14 (by omega) (by decide +kernel) (by decide +kernel) h.1 (folkm_ct h) (by omega) (show 0 = mN 222 by decide +kernel) (by simp) ?_
  rintro r w ⟨rfl, h⟩
  change V l D tys A 230 7 0 0 _ 0 0 (14 + 3) _ ((some (Value.int (Int32.ofInt (saF fr s)))).toList ++ []) _
  have h : MSF ad tys n B fr td w0 (saA fr B n s) w := h
  refine V_istore mi_230_17 ?_
  refine V_aload (v := ad 90) mi_230_18 (by simp [stL, lv_args, Value.category]) ?_
  refine V_callM (As := []) (st := []) mi_230_19 (by omega) (by decide +kernel) (by decide +kernel) h.1 (folkm_ct h) (by omega) (show 0 = mN 222 by decide +kernel) (by simp) ?_
  rintro r w ⟨rfl, h⟩
  rw [eo]
  have h : MSF ad tys n B fr td w0 (saB fr B n s) w := h
  refine V_istore mi_230_22 ?_
  refine V_aload (v := ad 90) mi_230_23 (by simp [stL, lv_args, Value.category]) ?_
  refine V_iload (v := Int32.ofInt (saO fr B n s : Int)) mi_230_24 (by simp [stL, lv_args, Value.category]) ?_
  refine V_callM (As := [.int (Int32.ofInt (saO fr B n s : Int))]) (st := []) mi_230_25 (by omega) (by decide +kernel) (by decide +kernel) h.1 (whichm_ct o6 h) (by omega) (show 1 = mN 227 by decide +kernel) (by simp) ?_
  rintro r w ⟨rfl, h⟩
  change V l D tys A 230 7 0 0 _ 0 0 (25 + 3) _ ((some (Value.int (Int32.ofInt (saI fr B n s)))).toList ++ []) _
  have h : MSF ad tys n B fr td w0 (saC fr B n s) w := h
  refine V_istore mi_230_28 ?_
  refine V_aload (v := ad 90) mi_230_30 (by simp [stL, lv_args, Value.category]) ?_
  refine V_ldcS mi_230_31 ?_
  refine V_callM (As := [.ref (D.2 1000 16)]) (st := []) mi_230_33 (by omega) (by decide +kernel) (by decide +kernel) h.1 (needm_ct p1 p2 p3 (MSF_q h)) (by omega) (show 1 = mN 218 by decide +kernel) (by simp) ?_
  rintro r w ⟨rfl, h1⟩
  have h : MSF ad tys n B fr td w0 (saN fr B n s) w := MSF_of h h1
  refine V_aload (v := ad 90) mi_230_36 (by simp [stL, lv_args, Value.category]) ?_
  refine V_callM (As := []) (st := []) mi_230_37 (by omega) (by decide +kernel) (by decide +kernel) h.1 (hourm_ct h) (by omega) (show 0 = mN 224 by decide +kernel) (by simp) ?_
  rintro r w ⟨rfl, h⟩
  change V l D tys A 230 7 0 0 _ 0 0 (37 + 3) _ ((some (Value.int (Int32.ofInt (saH fr B n s)))).toList ++ []) _
  have h : MSF ad tys n B fr td w0 (saT fr B n s) w := h
  have h' := h
  obtain ⟨hG, ⟨T, ok, h10, h9, h8, h11, h12, h13⟩, -, -⟩ := h'
  obtain ⟨-, -, -, b4⟩ := ok
  refine V_istore mi_230_40 ?_
  refine V_aload (v := ad 90) mi_230_42 (by simp [stL, lv_args, Value.category]) ?_
  refine V_callM (As := []) (st := []) mi_230_43 (by omega) (by decide +kernel) (by decide +kernel) hG (good_ct hG h12 b4.1 b4.2) (by omega) (show 0 = mN 214 by decide +kernel) (by simp) ?_
  rintro r w1 ⟨rfl, rfl⟩
  unfold saG
  by_cases hf : (saT fr B n s).2.1 = 0
  · rw [if_pos hf, if_pos hf]
    refine V_if mi_230_46 (fun _ => ?_) (fun h1 => absurd (show (1 : Int32) ≠ 0 by decide) h1)
    have ka : ∀ m : Nat, ibF 0 (Int32.ofInt ((saK fr : Nat) : Int)) (Int32.ofInt (m : Int)) = Int32.ofInt ((saK fr + m : Nat) : Int) := fun m => by
      show Int32.ofInt ((saK fr : Nat) : Int) + Int32.ofInt (m : Int) = _
      rw [← Int32.ofInt_add]; rfl
    refine V_aload (v := ad 90) mi_230_50 (by simp [stL, lv_args, Value.category]) ?_
    refine V_getI mi_230_51 h.1 (rref gr14 (by omega) h.1) ?_
    refine V_iload (v := Int32.ofInt ((saK fr : Nat) : Int)) mi_230_54 (by simp [stL, lv_args, Value.category]) ?_
    refine V_ipush mi_230_55 ?_
    refine V_ibin mi_230_56 (by omega) ?_
    refine V_iload (v := Int32.ofInt (saF fr s)) mi_230_57 (by simp [stL, lv_args, Value.category]) ?_
    refine V_fst (z := saF fr s) h e96 (j := saK fr) (by omega) (ka 0) mi_230_58 q0 (by omega) (by omega) (by omega) (by omega) (fun w h => ?_)
    refine V_aload (v := ad 90) mi_230_59 (by simp [stL, lv_args, Value.category]) ?_
    refine V_getI mi_230_60 h.1 (rref gr14 (by omega) h.1) ?_
    refine V_iload (v := Int32.ofInt ((saK fr : Nat) : Int)) mi_230_63 (by simp [stL, lv_args, Value.category]) ?_
    refine V_ipush mi_230_64 ?_
    refine V_ibin mi_230_65 (by omega) ?_
    refine V_iload (v := Int32.ofInt (saO fr B n s : Int)) mi_230_66 (by simp [stL, lv_args, Value.category]) ?_
    refine V_fst (z := (saO fr B n s : Int)) h e96 (j := saK fr + 1) (by omega) (ka 1) mi_230_67 q1 (by omega) (by omega) (by omega) (by omega) (fun w h => ?_)
    refine V_aload (v := ad 90) mi_230_68 (by simp [stL, lv_args, Value.category]) ?_
    refine V_getI mi_230_69 h.1 (rref gr14 (by omega) h.1) ?_
    refine V_iload (v := Int32.ofInt ((saK fr : Nat) : Int)) mi_230_72 (by simp [stL, lv_args, Value.category]) ?_
    refine V_ipush mi_230_73 ?_
    refine V_ibin mi_230_74 (by omega) ?_
    refine V_iload (v := Int32.ofInt (saI fr B n s)) mi_230_75 (by simp [stL, lv_args, Value.category]) ?_
    refine V_fst (z := saI fr B n s) h e96 (j := saK fr + 2) (by omega) (ka 2) mi_230_77 q2 (by omega) (by omega) (by omega) (by omega) (fun w h => ?_)
    refine V_aload (v := ad 90) mi_230_78 (by simp [stL, lv_args, Value.category]) ?_
    refine V_getI mi_230_79 h.1 (rref gr14 (by omega) h.1) ?_
    refine V_iload (v := Int32.ofInt ((saK fr : Nat) : Int)) mi_230_82 (by simp [stL, lv_args, Value.category]) ?_
    refine V_ipush mi_230_83 ?_
    refine V_ibin mi_230_84 (by omega) ?_
    refine V_iload (v := Int32.ofInt (saH fr B n s)) mi_230_85 (by simp [stL, lv_args, Value.category]) ?_
    refine V_fst (z := saH fr B n s) h e96 (j := saK fr + 3) (by omega) (ka 3) mi_230_87 q3 (by omega) (by omega) (by omega) (by omega) (fun w h => ?_)
    refine V_aload (v := ad 90) mi_230_88 (by simp [stL, lv_args, Value.category]) ?_
    refine V_getI mi_230_89 h.1 (rref gr14 (by omega) h.1) ?_
    refine V_ipush mi_230_92 ?_
    refine V_dup2 mi_230_93 (by simp [Value.category]) (by simp [Value.category]) ?_
    refine V_fresh (a := 0) (x := 0) h (j := 4) (by omega) rfl mi_230_94 ?_
    refine V_ipush mi_230_95 ?_
    refine V_ibin mi_230_96 (by omega) ?_
    have e4 : updI (updI (updI (updI fr (saK fr) (saF fr s)) (saK fr + 1) (saO fr B n s : Int)) (saK fr + 2) (saI fr B n s)) (saK fr + 3) (saH fr B n s) 4 = fr 4 := by
      unfold updI
      rw [if_neg (by omega), if_neg (by omega), if_neg (by omega), if_neg (by omega)]
    rw [e4, show ibF 0 (Int32.ofInt (fr 4)) (Int32.ofInt 1) = Int32.ofInt (fr 4 + 1) by show Int32.ofInt (fr 4) + Int32.ofInt 1 = _; rw [← Int32.ofInt_add]]
    refine V_fst (z := fr 4 + 1) h e96 (j := 4) (by omega) rfl mi_230_97 g4 (by omega) (by omega) (by omega) (by omega) (fun w h => ?_)
    exact V_retV mi_230_98 ⟨rfl, h⟩
  · rw [if_neg hf, if_neg hf]
    refine V_if mi_230_46 (fun h1 => absurd (show (0 : Int32) = 0 from rfl) h1) (fun _ => ?_)
    exact V_retV mi_230_49 ⟨rfl, h⟩
end TKM
end
section
theorem mi_4_0 : mI 4 0 = (3, 0, 1, 0, 0) := by decide +kernel
theorem mi_4_1 : mI 4 1 = (36, 43, 27, 35, 27) := by decide +kernel
theorem mi_4_28 : mI 4 28 = (5, 0, 0, 0, 0) := by decide +kernel
theorem mi_4_29 : mI 4 29 = (17, 297, 12, 10, 0) := by decide +kernel
theorem mi_4_32 : mI 4 32 = (17, 67, 98, 5, 1) := by decide +kernel
theorem mi_4_35 : mI 4 35 = (27, 0, 0, 0, 0) := by decide +kernel
theorem mi_4_36 : mI 4 36 = (5, 0, 0, 0, 0) := by decide +kernel
theorem mi_4_37 : mI 4 37 = (17, 297, 12, 10, 0) := by decide +kernel
theorem mi_4_40 : mI 4 40 = (17, 69, 110, 5, 2) := by decide +kernel
theorem mi_4_43 : mI 4 43 = (27, 0, 0, 0, 0) := by decide +kernel
theorem mi_4_44 : mI 4 44 = (1, (-1), 0, 0, 0) := by decide +kernel
theorem mi_4_45 : mI 4 45 = (27, 0, 0, 0, 0) := by decide +kernel
theorem mi_5_0 : mI 5 0 = (5, 0, 0, 0, 0) := by decide +kernel
theorem mi_5_1 : mI 5 1 = (17, 299, 24, 10, 2) := by decide +kernel
theorem mi_5_4 : mI 5 4 = (3, 0, 1, 0, 0) := by decide +kernel
theorem mi_5_5 : mI 5 5 = (26, 607, 113, 102, 0) := by decide +kernel
theorem mi_5_8 : mI 5 8 = (14, 6, 1, 14, 0) := by decide +kernel
theorem mi_5_11 : mI 5 11 = (1, (-2), 1, 0, 0) := by decide +kernel
theorem mi_5_13 : mI 5 13 = (27, 0, 0, 0, 0) := by decide +kernel
theorem mi_5_14 : mI 5 14 = (5, 0, 0, 0, 0) := by decide +kernel
theorem mi_5_15 : mI 5 15 = (17, 299, 24, 10, 2) := by decide +kernel
theorem mi_5_18 : mI 5 18 = (3, 0, 1, 0, 0) := by decide +kernel
theorem mi_5_19 : mI 5 19 = (3, 0, 2, 0, 0) := by decide +kernel
theorem mi_5_20 : mI 5 20 = (26, 608, 117, 105, 0) := by decide +kernel
theorem mi_5_23 : mI 5 23 = (14, 15, 0, 38, 0) := by decide +kernel
theorem mi_5_26 : mI 5 26 = (5, 0, 0, 0, 0) := by decide +kernel
theorem mi_5_27 : mI 5 27 = (17, 299, 24, 10, 2) := by decide +kernel
theorem mi_5_30 : mI 5 30 = (3, 0, 1, 0, 0) := by decide +kernel
theorem mi_5_31 : mI 5 31 = (3, 0, 2, 0, 0) := by decide +kernel
theorem mi_5_32 : mI 5 32 = (26, 612, 121, 107, 0) := by decide +kernel
theorem mi_5_35 : mI 5 35 = (16, 4, 0, 39, 0) := by decide +kernel
theorem mi_5_38 : mI 5 38 = (1, (-1), 0, 0, 0) := by decide +kernel
theorem mi_5_39 : mI 5 39 = (27, 0, 0, 0, 0) := by decide +kernel
theorem mi_6_0 : mI 6 0 = (5, 0, 0, 0, 0) := by decide +kernel
theorem mi_6_1 : mI 6 1 = (17, 299, 24, 10, 2) := by decide +kernel
theorem mi_6_4 : mI 6 4 = (3, 0, 1, 0, 0) := by decide +kernel
theorem mi_6_5 : mI 6 5 = (26, 607, 113, 102, 0) := by decide +kernel
theorem mi_6_8 : mI 6 8 = (14, 14, 0, 22, 0) := by decide +kernel
theorem mi_6_11 : mI 6 11 = (5, 0, 0, 0, 0) := by decide +kernel
theorem mi_6_12 : mI 6 12 = (17, 299, 24, 10, 2) := by decide +kernel
theorem mi_6_15 : mI 6 15 = (3, 0, 1, 0, 0) := by decide +kernel
theorem mi_6_16 : mI 6 16 = (26, 620, 125, 106, 0) := by decide +kernel
theorem mi_6_19 : mI 6 19 = (16, 5, 0, 24, 0) := by decide +kernel
theorem mi_6_22 : mI 6 22 = (1, (-2), 1, 0, 0) := by decide +kernel
theorem mi_6_24 : mI 6 24 = (27, 0, 0, 0, 0) := by decide +kernel
theorem mi_7_0 : mI 7 0 = (5, 0, 0, 0, 0) := by decide +kernel
theorem mi_7_1 : mI 7 1 = (17, 299, 24, 10, 2) := by decide +kernel
theorem mi_7_4 : mI 7 4 = (3, 0, 1, 0, 0) := by decide +kernel
theorem mi_7_5 : mI 7 5 = (26, 607, 113, 102, 0) := by decide +kernel
theorem mi_7_8 : mI 7 8 = (14, 6, 1, 14, 0) := by decide +kernel
theorem mi_7_11 : mI 7 11 = (1, (-2), 1, 0, 0) := by decide +kernel
theorem mi_7_13 : mI 7 13 = (27, 0, 0, 0, 0) := by decide +kernel
theorem mi_7_14 : mI 7 14 = (3, 0, 2, 0, 0) := by decide +kernel
theorem mi_7_15 : mI 7 15 = (28, 0, 0, 0, 0) := by decide +kernel
theorem mi_7_40 : mI 7 40 = (5, 0, 0, 0, 0) := by decide +kernel
theorem mi_7_41 : mI 7 41 = (17, 299, 24, 10, 2) := by decide +kernel
theorem mi_7_44 : mI 7 44 = (17, 119, 129, 2, 8) := by decide +kernel
theorem mi_7_47 : mI 7 47 = (3, 0, 1, 0, 0) := by decide +kernel
theorem mi_7_48 : mI 7 48 = (26, 625, 133, 147, 1) := by decide +kernel
theorem mi_7_51 : mI 7 51 = (27, 0, 0, 0, 0) := by decide +kernel
theorem mi_7_52 : mI 7 52 = (5, 0, 0, 0, 0) := by decide +kernel
theorem mi_7_53 : mI 7 53 = (17, 299, 24, 10, 2) := by decide +kernel
theorem mi_7_56 : mI 7 56 = (17, 122, 139, 2, 9) := by decide +kernel
theorem mi_7_59 : mI 7 59 = (3, 0, 1, 0, 0) := by decide +kernel
theorem mi_7_60 : mI 7 60 = (26, 625, 133, 147, 1) := by decide +kernel
theorem mi_7_63 : mI 7 63 = (27, 0, 0, 0, 0) := by decide +kernel
theorem mi_7_64 : mI 7 64 = (5, 0, 0, 0, 0) := by decide +kernel
theorem mi_7_65 : mI 7 65 = (17, 299, 24, 10, 2) := by decide +kernel
theorem mi_7_68 : mI 7 68 = (17, 126, 142, 2, 10) := by decide +kernel
theorem mi_7_71 : mI 7 71 = (3, 0, 1, 0, 0) := by decide +kernel
theorem mi_7_72 : mI 7 72 = (26, 625, 133, 147, 1) := by decide +kernel
theorem mi_7_75 : mI 7 75 = (27, 0, 0, 0, 0) := by decide +kernel
theorem mi_7_76 : mI 7 76 = (1, (-2), 1, 0, 0) := by decide +kernel
theorem mi_7_78 : mI 7 78 = (27, 0, 0, 0, 0) := by decide +kernel
theorem mi_8_0 : mI 8 0 = (5, 0, 0, 0, 0) := by decide +kernel
theorem mi_8_1 : mI 8 1 = (17, 299, 24, 10, 2) := by decide +kernel
theorem mi_8_4 : mI 8 4 = (3, 0, 1, 0, 0) := by decide +kernel
theorem mi_8_5 : mI 8 5 = (26, 607, 113, 102, 0) := by decide +kernel
theorem mi_8_8 : mI 8 8 = (14, 26, 0, 34, 0) := by decide +kernel
theorem mi_8_11 : mI 8 11 = (5, 0, 0, 0, 0) := by decide +kernel
theorem mi_8_12 : mI 8 12 = (17, 299, 24, 10, 2) := by decide +kernel
theorem mi_8_15 : mI 8 15 = (3, 0, 2, 0, 0) := by decide +kernel
theorem mi_8_16 : mI 8 16 = (26, 630, 145, 103, 0) := by decide +kernel
theorem mi_8_19 : mI 8 19 = (14, 15, 0, 34, 0) := by decide +kernel
theorem mi_8_22 : mI 8 22 = (5, 0, 0, 0, 0) := by decide +kernel
theorem mi_8_23 : mI 8 23 = (17, 299, 24, 10, 2) := by decide +kernel
theorem mi_8_26 : mI 8 26 = (3, 0, 1, 0, 0) := by decide +kernel
theorem mi_8_27 : mI 8 27 = (3, 0, 2, 0, 0) := by decide +kernel
theorem mi_8_28 : mI 8 28 = (26, 631, 148, 110, 0) := by decide +kernel
theorem mi_8_31 : mI 8 31 = (16, 5, 0, 36, 0) := by decide +kernel
theorem mi_8_34 : mI 8 34 = (1, (-2), 1, 0, 0) := by decide +kernel
theorem mi_8_36 : mI 8 36 = (27, 0, 0, 0, 0) := by decide +kernel
theorem mi_9_0 : mI 9 0 = (5, 0, 0, 0, 0) := by decide +kernel
theorem mi_9_1 : mI 9 1 = (17, 299, 24, 10, 2) := by decide +kernel
theorem mi_9_4 : mI 9 4 = (3, 0, 1, 0, 0) := by decide +kernel
theorem mi_9_5 : mI 9 5 = (26, 636, 151, 104, 0) := by decide +kernel
theorem mi_9_8 : mI 9 8 = (14, 6, 1, 14, 0) := by decide +kernel
theorem mi_9_11 : mI 9 11 = (1, (-2), 1, 0, 0) := by decide +kernel
theorem mi_9_13 : mI 9 13 = (27, 0, 0, 0, 0) := by decide +kernel
theorem mi_9_14 : mI 9 14 = (3, 0, 2, 0, 0) := by decide +kernel
theorem mi_9_15 : mI 9 15 = (28, 0, 0, 0, 0) := by decide +kernel
theorem mi_9_44 : mI 9 44 = (5, 0, 0, 0, 0) := by decide +kernel
theorem mi_9_45 : mI 9 45 = (17, 299, 24, 10, 2) := by decide +kernel
theorem mi_9_48 : mI 9 48 = (17, 137, 154, 2, 13) := by decide +kernel
theorem mi_9_51 : mI 9 51 = (3, 0, 1, 0, 0) := by decide +kernel
theorem mi_9_52 : mI 9 52 = (26, 625, 133, 147, 1) := by decide +kernel
theorem mi_9_55 : mI 9 55 = (27, 0, 0, 0, 0) := by decide +kernel
theorem mi_9_56 : mI 9 56 = (5, 0, 0, 0, 0) := by decide +kernel
theorem mi_9_57 : mI 9 57 = (17, 299, 24, 10, 2) := by decide +kernel
theorem mi_9_60 : mI 9 60 = (17, 140, 157, 2, 14) := by decide +kernel
theorem mi_9_63 : mI 9 63 = (3, 0, 1, 0, 0) := by decide +kernel
theorem mi_9_64 : mI 9 64 = (26, 625, 133, 147, 1) := by decide +kernel
theorem mi_9_67 : mI 9 67 = (27, 0, 0, 0, 0) := by decide +kernel
theorem mi_9_68 : mI 9 68 = (5, 0, 0, 0, 0) := by decide +kernel
theorem mi_9_69 : mI 9 69 = (17, 299, 24, 10, 2) := by decide +kernel
theorem mi_9_72 : mI 9 72 = (17, 143, 160, 2, 15) := by decide +kernel
theorem mi_9_75 : mI 9 75 = (3, 0, 1, 0, 0) := by decide +kernel
theorem mi_9_76 : mI 9 76 = (26, 625, 133, 147, 1) := by decide +kernel
theorem mi_9_79 : mI 9 79 = (27, 0, 0, 0, 0) := by decide +kernel
theorem mi_9_80 : mI 9 80 = (5, 0, 0, 0, 0) := by decide +kernel
theorem mi_9_81 : mI 9 81 = (17, 299, 24, 10, 2) := by decide +kernel
theorem mi_9_84 : mI 9 84 = (17, 147, 163, 2, 16) := by decide +kernel
theorem mi_9_87 : mI 9 87 = (3, 0, 1, 0, 0) := by decide +kernel
theorem mi_9_88 : mI 9 88 = (26, 625, 133, 147, 1) := by decide +kernel
theorem mi_9_91 : mI 9 91 = (27, 0, 0, 0, 0) := by decide +kernel
theorem mi_9_92 : mI 9 92 = (1, (-2), 1, 0, 0) := by decide +kernel
theorem mi_9_94 : mI 9 94 = (27, 0, 0, 0, 0) := by decide +kernel
theorem mi_41_0 : mI 41 0 = (5, 0, 0, 0, 0) := by decide +kernel
theorem mi_41_1 : mI 41 1 = (17, 299, 24, 10, 2) := by decide +kernel
theorem mi_41_4 : mI 41 4 = (3, 0, 1, 0, 0) := by decide +kernel
theorem mi_41_5 : mI 41 5 = (26, 607, 113, 102, 0) := by decide +kernel
theorem mi_41_8 : mI 41 8 = (14, 27, 0, 35, 0) := by decide +kernel
theorem mi_41_11 : mI 41 11 = (5, 0, 0, 0, 0) := by decide +kernel
theorem mi_41_12 : mI 41 12 = (17, 299, 24, 10, 2) := by decide +kernel
theorem mi_41_15 : mI 41 15 = (3, 0, 2, 0, 0) := by decide +kernel
theorem mi_41_16 : mI 41 16 = (3, 0, 3, 0, 0) := by decide +kernel
theorem mi_41_17 : mI 41 17 = (26, 608, 117, 105, 0) := by decide +kernel
theorem mi_41_20 : mI 41 20 = (14, 15, 0, 35, 0) := by decide +kernel
theorem mi_41_23 : mI 41 23 = (5, 0, 0, 0, 0) := by decide +kernel
theorem mi_41_24 : mI 41 24 = (17, 299, 24, 10, 2) := by decide +kernel
theorem mi_41_27 : mI 41 27 = (3, 0, 4, 1, 0) := by decide +kernel
theorem mi_41_29 : mI 41 29 = (26, 630, 145, 103, 0) := by decide +kernel
theorem mi_41_32 : mI 41 32 = (14, 6, 1, 38, 0) := by decide +kernel
theorem mi_41_35 : mI 41 35 = (1, (-2), 1, 0, 0) := by decide +kernel
theorem mi_41_37 : mI 41 37 = (27, 0, 0, 0, 0) := by decide +kernel
theorem mi_41_38 : mI 41 38 = (5, 0, 0, 0, 0) := by decide +kernel
theorem mi_41_39 : mI 41 39 = (17, 299, 24, 10, 2) := by decide +kernel
theorem mi_41_42 : mI 41 42 = (17, 112, 212, 2, 5) := by decide +kernel
theorem mi_41_45 : mI 41 45 = (1, 12, 1, 0, 0) := by decide +kernel
theorem mi_41_47 : mI 41 47 = (15, 6, 2, 53, 0) := by decide +kernel
theorem mi_41_50 : mI 41 50 = (1, (-3), 1, 0, 0) := by decide +kernel
theorem mi_41_52 : mI 41 52 = (27, 0, 0, 0, 0) := by decide +kernel
theorem mi_41_53 : mI 41 53 = (5, 0, 0, 0, 0) := by decide +kernel
theorem mi_41_54 : mI 41 54 = (17, 299, 24, 10, 2) := by decide +kernel
theorem mi_41_57 : mI 41 57 = (17, 112, 212, 2, 5) := by decide +kernel
theorem mi_41_60 : mI 41 60 = (6, 0, 5, 1, 0) := by decide +kernel
theorem mi_41_62 : mI 41 62 = (5, 0, 0, 0, 0) := by decide +kernel
theorem mi_41_63 : mI 41 63 = (17, 299, 24, 10, 2) := by decide +kernel
theorem mi_41_66 : mI 41 66 = (3, 0, 1, 0, 0) := by decide +kernel
theorem mi_41_67 : mI 41 67 = (3, 0, 2, 0, 0) := by decide +kernel
theorem mi_41_68 : mI 41 68 = (3, 0, 3, 0, 0) := by decide +kernel
theorem mi_41_69 : mI 41 69 = (3, 0, 4, 1, 0) := by decide +kernel
theorem mi_41_71 : mI 41 71 = (26, 870, 254, 112, 0) := by decide +kernel
theorem mi_41_74 : mI 41 74 = (5, 0, 0, 0, 0) := by decide +kernel
theorem mi_41_75 : mI 41 75 = (26, 528, 104, 73, 0) := by decide +kernel
theorem mi_41_78 : mI 41 78 = (3, 0, 5, 1, 0) := by decide +kernel
theorem mi_41_80 : mI 41 80 = (27, 0, 0, 0, 0) := by decide +kernel
theorem mi_42_0 : mI 42 0 = (5, 0, 0, 0, 0) := by decide +kernel
theorem mi_42_1 : mI 42 1 = (17, 299, 24, 10, 2) := by decide +kernel
theorem mi_42_4 : mI 42 4 = (26, 817, 237, 101, 0) := by decide +kernel
theorem mi_42_7 : mI 42 7 = (14, 6, 1, 13, 0) := by decide +kernel
theorem mi_42_10 : mI 42 10 = (1, (-2), 1, 0, 0) := by decide +kernel
theorem mi_42_12 : mI 42 12 = (27, 0, 0, 0, 0) := by decide +kernel
theorem mi_42_13 : mI 42 13 = (5, 0, 0, 0, 0) := by decide +kernel
theorem mi_42_14 : mI 42 14 = (17, 299, 24, 10, 2) := by decide +kernel
theorem mi_42_17 : mI 42 17 = (17, 112, 212, 2, 5) := by decide +kernel
theorem mi_42_20 : mI 42 20 = (14, 6, 4, 26, 0) := by decide +kernel
theorem mi_42_23 : mI 42 23 = (1, (-5), 1, 0, 0) := by decide +kernel
theorem mi_42_25 : mI 42 25 = (27, 0, 0, 0, 0) := by decide +kernel
theorem mi_42_26 : mI 42 26 = (5, 0, 0, 0, 0) := by decide +kernel
theorem mi_42_27 : mI 42 27 = (17, 299, 24, 10, 2) := by decide +kernel
theorem mi_42_30 : mI 42 30 = (22, 0, 0, 0, 0) := by decide +kernel
theorem mi_42_31 : mI 42 31 = (17, 112, 212, 2, 5) := by decide +kernel
theorem mi_42_34 : mI 42 34 = (1, 1, 0, 0, 0) := by decide +kernel
theorem mi_42_35 : mI 42 35 = (10, 0, 1, 0, 0) := by decide +kernel
theorem mi_42_36 : mI 42 36 = (18, 112, 212, 2, 5) := by decide +kernel
theorem mi_42_39 : mI 42 39 = (5, 0, 0, 0, 0) := by decide +kernel
theorem mi_42_40 : mI 42 40 = (26, 528, 104, 73, 0) := by decide +kernel
theorem mi_42_43 : mI 42 43 = (5, 0, 0, 0, 0) := by decide +kernel
theorem mi_42_44 : mI 42 44 = (17, 299, 24, 10, 2) := by decide +kernel
theorem mi_42_47 : mI 42 47 = (17, 112, 212, 2, 5) := by decide +kernel
theorem mi_42_50 : mI 42 50 = (27, 0, 0, 0, 0) := by decide +kernel
theorem mi_43_0 : mI 43 0 = (5, 0, 0, 0, 0) := by decide +kernel
theorem mi_43_1 : mI 43 1 = (17, 299, 24, 10, 2) := by decide +kernel
theorem mi_43_4 : mI 43 4 = (3, 0, 1, 0, 0) := by decide +kernel
theorem mi_43_5 : mI 43 5 = (26, 607, 113, 102, 0) := by decide +kernel
theorem mi_43_8 : mI 43 8 = (14, 29, 0, 37, 0) := by decide +kernel
theorem mi_43_11 : mI 43 11 = (5, 0, 0, 0, 0) := by decide +kernel
theorem mi_43_12 : mI 43 12 = (17, 299, 24, 10, 2) := by decide +kernel
theorem mi_43_15 : mI 43 15 = (3, 0, 3, 0, 0) := by decide +kernel
theorem mi_43_16 : mI 43 16 = (26, 630, 145, 103, 0) := by decide +kernel
theorem mi_43_19 : mI 43 19 = (14, 18, 0, 37, 0) := by decide +kernel
theorem mi_43_22 : mI 43 22 = (3, 0, 2, 0, 0) := by decide +kernel
theorem mi_43_23 : mI 43 23 = (14, 14, 2, 37, 0) := by decide +kernel
theorem mi_43_26 : mI 43 26 = (3, 0, 2, 0, 0) := by decide +kernel
theorem mi_43_27 : mI 43 27 = (5, 0, 0, 0, 0) := by decide +kernel
theorem mi_43_28 : mI 43 28 = (17, 299, 24, 10, 2) := by decide +kernel
theorem mi_43_31 : mI 43 31 = (17, 93, 258, 2, 2) := by decide +kernel
theorem mi_43_34 : mI 43 34 = (15, 6, 2, 40, 0) := by decide +kernel
theorem mi_43_37 : mI 43 37 = (1, (-2), 1, 0, 0) := by decide +kernel
theorem mi_43_39 : mI 43 39 = (27, 0, 0, 0, 0) := by decide +kernel
theorem mi_43_40 : mI 43 40 = (5, 0, 0, 0, 0) := by decide +kernel
theorem mi_43_41 : mI 43 41 = (17, 299, 24, 10, 2) := by decide +kernel
theorem mi_43_44 : mI 43 44 = (3, 0, 1, 0, 0) := by decide +kernel
theorem mi_43_45 : mI 43 45 = (3, 0, 3, 0, 0) := by decide +kernel
theorem mi_43_46 : mI 43 46 = (26, 631, 148, 110, 0) := by decide +kernel
theorem mi_43_49 : mI 43 49 = (6, 0, 4, 1, 0) := by decide +kernel
theorem mi_43_51 : mI 43 51 = (5, 0, 0, 0, 0) := by decide +kernel
theorem mi_43_52 : mI 43 52 = (17, 299, 24, 10, 2) := by decide +kernel
theorem mi_43_55 : mI 43 55 = (17, 130, 261, 2, 11) := by decide +kernel
theorem mi_43_58 : mI 43 58 = (3, 0, 1, 0, 0) := by decide +kernel
theorem mi_43_59 : mI 43 59 = (1, 24, 1, 0, 0) := by decide +kernel
theorem mi_43_61 : mI 43 61 = (10, 0, 2, 0, 0) := by decide +kernel
theorem mi_43_62 : mI 43 62 = (3, 0, 3, 0, 0) := by decide +kernel
theorem mi_43_63 : mI 43 63 = (10, 0, 0, 0, 0) := by decide +kernel
theorem mi_43_64 : mI 43 64 = (3, 0, 2, 0, 0) := by decide +kernel
theorem mi_43_65 : mI 43 65 = (26, 879, 264, 148, 1) := by decide +kernel
theorem mi_43_68 : mI 43 68 = (5, 0, 0, 0, 0) := by decide +kernel
theorem mi_43_69 : mI 43 69 = (26, 528, 104, 73, 0) := by decide +kernel
theorem mi_43_72 : mI 43 72 = (3, 0, 4, 1, 0) := by decide +kernel
theorem mi_43_74 : mI 43 74 = (27, 0, 0, 0, 0) := by decide +kernel
theorem mi_44_0 : mI 44 0 = (5, 0, 0, 0, 0) := by decide +kernel
theorem mi_44_1 : mI 44 1 = (3, 0, 1, 0, 0) := by decide +kernel
theorem mi_44_2 : mI 44 2 = (3, 0, 2, 0, 0) := by decide +kernel
theorem mi_44_3 : mI 44 3 = (26, 668, 179, 74, 0) := by decide +kernel
theorem mi_44_6 : mI 44 6 = (14, 26, 0, 32, 0) := by decide +kernel
theorem mi_44_9 : mI 44 9 = (5, 0, 0, 0, 0) := by decide +kernel
theorem mi_44_10 : mI 44 10 = (17, 299, 24, 10, 2) := by decide +kernel
theorem mi_44_13 : mI 44 13 = (3, 0, 2, 0, 0) := by decide +kernel
theorem mi_44_14 : mI 44 14 = (3, 0, 3, 0, 0) := by decide +kernel
theorem mi_44_15 : mI 44 15 = (26, 608, 117, 105, 0) := by decide +kernel
theorem mi_44_18 : mI 44 18 = (14, 14, 0, 32, 0) := by decide +kernel
theorem mi_44_21 : mI 44 21 = (3, 0, 4, 1, 0) := by decide +kernel
theorem mi_44_23 : mI 44 23 = (14, 9, 2, 32, 0) := by decide +kernel
theorem mi_44_26 : mI 44 26 = (3, 0, 4, 1, 0) := by decide +kernel
theorem mi_44_28 : mI 44 28 = (1, 1, 0, 0, 0) := by decide +kernel
theorem mi_44_29 : mI 44 29 = (15, 6, 5, 35, 0) := by decide +kernel
theorem mi_44_32 : mI 44 32 = (1, (-2), 1, 0, 0) := by decide +kernel
theorem mi_44_34 : mI 44 34 = (27, 0, 0, 0, 0) := by decide +kernel
theorem mi_44_35 : mI 44 35 = (3, 0, 1, 0, 0) := by decide +kernel
theorem mi_44_36 : mI 44 36 = (1, 6, 1, 0, 0) := by decide +kernel
theorem mi_44_38 : mI 44 38 = (10, 0, 2, 0, 0) := by decide +kernel
theorem mi_44_39 : mI 44 39 = (3, 0, 2, 0, 0) := by decide +kernel
theorem mi_44_40 : mI 44 40 = (10, 0, 0, 0, 0) := by decide +kernel
theorem mi_44_41 : mI 44 41 = (6, 0, 5, 1, 0) := by decide +kernel
theorem mi_44_43 : mI 44 43 = (5, 0, 0, 0, 0) := by decide +kernel
theorem mi_44_44 : mI 44 44 = (17, 299, 24, 10, 2) := by decide +kernel
theorem mi_44_47 : mI 44 47 = (17, 134, 268, 2, 12) := by decide +kernel
theorem mi_44_50 : mI 44 50 = (3, 0, 5, 1, 0) := by decide +kernel
theorem mi_44_52 : mI 44 52 = (26, 625, 133, 147, 1) := by decide +kernel
theorem mi_44_55 : mI 44 55 = (6, 0, 6, 1, 0) := by decide +kernel
theorem mi_44_57 : mI 44 57 = (5, 0, 0, 0, 0) := by decide +kernel
theorem mi_44_58 : mI 44 58 = (17, 299, 24, 10, 2) := by decide +kernel
theorem mi_44_61 : mI 44 61 = (17, 134, 268, 2, 12) := by decide +kernel
theorem mi_44_64 : mI 44 64 = (3, 0, 5, 1, 0) := by decide +kernel
theorem mi_44_66 : mI 44 66 = (3, 0, 4, 1, 0) := by decide +kernel
theorem mi_44_68 : mI 44 68 = (1, 1, 0, 0, 0) := by decide +kernel
theorem mi_44_69 : mI 44 69 = (15, 12, 1, 81, 0) := by decide +kernel
theorem mi_44_72 : mI 44 72 = (3, 0, 6, 1, 0) := by decide +kernel
theorem mi_44_74 : mI 44 74 = (1, 1, 0, 0, 0) := by decide +kernel
theorem mi_44_75 : mI 44 75 = (3, 0, 3, 0, 0) := by decide +kernel
theorem mi_44_76 : mI 44 76 = (10, 0, 8, 0, 0) := by decide +kernel
theorem mi_44_77 : mI 44 77 = (10, 0, 6, 0, 0) := by decide +kernel
theorem mi_44_78 : mI 44 78 = (16, 11, 0, 89, 0) := by decide +kernel
theorem mi_44_81 : mI 44 81 = (3, 0, 6, 1, 0) := by decide +kernel
theorem mi_44_83 : mI 44 83 = (1, 1, 0, 0, 0) := by decide +kernel
theorem mi_44_84 : mI 44 84 = (3, 0, 3, 0, 0) := by decide +kernel
theorem mi_44_85 : mI 44 85 = (10, 0, 8, 0, 0) := by decide +kernel
theorem mi_44_86 : mI 44 86 = (1, (-1), 0, 0, 0) := by decide +kernel
theorem mi_44_87 : mI 44 87 = (10, 0, 7, 0, 0) := by decide +kernel
theorem mi_44_88 : mI 44 88 = (10, 0, 5, 0, 0) := by decide +kernel
theorem mi_44_89 : mI 44 89 = (26, 879, 264, 148, 1) := by decide +kernel
theorem mi_44_92 : mI 44 92 = (5, 0, 0, 0, 0) := by decide +kernel
theorem mi_44_93 : mI 44 93 = (26, 528, 104, 73, 0) := by decide +kernel
theorem mi_44_96 : mI 44 96 = (3, 0, 6, 1, 0) := by decide +kernel
theorem mi_44_98 : mI 44 98 = (3, 0, 3, 0, 0) := by decide +kernel
theorem mi_44_99 : mI 44 99 = (10, 0, 9, 0, 0) := by decide +kernel
theorem mi_44_100 : mI 44 100 = (1, 1, 0, 0, 0) := by decide +kernel
theorem mi_44_101 : mI 44 101 = (10, 0, 5, 0, 0) := by decide +kernel
theorem mi_44_102 : mI 44 102 = (27, 0, 0, 0, 0) := by decide +kernel
theorem mi_69_0 : mI 69 0 = (3, 0, 1, 0, 0) := by decide +kernel
theorem mi_69_1 : mI 69 1 = (14, 21, 2, 22, 0) := by decide +kernel
theorem mi_69_4 : mI 69 4 = (3, 0, 1, 0, 0) := by decide +kernel
theorem mi_69_5 : mI 69 5 = (5, 0, 0, 0, 0) := by decide +kernel
theorem mi_69_6 : mI 69 6 = (17, 308, 80, 10, 11) := by decide +kernel
theorem mi_69_9 : mI 69 9 = (21, 0, 0, 0, 0) := by decide +kernel
theorem mi_69_10 : mI 69 10 = (15, 12, 3, 22, 0) := by decide +kernel
theorem mi_69_13 : mI 69 13 = (5, 0, 0, 0, 0) := by decide +kernel
theorem mi_69_14 : mI 69 14 = (17, 308, 80, 10, 11) := by decide +kernel
theorem mi_69_17 : mI 69 17 = (3, 0, 1, 0, 0) := by decide +kernel
theorem mi_69_18 : mI 69 18 = (19, 0, 3, 0, 0) := by decide +kernel
theorem mi_69_19 : mI 69 19 = (16, 4, 0, 23, 0) := by decide +kernel
theorem mi_69_22 : mI 69 22 = (31, 0, 0, 0, 0) := by decide +kernel
theorem mi_69_23 : mI 69 23 = (27, 0, 3, 0, 0) := by decide +kernel
theorem mi_74_0 : mI 74 0 = (5, 0, 0, 0, 0) := by decide +kernel
theorem mi_74_1 : mI 74 1 = (17, 299, 24, 10, 2) := by decide +kernel
theorem mi_74_4 : mI 74 4 = (3, 0, 1, 0, 0) := by decide +kernel
theorem mi_74_5 : mI 74 5 = (26, 607, 113, 102, 0) := by decide +kernel
theorem mi_74_8 : mI 74 8 = (14, 23, 0, 31, 0) := by decide +kernel
theorem mi_74_11 : mI 74 11 = (5, 0, 0, 0, 0) := by decide +kernel
theorem mi_74_12 : mI 74 12 = (17, 299, 24, 10, 2) := by decide +kernel
theorem mi_74_15 : mI 74 15 = (3, 0, 2, 0, 0) := by decide +kernel
theorem mi_74_16 : mI 74 16 = (26, 607, 113, 102, 0) := by decide +kernel
theorem mi_74_19 : mI 74 19 = (14, 12, 0, 31, 0) := by decide +kernel
theorem mi_74_22 : mI 74 22 = (3, 0, 1, 0, 0) := by decide +kernel
theorem mi_74_23 : mI 74 23 = (3, 0, 2, 0, 0) := by decide +kernel
theorem mi_74_24 : mI 74 24 = (15, 7, 0, 31, 0) := by decide +kernel
theorem mi_74_27 : mI 74 27 = (1, 1, 0, 0, 0) := by decide +kernel
theorem mi_74_28 : mI 74 28 = (16, 4, 0, 32, 0) := by decide +kernel
theorem mi_74_31 : mI 74 31 = (1, 0, 0, 0, 0) := by decide +kernel
theorem mi_74_32 : mI 74 32 = (27, 0, 0, 0, 0) := by decide +kernel
theorem mi_99_0 : mI 99 0 = (5, 0, 0, 0, 0) := by decide +kernel
theorem mi_99_1 : mI 99 1 = (1, 0, 0, 0, 0) := by decide +kernel
theorem mi_99_2 : mI 99 2 = (18, 83, 45, 2, 0) := by decide +kernel
theorem mi_99_5 : mI 99 5 = (5, 0, 0, 0, 0) := by decide +kernel
theorem mi_99_6 : mI 99 6 = (1, 0, 0, 0, 0) := by decide +kernel
theorem mi_99_7 : mI 99 7 = (18, 87, 49, 2, 1) := by decide +kernel
theorem mi_99_10 : mI 99 10 = (5, 0, 0, 0, 0) := by decide +kernel
theorem mi_99_11 : mI 99 11 = (1, 0, 0, 0, 0) := by decide +kernel
theorem mi_99_12 : mI 99 12 = (18, 91, 52, 2, 2) := by decide +kernel
theorem mi_99_15 : mI 99 15 = (5, 0, 0, 0, 0) := by decide +kernel
theorem mi_99_16 : mI 99 16 = (1, 0, 0, 0, 0) := by decide +kernel
theorem mi_99_17 : mI 99 17 = (18, 95, 55, 2, 3) := by decide +kernel
theorem mi_99_20 : mI 99 20 = (5, 0, 0, 0, 0) := by decide +kernel
theorem mi_99_21 : mI 99 21 = (1, 0, 0, 0, 0) := by decide +kernel
theorem mi_99_22 : mI 99 22 = (18, 103, 58, 2, 4) := by decide +kernel
theorem mi_99_25 : mI 99 25 = (5, 0, 0, 0, 0) := by decide +kernel
theorem mi_99_26 : mI 99 26 = (1, 0, 0, 0, 0) := by decide +kernel
theorem mi_99_27 : mI 99 27 = (18, 109, 61, 2, 5) := by decide +kernel
theorem mi_99_30 : mI 99 30 = (5, 0, 0, 0, 0) := by decide +kernel
theorem mi_99_31 : mI 99 31 = (17, 113, 9, 2, 6) := by decide +kernel
theorem mi_99_34 : mI 99 34 = (1, 0, 0, 0, 0) := by decide +kernel
theorem mi_99_35 : mI 99 35 = (26, 361, 64, 149, 1) := by decide +kernel
theorem mi_99_38 : mI 99 38 = (5, 0, 0, 0, 0) := by decide +kernel
theorem mi_99_39 : mI 99 39 = (17, 115, 15, 2, 7) := by decide +kernel
theorem mi_99_42 : mI 99 42 = (1, 0, 0, 0, 0) := by decide +kernel
theorem mi_99_43 : mI 99 43 = (26, 361, 64, 149, 1) := by decide +kernel
theorem mi_99_46 : mI 99 46 = (5, 0, 0, 0, 0) := by decide +kernel
theorem mi_99_47 : mI 99 47 = (17, 117, 18, 2, 8) := by decide +kernel
theorem mi_99_50 : mI 99 50 = (1, 0, 0, 0, 0) := by decide +kernel
theorem mi_99_51 : mI 99 51 = (26, 361, 64, 149, 1) := by decide +kernel
theorem mi_99_54 : mI 99 54 = (5, 0, 0, 0, 0) := by decide +kernel
theorem mi_99_55 : mI 99 55 = (17, 120, 21, 2, 9) := by decide +kernel
theorem mi_99_58 : mI 99 58 = (1, 0, 0, 0, 0) := by decide +kernel
theorem mi_99_59 : mI 99 59 = (26, 361, 64, 149, 1) := by decide +kernel
theorem mi_99_62 : mI 99 62 = (5, 0, 0, 0, 0) := by decide +kernel
theorem mi_99_63 : mI 99 63 = (17, 124, 24, 2, 10) := by decide +kernel
theorem mi_99_66 : mI 99 66 = (1, 0, 0, 0, 0) := by decide +kernel
theorem mi_99_67 : mI 99 67 = (26, 361, 64, 149, 1) := by decide +kernel
theorem mi_99_70 : mI 99 70 = (5, 0, 0, 0, 0) := by decide +kernel
theorem mi_99_71 : mI 99 71 = (17, 128, 27, 2, 11) := by decide +kernel
theorem mi_99_74 : mI 99 74 = (1, (-1), 0, 0, 0) := by decide +kernel
theorem mi_99_75 : mI 99 75 = (26, 361, 64, 149, 1) := by decide +kernel
theorem mi_99_78 : mI 99 78 = (5, 0, 0, 0, 0) := by decide +kernel
theorem mi_99_79 : mI 99 79 = (17, 131, 30, 2, 12) := by decide +kernel
theorem mi_99_82 : mI 99 82 = (1, 0, 0, 0, 0) := by decide +kernel
theorem mi_99_83 : mI 99 83 = (26, 361, 64, 149, 1) := by decide +kernel
theorem mi_99_86 : mI 99 86 = (5, 0, 0, 0, 0) := by decide +kernel
theorem mi_99_87 : mI 99 87 = (17, 135, 33, 2, 13) := by decide +kernel
theorem mi_99_90 : mI 99 90 = (1, 0, 0, 0, 0) := by decide +kernel
theorem mi_99_91 : mI 99 91 = (26, 361, 64, 149, 1) := by decide +kernel
theorem mi_99_94 : mI 99 94 = (5, 0, 0, 0, 0) := by decide +kernel
theorem mi_99_95 : mI 99 95 = (17, 138, 36, 2, 14) := by decide +kernel
theorem mi_99_98 : mI 99 98 = (1, 0, 0, 0, 0) := by decide +kernel
theorem mi_99_99 : mI 99 99 = (26, 361, 64, 149, 1) := by decide +kernel
theorem mi_99_102 : mI 99 102 = (5, 0, 0, 0, 0) := by decide +kernel
theorem mi_99_103 : mI 99 103 = (17, 141, 39, 2, 15) := by decide +kernel
theorem mi_99_106 : mI 99 106 = (1, 0, 0, 0, 0) := by decide +kernel
theorem mi_99_107 : mI 99 107 = (26, 361, 64, 149, 1) := by decide +kernel
theorem mi_99_110 : mI 99 110 = (5, 0, 0, 0, 0) := by decide +kernel
theorem mi_99_111 : mI 99 111 = (17, 144, 42, 2, 16) := by decide +kernel
theorem mi_99_114 : mI 99 114 = (1, 0, 0, 0, 0) := by decide +kernel
theorem mi_99_115 : mI 99 115 = (26, 361, 64, 149, 1) := by decide +kernel
theorem mi_99_118 : mI 99 118 = (27, 0, 2, 0, 0) := by decide +kernel
theorem mi_100_0 : mI 100 0 = (5, 0, 0, 0, 0) := by decide +kernel
theorem mi_100_1 : mI 100 1 = (5, 0, 1, 0, 0) := by decide +kernel
theorem mi_100_2 : mI 100 2 = (17, 83, 45, 2, 0) := by decide +kernel
theorem mi_100_5 : mI 100 5 = (18, 83, 45, 2, 0) := by decide +kernel
theorem mi_100_8 : mI 100 8 = (5, 0, 0, 0, 0) := by decide +kernel
theorem mi_100_9 : mI 100 9 = (5, 0, 1, 0, 0) := by decide +kernel
theorem mi_100_10 : mI 100 10 = (17, 87, 49, 2, 1) := by decide +kernel
theorem mi_100_13 : mI 100 13 = (18, 87, 49, 2, 1) := by decide +kernel
theorem mi_100_16 : mI 100 16 = (5, 0, 0, 0, 0) := by decide +kernel
theorem mi_100_17 : mI 100 17 = (5, 0, 1, 0, 0) := by decide +kernel
theorem mi_100_18 : mI 100 18 = (17, 91, 52, 2, 2) := by decide +kernel
theorem mi_100_21 : mI 100 21 = (18, 91, 52, 2, 2) := by decide +kernel
theorem mi_100_24 : mI 100 24 = (5, 0, 0, 0, 0) := by decide +kernel
theorem mi_100_25 : mI 100 25 = (5, 0, 1, 0, 0) := by decide +kernel
theorem mi_100_26 : mI 100 26 = (17, 95, 55, 2, 3) := by decide +kernel
theorem mi_100_29 : mI 100 29 = (18, 95, 55, 2, 3) := by decide +kernel
theorem mi_100_32 : mI 100 32 = (5, 0, 0, 0, 0) := by decide +kernel
theorem mi_100_33 : mI 100 33 = (5, 0, 1, 0, 0) := by decide +kernel
theorem mi_100_34 : mI 100 34 = (17, 103, 58, 2, 4) := by decide +kernel
theorem mi_100_37 : mI 100 37 = (18, 103, 58, 2, 4) := by decide +kernel
theorem mi_100_40 : mI 100 40 = (5, 0, 0, 0, 0) := by decide +kernel
theorem mi_100_41 : mI 100 41 = (5, 0, 1, 0, 0) := by decide +kernel
theorem mi_100_42 : mI 100 42 = (17, 109, 61, 2, 5) := by decide +kernel
theorem mi_100_45 : mI 100 45 = (18, 109, 61, 2, 5) := by decide +kernel
theorem mi_100_48 : mI 100 48 = (5, 0, 1, 0, 0) := by decide +kernel
theorem mi_100_49 : mI 100 49 = (17, 113, 9, 2, 6) := by decide +kernel
theorem mi_100_52 : mI 100 52 = (5, 0, 0, 0, 0) := by decide +kernel
theorem mi_100_53 : mI 100 53 = (17, 113, 9, 2, 6) := by decide +kernel
theorem mi_100_56 : mI 100 56 = (26, 525, 70, 150, 1) := by decide +kernel
theorem mi_100_59 : mI 100 59 = (5, 0, 1, 0, 0) := by decide +kernel
theorem mi_100_60 : mI 100 60 = (17, 115, 15, 2, 7) := by decide +kernel
theorem mi_100_63 : mI 100 63 = (5, 0, 0, 0, 0) := by decide +kernel
theorem mi_100_64 : mI 100 64 = (17, 115, 15, 2, 7) := by decide +kernel
theorem mi_100_67 : mI 100 67 = (26, 525, 70, 150, 1) := by decide +kernel
theorem mi_100_70 : mI 100 70 = (5, 0, 1, 0, 0) := by decide +kernel
theorem mi_100_71 : mI 100 71 = (17, 117, 18, 2, 8) := by decide +kernel
theorem mi_100_74 : mI 100 74 = (5, 0, 0, 0, 0) := by decide +kernel
theorem mi_100_75 : mI 100 75 = (17, 117, 18, 2, 8) := by decide +kernel
theorem mi_100_78 : mI 100 78 = (26, 525, 70, 150, 1) := by decide +kernel
theorem mi_100_81 : mI 100 81 = (5, 0, 1, 0, 0) := by decide +kernel
theorem mi_100_82 : mI 100 82 = (17, 120, 21, 2, 9) := by decide +kernel
theorem mi_100_85 : mI 100 85 = (5, 0, 0, 0, 0) := by decide +kernel
theorem mi_100_86 : mI 100 86 = (17, 120, 21, 2, 9) := by decide +kernel
theorem mi_100_89 : mI 100 89 = (26, 525, 70, 150, 1) := by decide +kernel
theorem mi_100_92 : mI 100 92 = (5, 0, 1, 0, 0) := by decide +kernel
theorem mi_100_93 : mI 100 93 = (17, 124, 24, 2, 10) := by decide +kernel
theorem mi_100_96 : mI 100 96 = (5, 0, 0, 0, 0) := by decide +kernel
theorem mi_100_97 : mI 100 97 = (17, 124, 24, 2, 10) := by decide +kernel
theorem mi_100_100 : mI 100 100 = (26, 525, 70, 150, 1) := by decide +kernel
theorem mi_100_103 : mI 100 103 = (5, 0, 1, 0, 0) := by decide +kernel
theorem mi_100_104 : mI 100 104 = (17, 128, 27, 2, 11) := by decide +kernel
theorem mi_100_107 : mI 100 107 = (5, 0, 0, 0, 0) := by decide +kernel
theorem mi_100_108 : mI 100 108 = (17, 128, 27, 2, 11) := by decide +kernel
theorem mi_100_111 : mI 100 111 = (26, 525, 70, 150, 1) := by decide +kernel
theorem mi_100_114 : mI 100 114 = (5, 0, 1, 0, 0) := by decide +kernel
theorem mi_100_115 : mI 100 115 = (17, 131, 30, 2, 12) := by decide +kernel
theorem mi_100_118 : mI 100 118 = (5, 0, 0, 0, 0) := by decide +kernel
theorem mi_100_119 : mI 100 119 = (17, 131, 30, 2, 12) := by decide +kernel
theorem mi_100_122 : mI 100 122 = (26, 525, 70, 150, 1) := by decide +kernel
theorem mi_100_125 : mI 100 125 = (5, 0, 1, 0, 0) := by decide +kernel
theorem mi_100_126 : mI 100 126 = (17, 135, 33, 2, 13) := by decide +kernel
theorem mi_100_129 : mI 100 129 = (5, 0, 0, 0, 0) := by decide +kernel
theorem mi_100_130 : mI 100 130 = (17, 135, 33, 2, 13) := by decide +kernel
theorem mi_100_133 : mI 100 133 = (26, 525, 70, 150, 1) := by decide +kernel
theorem mi_100_136 : mI 100 136 = (5, 0, 1, 0, 0) := by decide +kernel
theorem mi_100_137 : mI 100 137 = (17, 138, 36, 2, 14) := by decide +kernel
theorem mi_100_140 : mI 100 140 = (5, 0, 0, 0, 0) := by decide +kernel
theorem mi_100_141 : mI 100 141 = (17, 138, 36, 2, 14) := by decide +kernel
theorem mi_100_144 : mI 100 144 = (26, 525, 70, 150, 1) := by decide +kernel
theorem mi_100_147 : mI 100 147 = (5, 0, 1, 0, 0) := by decide +kernel
theorem mi_100_148 : mI 100 148 = (17, 141, 39, 2, 15) := by decide +kernel
theorem mi_100_151 : mI 100 151 = (5, 0, 0, 0, 0) := by decide +kernel
theorem mi_100_152 : mI 100 152 = (17, 141, 39, 2, 15) := by decide +kernel
theorem mi_100_155 : mI 100 155 = (26, 525, 70, 150, 1) := by decide +kernel
theorem mi_100_158 : mI 100 158 = (5, 0, 1, 0, 0) := by decide +kernel
theorem mi_100_159 : mI 100 159 = (17, 144, 42, 2, 16) := by decide +kernel
theorem mi_100_162 : mI 100 162 = (5, 0, 0, 0, 0) := by decide +kernel
theorem mi_100_163 : mI 100 163 = (17, 144, 42, 2, 16) := by decide +kernel
theorem mi_100_166 : mI 100 166 = (26, 525, 70, 150, 1) := by decide +kernel
theorem mi_100_169 : mI 100 169 = (27, 0, 2, 0, 0) := by decide +kernel
theorem mi_101_0 : mI 101 0 = (5, 0, 0, 0, 0) := by decide +kernel
theorem mi_101_1 : mI 101 1 = (17, 83, 45, 2, 0) := by decide +kernel
theorem mi_101_4 : mI 101 4 = (14, 7, 5, 11, 0) := by decide +kernel
theorem mi_101_7 : mI 101 7 = (1, 1, 0, 0, 0) := by decide +kernel
theorem mi_101_8 : mI 101 8 = (16, 4, 0, 12, 0) := by decide +kernel
theorem mi_101_11 : mI 101 11 = (1, 0, 0, 0, 0) := by decide +kernel
theorem mi_101_12 : mI 101 12 = (27, 0, 0, 0, 0) := by decide +kernel
theorem mi_102_0 : mI 102 0 = (3, 0, 1, 0, 0) := by decide +kernel
theorem mi_102_1 : mI 102 1 = (14, 15, 2, 16, 0) := by decide +kernel
theorem mi_102_4 : mI 102 4 = (3, 0, 1, 0, 0) := by decide +kernel
theorem mi_102_5 : mI 102 5 = (5, 0, 0, 0, 0) := by decide +kernel
theorem mi_102_6 : mI 102 6 = (17, 103, 58, 2, 4) := by decide +kernel
theorem mi_102_9 : mI 102 9 = (15, 7, 3, 16, 0) := by decide +kernel
theorem mi_102_12 : mI 102 12 = (1, 1, 0, 0, 0) := by decide +kernel
theorem mi_102_13 : mI 102 13 = (16, 4, 0, 17, 0) := by decide +kernel
theorem mi_102_16 : mI 102 16 = (1, 0, 0, 0, 0) := by decide +kernel
theorem mi_102_17 : mI 102 17 = (27, 0, 0, 0, 0) := by decide +kernel
theorem mi_103_0 : mI 103 0 = (3, 0, 1, 0, 0) := by decide +kernel
theorem mi_103_1 : mI 103 1 = (14, 15, 2, 16, 0) := by decide +kernel
theorem mi_103_4 : mI 103 4 = (3, 0, 1, 0, 0) := by decide +kernel
theorem mi_103_5 : mI 103 5 = (5, 0, 0, 0, 0) := by decide +kernel
theorem mi_103_6 : mI 103 6 = (17, 95, 55, 2, 3) := by decide +kernel
theorem mi_103_9 : mI 103 9 = (15, 7, 3, 16, 0) := by decide +kernel
theorem mi_103_12 : mI 103 12 = (1, 1, 0, 0, 0) := by decide +kernel
theorem mi_103_13 : mI 103 13 = (16, 4, 0, 17, 0) := by decide +kernel
theorem mi_103_16 : mI 103 16 = (1, 0, 0, 0, 0) := by decide +kernel
theorem mi_103_17 : mI 103 17 = (27, 0, 0, 0, 0) := by decide +kernel
theorem mi_104_0 : mI 104 0 = (3, 0, 1, 0, 0) := by decide +kernel
theorem mi_104_1 : mI 104 1 = (14, 15, 2, 16, 0) := by decide +kernel
theorem mi_104_4 : mI 104 4 = (3, 0, 1, 0, 0) := by decide +kernel
theorem mi_104_5 : mI 104 5 = (5, 0, 0, 0, 0) := by decide +kernel
theorem mi_104_6 : mI 104 6 = (17, 109, 61, 2, 5) := by decide +kernel
theorem mi_104_9 : mI 104 9 = (15, 7, 3, 16, 0) := by decide +kernel
theorem mi_104_12 : mI 104 12 = (1, 1, 0, 0, 0) := by decide +kernel
theorem mi_104_13 : mI 104 13 = (16, 4, 0, 17, 0) := by decide +kernel
theorem mi_104_16 : mI 104 16 = (1, 0, 0, 0, 0) := by decide +kernel
theorem mi_104_17 : mI 104 17 = (27, 0, 0, 0, 0) := by decide +kernel
theorem mi_105_0 : mI 105 0 = (5, 0, 0, 0, 0) := by decide +kernel
theorem mi_105_1 : mI 105 1 = (3, 0, 1, 0, 0) := by decide +kernel
theorem mi_105_2 : mI 105 2 = (26, 545, 74, 102, 0) := by decide +kernel
theorem mi_105_5 : mI 105 5 = (14, 20, 0, 25, 0) := by decide +kernel
theorem mi_105_8 : mI 105 8 = (3, 0, 2, 0, 0) := by decide +kernel
theorem mi_105_9 : mI 105 9 = (14, 16, 2, 25, 0) := by decide +kernel
theorem mi_105_12 : mI 105 12 = (3, 0, 2, 0, 0) := by decide +kernel
theorem mi_105_13 : mI 105 13 = (5, 0, 0, 0, 0) := by decide +kernel
theorem mi_105_14 : mI 105 14 = (3, 0, 1, 0, 0) := by decide +kernel
theorem mi_105_15 : mI 105 15 = (26, 567, 78, 106, 0) := by decide +kernel
theorem mi_105_18 : mI 105 18 = (15, 7, 3, 25, 0) := by decide +kernel
theorem mi_105_21 : mI 105 21 = (1, 1, 0, 0, 0) := by decide +kernel
theorem mi_105_22 : mI 105 22 = (16, 4, 0, 26, 0) := by decide +kernel
theorem mi_105_25 : mI 105 25 = (1, 0, 0, 0, 0) := by decide +kernel
theorem mi_105_26 : mI 105 26 = (27, 0, 0, 0, 0) := by decide +kernel
theorem mi_106_0 : mI 106 0 = (3, 0, 1, 0, 0) := by decide +kernel
theorem mi_106_1 : mI 106 1 = (14, 21, 2, 22, 0) := by decide +kernel
theorem mi_106_4 : mI 106 4 = (3, 0, 1, 0, 0) := by decide +kernel
theorem mi_106_5 : mI 106 5 = (5, 0, 0, 0, 0) := by decide +kernel
theorem mi_106_6 : mI 106 6 = (17, 113, 9, 2, 6) := by decide +kernel
theorem mi_106_9 : mI 106 9 = (21, 0, 0, 0, 0) := by decide +kernel
theorem mi_106_10 : mI 106 10 = (15, 12, 3, 22, 0) := by decide +kernel
theorem mi_106_13 : mI 106 13 = (5, 0, 0, 0, 0) := by decide +kernel
theorem mi_106_14 : mI 106 14 = (17, 113, 9, 2, 6) := by decide +kernel
theorem mi_106_17 : mI 106 17 = (3, 0, 1, 0, 0) := by decide +kernel
theorem mi_106_18 : mI 106 18 = (19, 0, 0, 0, 0) := by decide +kernel
theorem mi_106_19 : mI 106 19 = (16, 4, 0, 23, 0) := by decide +kernel
theorem mi_106_22 : mI 106 22 = (1, 0, 0, 0, 0) := by decide +kernel
theorem mi_106_23 : mI 106 23 = (27, 0, 0, 0, 0) := by decide +kernel
theorem mi_107_0 : mI 107 0 = (3, 0, 2, 0, 0) := by decide +kernel
theorem mi_107_1 : mI 107 1 = (14, 28, 2, 29, 0) := by decide +kernel
theorem mi_107_4 : mI 107 4 = (3, 0, 2, 0, 0) := by decide +kernel
theorem mi_107_5 : mI 107 5 = (5, 0, 0, 0, 0) := by decide +kernel
theorem mi_107_6 : mI 107 6 = (3, 0, 1, 0, 0) := by decide +kernel
theorem mi_107_7 : mI 107 7 = (26, 567, 78, 106, 0) := by decide +kernel
theorem mi_107_10 : mI 107 10 = (15, 19, 3, 29, 0) := by decide +kernel
theorem mi_107_13 : mI 107 13 = (5, 0, 0, 0, 0) := by decide +kernel
theorem mi_107_14 : mI 107 14 = (17, 115, 15, 2, 7) := by decide +kernel
theorem mi_107_17 : mI 107 17 = (3, 0, 1, 0, 0) := by decide +kernel
theorem mi_107_18 : mI 107 18 = (1, 6, 1, 0, 0) := by decide +kernel
theorem mi_107_20 : mI 107 20 = (10, 0, 2, 0, 0) := by decide +kernel
theorem mi_107_21 : mI 107 21 = (3, 0, 2, 0, 0) := by decide +kernel
theorem mi_107_22 : mI 107 22 = (10, 0, 0, 0, 0) := by decide +kernel
theorem mi_107_23 : mI 107 23 = (26, 520, 82, 147, 1) := by decide +kernel
theorem mi_107_26 : mI 107 26 = (16, 4, 0, 30, 0) := by decide +kernel
theorem mi_107_30 : mI 107 30 = (27, 0, 0, 0, 0) := by decide +kernel
theorem mi_110_0 : mI 110 0 = (5, 0, 0, 0, 0) := by decide +kernel
theorem mi_110_1 : mI 110 1 = (3, 0, 1, 0, 0) := by decide +kernel
theorem mi_110_2 : mI 110 2 = (26, 545, 74, 102, 0) := by decide +kernel
theorem mi_110_5 : mI 110 5 = (14, 27, 0, 32, 0) := by decide +kernel
theorem mi_110_8 : mI 110 8 = (5, 0, 0, 0, 0) := by decide +kernel
theorem mi_110_9 : mI 110 9 = (3, 0, 2, 0, 0) := by decide +kernel
theorem mi_110_10 : mI 110 10 = (26, 549, 86, 103, 0) := by decide +kernel
theorem mi_110_13 : mI 110 13 = (14, 19, 0, 32, 0) := by decide +kernel
theorem mi_110_16 : mI 110 16 = (5, 0, 0, 0, 0) := by decide +kernel
theorem mi_110_17 : mI 110 17 = (17, 128, 27, 2, 11) := by decide +kernel
theorem mi_110_20 : mI 110 20 = (3, 0, 1, 0, 0) := by decide +kernel
theorem mi_110_21 : mI 110 21 = (1, 24, 1, 0, 0) := by decide +kernel
theorem mi_110_23 : mI 110 23 = (10, 0, 2, 0, 0) := by decide +kernel
theorem mi_110_24 : mI 110 24 = (3, 0, 2, 0, 0) := by decide +kernel
theorem mi_110_25 : mI 110 25 = (10, 0, 0, 0, 0) := by decide +kernel
theorem mi_110_26 : mI 110 26 = (26, 520, 82, 147, 1) := by decide +kernel
theorem mi_110_29 : mI 110 29 = (16, 4, 0, 33, 0) := by decide +kernel
theorem mi_110_33 : mI 110 33 = (27, 0, 0, 0, 0) := by decide +kernel
theorem mi_111_0 : mI 111 0 = (1, 0, 0, 0, 0) := by decide +kernel
theorem mi_111_1 : mI 111 1 = (6, 0, 1, 0, 0) := by decide +kernel
theorem mi_111_2 : mI 111 2 = (3, 0, 1, 0, 0) := by decide +kernel
theorem mi_111_3 : mI 111 3 = (1, 6, 1, 0, 0) := by decide +kernel
theorem mi_111_5 : mI 111 5 = (15, 65, 3, 70, 0) := by decide +kernel
theorem mi_111_8 : mI 111 8 = (1, 0, 0, 0, 0) := by decide +kernel
theorem mi_111_9 : mI 111 9 = (6, 0, 2, 0, 0) := by decide +kernel
theorem mi_111_10 : mI 111 10 = (1, 0, 0, 0, 0) := by decide +kernel
theorem mi_111_11 : mI 111 11 = (6, 0, 3, 0, 0) := by decide +kernel
theorem mi_111_12 : mI 111 12 = (3, 0, 3, 0, 0) := by decide +kernel
theorem mi_111_13 : mI 111 13 = (1, 24, 1, 0, 0) := by decide +kernel
theorem mi_111_15 : mI 111 15 = (15, 49, 3, 64, 0) := by decide +kernel
theorem mi_111_18 : mI 111 18 = (3, 0, 1, 0, 0) := by decide +kernel
theorem mi_111_19 : mI 111 19 = (1, 24, 1, 0, 0) := by decide +kernel
theorem mi_111_21 : mI 111 21 = (10, 0, 2, 0, 0) := by decide +kernel
theorem mi_111_22 : mI 111 22 = (3, 0, 3, 0, 0) := by decide +kernel
theorem mi_111_23 : mI 111 23 = (10, 0, 0, 0, 0) := by decide +kernel
theorem mi_111_24 : mI 111 24 = (6, 0, 4, 1, 0) := by decide +kernel
theorem mi_111_26 : mI 111 26 = (5, 0, 0, 0, 0) := by decide +kernel
theorem mi_111_27 : mI 111 27 = (17, 128, 27, 2, 11) := by decide +kernel
theorem mi_111_30 : mI 111 30 = (3, 0, 4, 1, 0) := by decide +kernel
theorem mi_111_32 : mI 111 32 = (26, 520, 82, 147, 1) := by decide +kernel
theorem mi_111_35 : mI 111 35 = (14, 13, 2, 48, 0) := by decide +kernel
theorem mi_111_38 : mI 111 38 = (5, 0, 0, 0, 0) := by decide +kernel
theorem mi_111_39 : mI 111 39 = (17, 128, 27, 2, 11) := by decide +kernel
theorem mi_111_42 : mI 111 42 = (3, 0, 4, 1, 0) := by decide +kernel
theorem mi_111_44 : mI 111 44 = (26, 520, 82, 147, 1) := by decide +kernel
theorem mi_111_47 : mI 111 47 = (6, 0, 2, 0, 0) := by decide +kernel
theorem mi_111_48 : mI 111 48 = (5, 0, 0, 0, 0) := by decide +kernel
theorem mi_111_49 : mI 111 49 = (17, 128, 27, 2, 11) := by decide +kernel
theorem mi_111_52 : mI 111 52 = (3, 0, 4, 1, 0) := by decide +kernel
theorem mi_111_54 : mI 111 54 = (3, 0, 2, 0, 0) := by decide +kernel
theorem mi_111_55 : mI 111 55 = (26, 510, 89, 148, 1) := by decide +kernel
theorem mi_111_58 : mI 111 58 = (9, 1, 3, 0, 0) := by decide +kernel
theorem mi_111_61 : mI 111 61 = (16, (-49), 0, 12, 0) := by decide +kernel
theorem mi_111_64 : mI 111 64 = (9, 1, 1, 0, 0) := by decide +kernel
theorem mi_111_67 : mI 111 67 = (16, (-65), 0, 2, 0) := by decide +kernel
theorem mi_111_70 : mI 111 70 = (27, 0, 2, 0, 0) := by decide +kernel
theorem mi_112_0 : mI 112 0 = (5, 0, 0, 0, 0) := by decide +kernel
theorem mi_112_1 : mI 112 1 = (17, 109, 61, 2, 5) := by decide +kernel
theorem mi_112_4 : mI 112 4 = (1, 12, 1, 0, 0) := by decide +kernel
theorem mi_112_6 : mI 112 6 = (15, 62, 3, 68, 0) := by decide +kernel
theorem mi_112_9 : mI 112 9 = (5, 0, 0, 0, 0) := by decide +kernel
theorem mi_112_10 : mI 112 10 = (17, 135, 33, 2, 13) := by decide +kernel
theorem mi_112_13 : mI 112 13 = (5, 0, 0, 0, 0) := by decide +kernel
theorem mi_112_14 : mI 112 14 = (17, 109, 61, 2, 5) := by decide +kernel
theorem mi_112_17 : mI 112 17 = (3, 0, 1, 0, 0) := by decide +kernel
theorem mi_112_18 : mI 112 18 = (26, 510, 89, 148, 1) := by decide +kernel
theorem mi_112_21 : mI 112 21 = (5, 0, 0, 0, 0) := by decide +kernel
theorem mi_112_22 : mI 112 22 = (17, 138, 36, 2, 14) := by decide +kernel
theorem mi_112_25 : mI 112 25 = (5, 0, 0, 0, 0) := by decide +kernel
theorem mi_112_26 : mI 112 26 = (17, 109, 61, 2, 5) := by decide +kernel
theorem mi_112_29 : mI 112 29 = (3, 0, 2, 0, 0) := by decide +kernel
theorem mi_112_30 : mI 112 30 = (26, 510, 89, 148, 1) := by decide +kernel
theorem mi_112_33 : mI 112 33 = (5, 0, 0, 0, 0) := by decide +kernel
theorem mi_112_34 : mI 112 34 = (17, 141, 39, 2, 15) := by decide +kernel
theorem mi_112_37 : mI 112 37 = (5, 0, 0, 0, 0) := by decide +kernel
theorem mi_112_38 : mI 112 38 = (17, 109, 61, 2, 5) := by decide +kernel
theorem mi_112_41 : mI 112 41 = (3, 0, 3, 0, 0) := by decide +kernel
theorem mi_112_42 : mI 112 42 = (26, 510, 89, 148, 1) := by decide +kernel
theorem mi_112_45 : mI 112 45 = (5, 0, 0, 0, 0) := by decide +kernel
theorem mi_112_46 : mI 112 46 = (17, 144, 42, 2, 16) := by decide +kernel
theorem mi_112_49 : mI 112 49 = (5, 0, 0, 0, 0) := by decide +kernel
theorem mi_112_50 : mI 112 50 = (17, 109, 61, 2, 5) := by decide +kernel
theorem mi_112_53 : mI 112 53 = (3, 0, 4, 1, 0) := by decide +kernel
theorem mi_112_55 : mI 112 55 = (26, 510, 89, 148, 1) := by decide +kernel
theorem mi_112_58 : mI 112 58 = (5, 0, 0, 0, 0) := by decide +kernel
theorem mi_112_59 : mI 112 59 = (22, 0, 0, 0, 0) := by decide +kernel
theorem mi_112_60 : mI 112 60 = (17, 109, 61, 2, 5) := by decide +kernel
theorem mi_112_63 : mI 112 63 = (1, 1, 0, 0, 0) := by decide +kernel
theorem mi_112_64 : mI 112 64 = (10, 0, 0, 0, 0) := by decide +kernel
theorem mi_112_65 : mI 112 65 = (18, 109, 61, 2, 5) := by decide +kernel
theorem mi_112_68 : mI 112 68 = (27, 0, 2, 0, 0) := by decide +kernel
theorem mi_133_0 : mI 133 0 = (5, 0, 1, 0, 0) := by decide +kernel
theorem mi_133_1 : mI 133 1 = (26, 357, 22, 99, 0) := by decide +kernel
theorem mi_133_4 : mI 133 4 = (5, 0, 0, 0, 0) := by decide +kernel
theorem mi_133_5 : mI 133 5 = (1, 0, 0, 0, 0) := by decide +kernel
theorem mi_133_6 : mI 133 6 = (18, 66, 27, 5, 1) := by decide +kernel
theorem mi_133_9 : mI 133 9 = (5, 0, 0, 0, 0) := by decide +kernel
theorem mi_133_10 : mI 133 10 = (1, (-1), 0, 0, 0) := by decide +kernel
theorem mi_133_11 : mI 133 11 = (18, 68, 18, 5, 2) := by decide +kernel
theorem mi_133_14 : mI 133 14 = (5, 0, 0, 0, 0) := by decide +kernel
theorem mi_133_15 : mI 133 15 = (17, 64, 12, 5, 0) := by decide +kernel
theorem mi_133_18 : mI 133 18 = (26, 364, 30, 187, 0) := by decide +kernel
theorem mi_133_21 : mI 133 21 = (5, 0, 0, 0, 0) := by decide +kernel
theorem mi_133_22 : mI 133 22 = (17, 64, 12, 5, 0) := by decide +kernel
theorem mi_133_25 : mI 133 25 = (26, 368, 33, 188, 0) := by decide +kernel
theorem mi_133_28 : mI 133 28 = (1, 0, 0, 0, 0) := by decide +kernel
theorem mi_133_29 : mI 133 29 = (6, 0, 2, 0, 0) := by decide +kernel
theorem mi_133_30 : mI 133 30 = (3, 0, 2, 0, 0) := by decide +kernel
theorem mi_133_31 : mI 133 31 = (1, 1400, 2, 0, 0) := by decide +kernel
theorem mi_133_34 : mI 133 34 = (15, 52, 3, 86, 0) := by decide +kernel
theorem mi_133_37 : mI 133 37 = (5, 0, 0, 0, 0) := by decide +kernel
theorem mi_133_38 : mI 133 38 = (17, 66, 27, 5, 1) := by decide +kernel
theorem mi_133_41 : mI 133 41 = (14, 45, 1, 86, 0) := by decide +kernel
theorem mi_133_44 : mI 133 44 = (5, 0, 0, 0, 0) := by decide +kernel
theorem mi_133_45 : mI 133 45 = (17, 64, 12, 5, 0) := by decide +kernel
theorem mi_133_48 : mI 133 48 = (17, 43, 36, 9, 2) := by decide +kernel
theorem mi_133_51 : mI 133 51 = (14, 35, 0, 86, 0) := by decide +kernel
theorem mi_133_54 : mI 133 54 = (5, 0, 0, 0, 0) := by decide +kernel
theorem mi_133_55 : mI 133 55 = (5, 0, 1, 0, 0) := by decide +kernel
theorem mi_133_56 : mI 133 56 = (26, 385, 39, 134, 0) := by decide +kernel
theorem mi_133_59 : mI 133 59 = (5, 0, 0, 0, 0) := by decide +kernel
theorem mi_133_60 : mI 133 60 = (26, 512, 43, 145, 0) := by decide +kernel
theorem mi_133_63 : mI 133 63 = (5, 0, 1, 0, 0) := by decide +kernel
theorem mi_133_64 : mI 133 64 = (22, 0, 0, 0, 0) := by decide +kernel
theorem mi_133_65 : mI 133 65 = (17, 84, 46, 2, 0) := by decide +kernel
theorem mi_133_68 : mI 133 68 = (1, 1, 0, 0, 0) := by decide +kernel
theorem mi_133_69 : mI 133 69 = (10, 0, 0, 0, 0) := by decide +kernel
theorem mi_133_70 : mI 133 70 = (18, 84, 46, 2, 0) := by decide +kernel
theorem mi_133_73 : mI 133 73 = (5, 0, 0, 0, 0) := by decide +kernel
theorem mi_133_74 : mI 133 74 = (17, 64, 12, 5, 0) := by decide +kernel
theorem mi_133_77 : mI 133 77 = (26, 368, 33, 188, 0) := by decide +kernel
theorem mi_133_80 : mI 133 80 = (9, 1, 2, 0, 0) := by decide +kernel
theorem mi_133_83 : mI 133 83 = (16, (-53), 0, 30, 0) := by decide +kernel
theorem mi_133_86 : mI 133 86 = (5, 0, 1, 0, 0) := by decide +kernel
theorem mi_133_87 : mI 133 87 = (26, 516, 49, 111, 0) := by decide +kernel
theorem mi_133_90 : mI 133 90 = (27, 0, 2, 0, 0) := by decide +kernel
theorem mi_134_0 : mI 134 0 = (5, 0, 1, 0, 0) := by decide +kernel
theorem mi_134_1 : mI 134 1 = (17, 84, 46, 2, 0) := by decide +kernel
theorem mi_134_4 : mI 134 4 = (14, 11, 1, 15, 0) := by decide +kernel
theorem mi_134_7 : mI 134 7 = (5, 0, 0, 0, 0) := by decide +kernel
theorem mi_134_8 : mI 134 8 = (5, 0, 1, 0, 0) := by decide +kernel
theorem mi_134_9 : mI 134 9 = (26, 389, 52, 135, 0) := by decide +kernel
theorem mi_134_12 : mI 134 12 = (16, 233, 0, 245, 0) := by decide +kernel
theorem mi_134_15 : mI 134 15 = (5, 0, 0, 0, 0) := by decide +kernel
theorem mi_134_16 : mI 134 16 = (17, 64, 12, 5, 0) := by decide +kernel
theorem mi_134_19 : mI 134 19 = (35, 0, 55, 0, 0) := by decide +kernel
theorem mi_134_21 : mI 134 21 = (26, 394, 57, 191, 0) := by decide +kernel
theorem mi_134_24 : mI 134 24 = (14, 11, 0, 35, 0) := by decide +kernel
theorem mi_134_27 : mI 134 27 = (5, 0, 0, 0, 0) := by decide +kernel
theorem mi_134_28 : mI 134 28 = (5, 0, 1, 0, 0) := by decide +kernel
theorem mi_134_29 : mI 134 29 = (26, 466, 61, 136, 0) := by decide +kernel
theorem mi_134_32 : mI 134 32 = (16, 213, 0, 245, 0) := by decide +kernel
theorem mi_134_35 : mI 134 35 = (5, 0, 0, 0, 0) := by decide +kernel
theorem mi_134_36 : mI 134 36 = (17, 64, 12, 5, 0) := by decide +kernel
theorem mi_134_39 : mI 134 39 = (35, 0, 64, 1, 0) := by decide +kernel
theorem mi_134_41 : mI 134 41 = (26, 394, 57, 191, 0) := by decide +kernel
theorem mi_134_44 : mI 134 44 = (14, 33, 0, 77, 0) := by decide +kernel
theorem mi_134_47 : mI 134 47 = (5, 0, 0, 0, 0) := by decide +kernel
theorem mi_134_48 : mI 134 48 = (5, 0, 1, 0, 0) := by decide +kernel
theorem mi_134_49 : mI 134 49 = (26, 474, 66, 140, 0) := by decide +kernel
theorem mi_134_52 : mI 134 52 = (6, 0, 2, 0, 0) := by decide +kernel
theorem mi_134_53 : mI 134 53 = (5, 0, 1, 0, 0) := by decide +kernel
theorem mi_134_54 : mI 134 54 = (17, 118, 70, 2, 8) := by decide +kernel
theorem mi_134_57 : mI 134 57 = (3, 0, 2, 0, 0) := by decide +kernel
theorem mi_134_58 : mI 134 58 = (5, 0, 0, 0, 0) := by decide +kernel
theorem mi_134_59 : mI 134 59 = (1, 1, 0, 0, 0) := by decide +kernel
theorem mi_134_60 : mI 134 60 = (1, 4, 0, 0, 0) := by decide +kernel
theorem mi_134_61 : mI 134 61 = (26, 455, 74, 141, 0) := by decide +kernel
theorem mi_134_64 : mI 134 64 = (26, 470, 78, 148, 1) := by decide +kernel
theorem mi_134_67 : mI 134 67 = (5, 0, 0, 0, 0) := by decide +kernel
theorem mi_134_68 : mI 134 68 = (17, 64, 12, 5, 0) := by decide +kernel
theorem mi_134_71 : mI 134 71 = (26, 368, 33, 188, 0) := by decide +kernel
theorem mi_134_74 : mI 134 74 = (16, 171, 0, 245, 0) := by decide +kernel
theorem mi_134_77 : mI 134 77 = (5, 0, 0, 0, 0) := by decide +kernel
theorem mi_134_78 : mI 134 78 = (17, 64, 12, 5, 0) := by decide +kernel
theorem mi_134_81 : mI 134 81 = (35, 0, 84, 2, 0) := by decide +kernel
theorem mi_134_83 : mI 134 83 = (26, 394, 57, 191, 0) := by decide +kernel
theorem mi_134_86 : mI 134 86 = (14, 34, 0, 120, 0) := by decide +kernel
theorem mi_134_89 : mI 134 89 = (5, 0, 0, 0, 0) := by decide +kernel
theorem mi_134_90 : mI 134 90 = (5, 0, 1, 0, 0) := by decide +kernel
theorem mi_134_91 : mI 134 91 = (26, 474, 66, 140, 0) := by decide +kernel
theorem mi_134_94 : mI 134 94 = (6, 0, 2, 0, 0) := by decide +kernel
theorem mi_134_95 : mI 134 95 = (5, 0, 1, 0, 0) := by decide +kernel
theorem mi_134_96 : mI 134 96 = (17, 121, 86, 2, 9) := by decide +kernel
theorem mi_134_99 : mI 134 99 = (3, 0, 2, 0, 0) := by decide +kernel
theorem mi_134_100 : mI 134 100 = (5, 0, 0, 0, 0) := by decide +kernel
theorem mi_134_101 : mI 134 101 = (1, 0, 0, 0, 0) := by decide +kernel
theorem mi_134_102 : mI 134 102 = (1, 100, 1, 0, 0) := by decide +kernel
theorem mi_134_104 : mI 134 104 = (26, 455, 74, 141, 0) := by decide +kernel
theorem mi_134_107 : mI 134 107 = (26, 470, 78, 148, 1) := by decide +kernel
theorem mi_134_110 : mI 134 110 = (5, 0, 0, 0, 0) := by decide +kernel
theorem mi_134_111 : mI 134 111 = (17, 64, 12, 5, 0) := by decide +kernel
theorem mi_134_114 : mI 134 114 = (26, 368, 33, 188, 0) := by decide +kernel
theorem mi_134_117 : mI 134 117 = (16, 128, 0, 245, 0) := by decide +kernel
theorem mi_134_120 : mI 134 120 = (5, 0, 0, 0, 0) := by decide +kernel
theorem mi_134_121 : mI 134 121 = (17, 64, 12, 5, 0) := by decide +kernel
theorem mi_134_124 : mI 134 124 = (35, 0, 89, 3, 0) := by decide +kernel
theorem mi_134_126 : mI 134 126 = (26, 394, 57, 191, 0) := by decide +kernel
theorem mi_134_129 : mI 134 129 = (14, 11, 0, 140, 0) := by decide +kernel
theorem mi_134_132 : mI 134 132 = (5, 0, 0, 0, 0) := by decide +kernel
theorem mi_134_133 : mI 134 133 = (5, 0, 1, 0, 0) := by decide +kernel
theorem mi_134_134 : mI 134 134 = (26, 480, 91, 137, 0) := by decide +kernel
theorem mi_134_137 : mI 134 137 = (16, 108, 0, 245, 0) := by decide +kernel
theorem mi_134_140 : mI 134 140 = (5, 0, 0, 0, 0) := by decide +kernel
theorem mi_134_141 : mI 134 141 = (17, 64, 12, 5, 0) := by decide +kernel
theorem mi_134_144 : mI 134 144 = (35, 0, 94, 4, 0) := by decide +kernel
theorem mi_134_146 : mI 134 146 = (26, 394, 57, 191, 0) := by decide +kernel
theorem mi_134_149 : mI 134 149 = (14, 11, 0, 160, 0) := by decide +kernel
theorem mi_134_152 : mI 134 152 = (5, 0, 0, 0, 0) := by decide +kernel
theorem mi_134_153 : mI 134 153 = (5, 0, 1, 0, 0) := by decide +kernel
theorem mi_134_154 : mI 134 154 = (26, 486, 96, 138, 0) := by decide +kernel
theorem mi_134_157 : mI 134 157 = (16, 88, 0, 245, 0) := by decide +kernel
theorem mi_134_160 : mI 134 160 = (5, 0, 0, 0, 0) := by decide +kernel
theorem mi_134_161 : mI 134 161 = (17, 64, 12, 5, 0) := by decide +kernel
theorem mi_134_164 : mI 134 164 = (35, 0, 99, 5, 0) := by decide +kernel
theorem mi_134_166 : mI 134 166 = (26, 394, 57, 191, 0) := by decide +kernel
theorem mi_134_169 : mI 134 169 = (14, 11, 0, 180, 0) := by decide +kernel
theorem mi_134_172 : mI 134 172 = (5, 0, 0, 0, 0) := by decide +kernel
theorem mi_134_173 : mI 134 173 = (5, 0, 1, 0, 0) := by decide +kernel
theorem mi_134_174 : mI 134 174 = (26, 502, 101, 139, 0) := by decide +kernel
theorem mi_134_177 : mI 134 177 = (16, 68, 0, 245, 0) := by decide +kernel
theorem mi_134_180 : mI 134 180 = (5, 0, 0, 0, 0) := by decide +kernel
theorem mi_134_181 : mI 134 181 = (17, 64, 12, 5, 0) := by decide +kernel
theorem mi_134_184 : mI 134 184 = (35, 0, 104, 6, 0) := by decide +kernel
theorem mi_134_186 : mI 134 186 = (26, 394, 57, 191, 0) := by decide +kernel
theorem mi_134_189 : mI 134 189 = (14, 51, 0, 240, 0) := by decide +kernel
theorem mi_134_192 : mI 134 192 = (5, 0, 0, 0, 0) := by decide +kernel
theorem mi_134_193 : mI 134 193 = (5, 0, 1, 0, 0) := by decide +kernel
theorem mi_134_194 : mI 134 194 = (26, 474, 66, 140, 0) := by decide +kernel
theorem mi_134_197 : mI 134 197 = (6, 0, 2, 0, 0) := by decide +kernel
theorem mi_134_198 : mI 134 198 = (5, 0, 0, 0, 0) := by decide +kernel
theorem mi_134_199 : mI 134 199 = (5, 0, 1, 0, 0) := by decide +kernel
theorem mi_134_200 : mI 134 200 = (26, 474, 66, 140, 0) := by decide +kernel
theorem mi_134_203 : mI 134 203 = (6, 0, 3, 0, 0) := by decide +kernel
theorem mi_134_204 : mI 134 204 = (5, 0, 0, 0, 0) := by decide +kernel
theorem mi_134_205 : mI 134 205 = (3, 0, 2, 0, 0) := by decide +kernel
theorem mi_134_206 : mI 134 206 = (3, 0, 3, 0, 0) := by decide +kernel
theorem mi_134_207 : mI 134 207 = (26, 490, 106, 142, 0) := by decide +kernel
theorem mi_134_210 : mI 134 210 = (5, 0, 1, 0, 0) := by decide +kernel
theorem mi_134_211 : mI 134 211 = (17, 125, 110, 2, 10) := by decide +kernel
theorem mi_134_214 : mI 134 214 = (3, 0, 3, 0, 0) := by decide +kernel
theorem mi_134_215 : mI 134 215 = (5, 0, 1, 0, 0) := by decide +kernel
theorem mi_134_216 : mI 134 216 = (17, 125, 110, 2, 10) := by decide +kernel
theorem mi_134_219 : mI 134 219 = (3, 0, 3, 0, 0) := by decide +kernel
theorem mi_134_220 : mI 134 220 = (26, 498, 113, 147, 1) := by decide +kernel
theorem mi_134_223 : mI 134 223 = (1, 1, 0, 0, 0) := by decide +kernel
theorem mi_134_224 : mI 134 224 = (3, 0, 2, 0, 0) := by decide +kernel
theorem mi_134_225 : mI 134 225 = (10, 0, 8, 0, 0) := by decide +kernel
theorem mi_134_226 : mI 134 226 = (10, 0, 6, 0, 0) := by decide +kernel
theorem mi_134_227 : mI 134 227 = (26, 470, 78, 148, 1) := by decide +kernel
theorem mi_134_230 : mI 134 230 = (5, 0, 0, 0, 0) := by decide +kernel
theorem mi_134_231 : mI 134 231 = (17, 64, 12, 5, 0) := by decide +kernel
theorem mi_134_234 : mI 134 234 = (26, 368, 33, 188, 0) := by decide +kernel
theorem mi_134_237 : mI 134 237 = (16, 8, 0, 245, 0) := by decide +kernel
theorem mi_134_240 : mI 134 240 = (5, 0, 0, 0, 0) := by decide +kernel
theorem mi_134_241 : mI 134 241 = (1, 1, 0, 0, 0) := by decide +kernel
theorem mi_134_242 : mI 134 242 = (26, 446, 117, 146, 0) := by decide +kernel
theorem mi_134_245 : mI 134 245 = (27, 0, 2, 0, 0) := by decide +kernel
theorem mi_135_0 : mI 135 0 = (5, 0, 0, 0, 0) := by decide +kernel
theorem mi_135_1 : mI 135 1 = (17, 64, 12, 5, 0) := by decide +kernel
theorem mi_135_4 : mI 135 4 = (35, 0, 121, 7, 0) := by decide +kernel
theorem mi_135_6 : mI 135 6 = (26, 394, 57, 191, 0) := by decide +kernel
theorem mi_135_9 : mI 135 9 = (14, 8, 1, 17, 0) := by decide +kernel
theorem mi_135_12 : mI 135 12 = (5, 0, 0, 0, 0) := by decide +kernel
theorem mi_135_13 : mI 135 13 = (1, 1, 0, 0, 0) := by decide +kernel
theorem mi_135_14 : mI 135 14 = (26, 446, 117, 146, 0) := by decide +kernel
theorem mi_135_17 : mI 135 17 = (5, 0, 0, 0, 0) := by decide +kernel
theorem mi_135_18 : mI 135 18 = (35, 0, 123, 8, 0) := by decide +kernel
theorem mi_135_20 : mI 135 20 = (26, 451, 125, 144, 0) := by decide +kernel
theorem mi_135_23 : mI 135 23 = (5, 0, 1, 0, 0) := by decide +kernel
theorem mi_135_24 : mI 135 24 = (5, 0, 0, 0, 0) := by decide +kernel
theorem mi_135_25 : mI 135 25 = (1, 2, 0, 0, 0) := by decide +kernel
theorem mi_135_26 : mI 135 26 = (1, 9, 1, 0, 0) := by decide +kernel
theorem mi_135_28 : mI 135 28 = (26, 455, 74, 141, 0) := by decide +kernel
theorem mi_135_31 : mI 135 31 = (18, 88, 129, 2, 1) := by decide +kernel
theorem mi_135_34 : mI 135 34 = (5, 0, 0, 0, 0) := by decide +kernel
theorem mi_135_35 : mI 135 35 = (35, 0, 131, 9, 0) := by decide +kernel
theorem mi_135_37 : mI 135 37 = (26, 451, 125, 144, 0) := by decide +kernel
theorem mi_135_40 : mI 135 40 = (5, 0, 1, 0, 0) := by decide +kernel
theorem mi_135_41 : mI 135 41 = (5, 0, 0, 0, 0) := by decide +kernel
theorem mi_135_42 : mI 135 42 = (1, 1, 0, 0, 0) := by decide +kernel
theorem mi_135_43 : mI 135 43 = (1, 4, 0, 0, 0) := by decide +kernel
theorem mi_135_44 : mI 135 44 = (26, 455, 74, 141, 0) := by decide +kernel
theorem mi_135_47 : mI 135 47 = (18, 92, 133, 2, 2) := by decide +kernel
theorem mi_135_50 : mI 135 50 = (5, 0, 0, 0, 0) := by decide +kernel
theorem mi_135_51 : mI 135 51 = (35, 0, 135, 10, 0) := by decide +kernel
theorem mi_135_53 : mI 135 53 = (26, 451, 125, 144, 0) := by decide +kernel
theorem mi_135_56 : mI 135 56 = (5, 0, 1, 0, 0) := by decide +kernel
theorem mi_135_57 : mI 135 57 = (5, 0, 0, 0, 0) := by decide +kernel
theorem mi_135_58 : mI 135 58 = (1, 1, 0, 0, 0) := by decide +kernel
theorem mi_135_59 : mI 135 59 = (1, 24, 1, 0, 0) := by decide +kernel
theorem mi_135_61 : mI 135 61 = (26, 455, 74, 141, 0) := by decide +kernel
theorem mi_135_64 : mI 135 64 = (18, 98, 137, 2, 3) := by decide +kernel
theorem mi_135_67 : mI 135 67 = (5, 0, 0, 0, 0) := by decide +kernel
theorem mi_135_68 : mI 135 68 = (17, 64, 12, 5, 0) := by decide +kernel
theorem mi_135_71 : mI 135 71 = (26, 368, 33, 188, 0) := by decide +kernel
theorem mi_135_74 : mI 135 74 = (27, 0, 2, 0, 0) := by decide +kernel
theorem mi_136_0 : mI 136 0 = (5, 0, 1, 0, 0) := by decide +kernel
theorem mi_136_1 : mI 136 1 = (17, 105, 139, 2, 4) := by decide +kernel
theorem mi_136_4 : mI 136 4 = (1, 6, 1, 0, 0) := by decide +kernel
theorem mi_136_6 : mI 136 6 = (15, 9, 2, 15, 0) := by decide +kernel
theorem mi_136_9 : mI 136 9 = (5, 0, 0, 0, 0) := by decide +kernel
theorem mi_136_10 : mI 136 10 = (1, 3, 0, 0, 0) := by decide +kernel
theorem mi_136_11 : mI 136 11 = (26, 446, 117, 146, 0) := by decide +kernel
theorem mi_136_14 : mI 136 14 = (27, 0, 2, 0, 0) := by decide +kernel
theorem mi_136_15 : mI 136 15 = (5, 0, 1, 0, 0) := by decide +kernel
theorem mi_136_16 : mI 136 16 = (17, 105, 139, 2, 4) := by decide +kernel
theorem mi_136_19 : mI 136 19 = (6, 0, 2, 0, 0) := by decide +kernel
theorem mi_136_20 : mI 136 20 = (5, 0, 1, 0, 0) := by decide +kernel
theorem mi_136_21 : mI 136 21 = (22, 0, 0, 0, 0) := by decide +kernel
theorem mi_136_22 : mI 136 22 = (17, 105, 139, 2, 4) := by decide +kernel
theorem mi_136_25 : mI 136 25 = (1, 1, 0, 0, 0) := by decide +kernel
theorem mi_136_26 : mI 136 26 = (10, 0, 0, 0, 0) := by decide +kernel
theorem mi_136_27 : mI 136 27 = (18, 105, 139, 2, 4) := by decide +kernel
theorem mi_136_30 : mI 136 30 = (5, 0, 1, 0, 0) := by decide +kernel
theorem mi_136_31 : mI 136 31 = (17, 118, 70, 2, 8) := by decide +kernel
theorem mi_136_34 : mI 136 34 = (3, 0, 2, 0, 0) := by decide +kernel
theorem mi_136_35 : mI 136 35 = (1, 1, 0, 0, 0) := by decide +kernel
theorem mi_136_36 : mI 136 36 = (26, 470, 78, 148, 1) := by decide +kernel
theorem mi_136_39 : mI 136 39 = (1, 0, 0, 0, 0) := by decide +kernel
theorem mi_136_40 : mI 136 40 = (6, 0, 3, 0, 0) := by decide +kernel
theorem mi_136_41 : mI 136 41 = (3, 0, 3, 0, 0) := by decide +kernel
theorem mi_136_42 : mI 136 42 = (1, 6, 1, 0, 0) := by decide +kernel
theorem mi_136_44 : mI 136 44 = (15, 89, 4, 133, 0) := by decide +kernel
theorem mi_136_47 : mI 136 47 = (5, 0, 0, 0, 0) := by decide +kernel
theorem mi_136_48 : mI 136 48 = (17, 66, 27, 5, 1) := by decide +kernel
theorem mi_136_51 : mI 136 51 = (14, 82, 1, 133, 0) := by decide +kernel
theorem mi_136_54 : mI 136 54 = (5, 0, 0, 0, 0) := by decide +kernel
theorem mi_136_55 : mI 136 55 = (17, 64, 12, 5, 0) := by decide +kernel
theorem mi_136_58 : mI 136 58 = (26, 368, 33, 188, 0) := by decide +kernel
theorem mi_136_61 : mI 136 61 = (3, 0, 3, 0, 0) := by decide +kernel
theorem mi_136_62 : mI 136 62 = (14, 15, 5, 77, 0) := by decide +kernel
theorem mi_136_65 : mI 136 65 = (5, 0, 0, 0, 0) := by decide +kernel
theorem mi_136_66 : mI 136 66 = (17, 64, 12, 5, 0) := by decide +kernel
theorem mi_136_69 : mI 136 69 = (17, 43, 36, 9, 2) := by decide +kernel
theorem mi_136_72 : mI 136 72 = (1, 3, 0, 0, 0) := by decide +kernel
theorem mi_136_73 : mI 136 73 = (15, 4, 1, 77, 0) := by decide +kernel
theorem mi_136_76 : mI 136 76 = (27, 0, 2, 0, 0) := by decide +kernel
theorem mi_136_77 : mI 136 77 = (5, 0, 0, 0, 0) := by decide +kernel
theorem mi_136_78 : mI 136 78 = (1, 0, 0, 0, 0) := by decide +kernel
theorem mi_136_79 : mI 136 79 = (5, 0, 1, 0, 0) := by decide +kernel
theorem mi_136_80 : mI 136 80 = (17, 88, 129, 2, 1) := by decide +kernel
theorem mi_136_83 : mI 136 83 = (1, 1, 0, 0, 0) := by decide +kernel
theorem mi_136_84 : mI 136 84 = (10, 0, 1, 0, 0) := by decide +kernel
theorem mi_136_85 : mI 136 85 = (26, 459, 142, 143, 0) := by decide +kernel
theorem mi_136_88 : mI 136 88 = (6, 0, 4, 1, 0) := by decide +kernel
theorem mi_136_90 : mI 136 90 = (3, 0, 3, 0, 0) := by decide +kernel
theorem mi_136_91 : mI 136 91 = (1, 6, 1, 0, 0) := by decide +kernel
theorem mi_136_93 : mI 136 93 = (15, 8, 1, 101, 0) := by decide +kernel
theorem mi_136_96 : mI 136 96 = (5, 0, 0, 0, 0) := by decide +kernel
theorem mi_136_97 : mI 136 97 = (1, 3, 0, 0, 0) := by decide +kernel
theorem mi_136_98 : mI 136 98 = (26, 446, 117, 146, 0) := by decide +kernel
theorem mi_136_101 : mI 136 101 = (5, 0, 1, 0, 0) := by decide +kernel
theorem mi_136_102 : mI 136 102 = (17, 116, 145, 2, 7) := by decide +kernel
theorem mi_136_105 : mI 136 105 = (3, 0, 2, 0, 0) := by decide +kernel
theorem mi_136_106 : mI 136 106 = (1, 6, 1, 0, 0) := by decide +kernel
theorem mi_136_108 : mI 136 108 = (10, 0, 2, 0, 0) := by decide +kernel
theorem mi_136_109 : mI 136 109 = (3, 0, 3, 0, 0) := by decide +kernel
theorem mi_136_110 : mI 136 110 = (10, 0, 0, 0, 0) := by decide +kernel
theorem mi_136_111 : mI 136 111 = (3, 0, 4, 1, 0) := by decide +kernel
theorem mi_136_113 : mI 136 113 = (26, 470, 78, 148, 1) := by decide +kernel
theorem mi_136_116 : mI 136 116 = (5, 0, 1, 0, 0) := by decide +kernel
theorem mi_136_117 : mI 136 117 = (17, 114, 148, 2, 6) := by decide +kernel
theorem mi_136_120 : mI 136 120 = (3, 0, 2, 0, 0) := by decide +kernel
theorem mi_136_121 : mI 136 121 = (3, 0, 3, 0, 0) := by decide +kernel
theorem mi_136_122 : mI 136 122 = (1, 1, 0, 0, 0) := by decide +kernel
theorem mi_136_123 : mI 136 123 = (10, 0, 0, 0, 0) := by decide +kernel
theorem mi_136_124 : mI 136 124 = (26, 470, 78, 148, 1) := by decide +kernel
theorem mi_136_127 : mI 136 127 = (9, 1, 3, 0, 0) := by decide +kernel
theorem mi_136_130 : mI 136 130 = (16, (-89), 0, 41, 0) := by decide +kernel
theorem mi_136_133 : mI 136 133 = (27, 0, 2, 0, 0) := by decide +kernel
theorem mi_137_0 : mI 137 0 = (5, 0, 0, 0, 0) := by decide +kernel
theorem mi_137_1 : mI 137 1 = (5, 0, 1, 0, 0) := by decide +kernel
theorem mi_137_2 : mI 137 2 = (26, 474, 66, 140, 0) := by decide +kernel
theorem mi_137_5 : mI 137 5 = (6, 0, 2, 0, 0) := by decide +kernel
theorem mi_137_6 : mI 137 6 = (5, 0, 0, 0, 0) := by decide +kernel
theorem mi_137_7 : mI 137 7 = (1, 0, 0, 0, 0) := by decide +kernel
theorem mi_137_8 : mI 137 8 = (5, 0, 1, 0, 0) := by decide +kernel
theorem mi_137_9 : mI 137 9 = (17, 92, 133, 2, 2) := by decide +kernel
theorem mi_137_12 : mI 137 12 = (1, 1, 0, 0, 0) := by decide +kernel
theorem mi_137_13 : mI 137 13 = (10, 0, 1, 0, 0) := by decide +kernel
theorem mi_137_14 : mI 137 14 = (26, 455, 74, 141, 0) := by decide +kernel
theorem mi_137_17 : mI 137 17 = (6, 0, 3, 0, 0) := by decide +kernel
theorem mi_137_18 : mI 137 18 = (5, 0, 0, 0, 0) := by decide +kernel
theorem mi_137_19 : mI 137 19 = (35, 0, 151, 11, 0) := by decide +kernel
theorem mi_137_21 : mI 137 21 = (26, 451, 125, 144, 0) := by decide +kernel
theorem mi_137_24 : mI 137 24 = (5, 0, 0, 0, 0) := by decide +kernel
theorem mi_137_25 : mI 137 25 = (1, 0, 0, 0, 0) := by decide +kernel
theorem mi_137_26 : mI 137 26 = (5, 0, 1, 0, 0) := by decide +kernel
theorem mi_137_27 : mI 137 27 = (17, 98, 137, 2, 3) := by decide +kernel
theorem mi_137_30 : mI 137 30 = (1, 1, 0, 0, 0) := by decide +kernel
theorem mi_137_31 : mI 137 31 = (10, 0, 1, 0, 0) := by decide +kernel
theorem mi_137_32 : mI 137 32 = (26, 455, 74, 141, 0) := by decide +kernel
theorem mi_137_35 : mI 137 35 = (6, 0, 4, 1, 0) := by decide +kernel
theorem mi_137_37 : mI 137 37 = (5, 0, 1, 0, 0) := by decide +kernel
theorem mi_137_38 : mI 137 38 = (17, 129, 152, 2, 11) := by decide +kernel
theorem mi_137_41 : mI 137 41 = (3, 0, 2, 0, 0) := by decide +kernel
theorem mi_137_42 : mI 137 42 = (1, 24, 1, 0, 0) := by decide +kernel
theorem mi_137_44 : mI 137 44 = (10, 0, 2, 0, 0) := by decide +kernel
theorem mi_137_45 : mI 137 45 = (3, 0, 4, 1, 0) := by decide +kernel
theorem mi_137_47 : mI 137 47 = (10, 0, 0, 0, 0) := by decide +kernel
theorem mi_137_48 : mI 137 48 = (3, 0, 3, 0, 0) := by decide +kernel
theorem mi_137_49 : mI 137 49 = (26, 470, 78, 148, 1) := by decide +kernel
theorem mi_137_52 : mI 137 52 = (5, 0, 0, 0, 0) := by decide +kernel
theorem mi_137_53 : mI 137 53 = (17, 64, 12, 5, 0) := by decide +kernel
theorem mi_137_56 : mI 137 56 = (26, 368, 33, 188, 0) := by decide +kernel
theorem mi_137_59 : mI 137 59 = (27, 0, 2, 0, 0) := by decide +kernel
theorem mi_138_0 : mI 138 0 = (5, 0, 0, 0, 0) := by decide +kernel
theorem mi_138_1 : mI 138 1 = (5, 0, 1, 0, 0) := by decide +kernel
theorem mi_138_2 : mI 138 2 = (26, 474, 66, 140, 0) := by decide +kernel
theorem mi_138_5 : mI 138 5 = (6, 0, 2, 0, 0) := by decide +kernel
theorem mi_138_6 : mI 138 6 = (5, 0, 0, 0, 0) := by decide +kernel
theorem mi_138_7 : mI 138 7 = (5, 0, 1, 0, 0) := by decide +kernel
theorem mi_138_8 : mI 138 8 = (26, 474, 66, 140, 0) := by decide +kernel
theorem mi_138_11 : mI 138 11 = (6, 0, 3, 0, 0) := by decide +kernel
theorem mi_138_12 : mI 138 12 = (5, 0, 0, 0, 0) := by decide +kernel
theorem mi_138_13 : mI 138 13 = (3, 0, 2, 0, 0) := by decide +kernel
theorem mi_138_14 : mI 138 14 = (3, 0, 3, 0, 0) := by decide +kernel
theorem mi_138_15 : mI 138 15 = (26, 490, 106, 142, 0) := by decide +kernel
theorem mi_138_18 : mI 138 18 = (5, 0, 0, 0, 0) := by decide +kernel
theorem mi_138_19 : mI 138 19 = (1, 0, 0, 0, 0) := by decide +kernel
theorem mi_138_20 : mI 138 20 = (5, 0, 1, 0, 0) := by decide +kernel
theorem mi_138_21 : mI 138 21 = (3, 0, 3, 0, 0) := by decide +kernel
theorem mi_138_22 : mI 138 22 = (26, 494, 155, 106, 0) := by decide +kernel
theorem mi_138_25 : mI 138 25 = (1, 1, 0, 0, 0) := by decide +kernel
theorem mi_138_26 : mI 138 26 = (10, 0, 1, 0, 0) := by decide +kernel
theorem mi_138_27 : mI 138 27 = (26, 455, 74, 141, 0) := by decide +kernel
theorem mi_138_30 : mI 138 30 = (6, 0, 4, 1, 0) := by decide +kernel
theorem mi_138_32 : mI 138 32 = (3, 0, 2, 0, 0) := by decide +kernel
theorem mi_138_33 : mI 138 33 = (1, 6, 1, 0, 0) := by decide +kernel
theorem mi_138_35 : mI 138 35 = (10, 0, 2, 0, 0) := by decide +kernel
theorem mi_138_36 : mI 138 36 = (3, 0, 3, 0, 0) := by decide +kernel
theorem mi_138_37 : mI 138 37 = (10, 0, 0, 0, 0) := by decide +kernel
theorem mi_138_38 : mI 138 38 = (6, 0, 5, 1, 0) := by decide +kernel
theorem mi_138_40 : mI 138 40 = (5, 0, 1, 0, 0) := by decide +kernel
theorem mi_138_41 : mI 138 41 = (17, 133, 159, 2, 12) := by decide +kernel
theorem mi_138_44 : mI 138 44 = (3, 0, 5, 1, 0) := by decide +kernel
theorem mi_138_46 : mI 138 46 = (5, 0, 1, 0, 0) := by decide +kernel
theorem mi_138_47 : mI 138 47 = (17, 133, 159, 2, 12) := by decide +kernel
theorem mi_138_50 : mI 138 50 = (3, 0, 5, 1, 0) := by decide +kernel
theorem mi_138_52 : mI 138 52 = (26, 498, 113, 147, 1) := by decide +kernel
theorem mi_138_55 : mI 138 55 = (1, 1, 0, 0, 0) := by decide +kernel
theorem mi_138_56 : mI 138 56 = (3, 0, 4, 1, 0) := by decide +kernel
theorem mi_138_58 : mI 138 58 = (10, 0, 8, 0, 0) := by decide +kernel
theorem mi_138_59 : mI 138 59 = (10, 0, 6, 0, 0) := by decide +kernel
theorem mi_138_60 : mI 138 60 = (26, 470, 78, 148, 1) := by decide +kernel
theorem mi_138_63 : mI 138 63 = (5, 0, 0, 0, 0) := by decide +kernel
theorem mi_138_64 : mI 138 64 = (17, 64, 12, 5, 0) := by decide +kernel
theorem mi_138_67 : mI 138 67 = (26, 368, 33, 188, 0) := by decide +kernel
theorem mi_138_70 : mI 138 70 = (27, 0, 2, 0, 0) := by decide +kernel
theorem mi_139_0 : mI 139 0 = (5, 0, 1, 0, 0) := by decide +kernel
theorem mi_139_1 : mI 139 1 = (17, 111, 162, 2, 5) := by decide +kernel
theorem mi_139_4 : mI 139 4 = (1, 12, 1, 0, 0) := by decide +kernel
theorem mi_139_6 : mI 139 6 = (15, 9, 2, 15, 0) := by decide +kernel
theorem mi_139_9 : mI 139 9 = (5, 0, 0, 0, 0) := by decide +kernel
theorem mi_139_10 : mI 139 10 = (1, 3, 0, 0, 0) := by decide +kernel
theorem mi_139_11 : mI 139 11 = (26, 446, 117, 146, 0) := by decide +kernel
theorem mi_139_14 : mI 139 14 = (27, 0, 2, 0, 0) := by decide +kernel
theorem mi_139_15 : mI 139 15 = (5, 0, 0, 0, 0) := by decide +kernel
theorem mi_139_16 : mI 139 16 = (5, 0, 1, 0, 0) := by decide +kernel
theorem mi_139_17 : mI 139 17 = (26, 474, 66, 140, 0) := by decide +kernel
theorem mi_139_20 : mI 139 20 = (6, 0, 2, 0, 0) := by decide +kernel
theorem mi_139_21 : mI 139 21 = (5, 0, 0, 0, 0) := by decide +kernel
theorem mi_139_22 : mI 139 22 = (5, 0, 1, 0, 0) := by decide +kernel
theorem mi_139_23 : mI 139 23 = (26, 474, 66, 140, 0) := by decide +kernel
theorem mi_139_26 : mI 139 26 = (6, 0, 3, 0, 0) := by decide +kernel
theorem mi_139_27 : mI 139 27 = (5, 0, 0, 0, 0) := by decide +kernel
theorem mi_139_28 : mI 139 28 = (1, 0, 0, 0, 0) := by decide +kernel
theorem mi_139_29 : mI 139 29 = (5, 0, 1, 0, 0) := by decide +kernel
theorem mi_139_30 : mI 139 30 = (3, 0, 3, 0, 0) := by decide +kernel
theorem mi_139_31 : mI 139 31 = (26, 494, 155, 106, 0) := by decide +kernel
theorem mi_139_34 : mI 139 34 = (1, 1, 0, 0, 0) := by decide +kernel
theorem mi_139_35 : mI 139 35 = (10, 0, 1, 0, 0) := by decide +kernel
theorem mi_139_36 : mI 139 36 = (26, 455, 74, 141, 0) := by decide +kernel
theorem mi_139_39 : mI 139 39 = (6, 0, 4, 1, 0) := by decide +kernel
theorem mi_139_41 : mI 139 41 = (5, 0, 0, 0, 0) := by decide +kernel
theorem mi_139_42 : mI 139 42 = (35, 0, 151, 11, 0) := by decide +kernel
theorem mi_139_44 : mI 139 44 = (26, 451, 125, 144, 0) := by decide +kernel
theorem mi_139_47 : mI 139 47 = (5, 0, 0, 0, 0) := by decide +kernel
theorem mi_139_48 : mI 139 48 = (1, 0, 0, 0, 0) := by decide +kernel
theorem mi_139_49 : mI 139 49 = (5, 0, 1, 0, 0) := by decide +kernel
theorem mi_139_50 : mI 139 50 = (17, 98, 137, 2, 3) := by decide +kernel
theorem mi_139_53 : mI 139 53 = (1, 1, 0, 0, 0) := by decide +kernel
theorem mi_139_54 : mI 139 54 = (10, 0, 1, 0, 0) := by decide +kernel
theorem mi_139_55 : mI 139 55 = (26, 455, 74, 141, 0) := by decide +kernel
theorem mi_139_58 : mI 139 58 = (6, 0, 5, 1, 0) := by decide +kernel
theorem mi_139_60 : mI 139 60 = (5, 0, 1, 0, 0) := by decide +kernel
theorem mi_139_61 : mI 139 61 = (3, 0, 2, 0, 0) := by decide +kernel
theorem mi_139_62 : mI 139 62 = (3, 0, 3, 0, 0) := by decide +kernel
theorem mi_139_63 : mI 139 63 = (3, 0, 4, 1, 0) := by decide +kernel
theorem mi_139_65 : mI 139 65 = (3, 0, 5, 1, 0) := by decide +kernel
theorem mi_139_67 : mI 139 67 = (26, 506, 165, 112, 0) := by decide +kernel
theorem mi_139_70 : mI 139 70 = (5, 0, 0, 0, 0) := by decide +kernel
theorem mi_139_71 : mI 139 71 = (17, 64, 12, 5, 0) := by decide +kernel
theorem mi_139_74 : mI 139 74 = (26, 368, 33, 188, 0) := by decide +kernel
theorem mi_139_77 : mI 139 77 = (27, 0, 2, 0, 0) := by decide +kernel
theorem mi_140_0 : mI 140 0 = (5, 0, 0, 0, 0) := by decide +kernel
theorem mi_140_1 : mI 140 1 = (17, 64, 12, 5, 0) := by decide +kernel
theorem mi_140_4 : mI 140 4 = (26, 368, 33, 188, 0) := by decide +kernel
theorem mi_140_7 : mI 140 7 = (5, 0, 0, 0, 0) := by decide +kernel
theorem mi_140_8 : mI 140 8 = (1, 0, 0, 0, 0) := by decide +kernel
theorem mi_140_9 : mI 140 9 = (5, 0, 1, 0, 0) := by decide +kernel
theorem mi_140_10 : mI 140 10 = (17, 105, 139, 2, 4) := by decide +kernel
theorem mi_140_13 : mI 140 13 = (1, 1, 0, 0, 0) := by decide +kernel
theorem mi_140_14 : mI 140 14 = (10, 0, 1, 0, 0) := by decide +kernel
theorem mi_140_15 : mI 140 15 = (26, 459, 142, 143, 0) := by decide +kernel
theorem mi_140_18 : mI 140 18 = (27, 0, 0, 0, 0) := by decide +kernel
theorem mi_141_0 : mI 141 0 = (5, 0, 0, 0, 0) := by decide +kernel
theorem mi_141_1 : mI 141 1 = (17, 64, 12, 5, 0) := by decide +kernel
theorem mi_141_4 : mI 141 4 = (26, 368, 33, 188, 0) := by decide +kernel
theorem mi_141_7 : mI 141 7 = (5, 0, 0, 0, 0) := by decide +kernel
theorem mi_141_8 : mI 141 8 = (3, 0, 1, 0, 0) := by decide +kernel
theorem mi_141_9 : mI 141 9 = (3, 0, 2, 0, 0) := by decide +kernel
theorem mi_141_10 : mI 141 10 = (26, 459, 142, 143, 0) := by decide +kernel
theorem mi_141_13 : mI 141 13 = (27, 0, 0, 0, 0) := by decide +kernel
theorem mi_142_0 : mI 142 0 = (3, 0, 1, 0, 0) := by decide +kernel
theorem mi_142_1 : mI 142 1 = (3, 0, 2, 0, 0) := by decide +kernel
theorem mi_142_2 : mI 142 2 = (15, 8, 1, 10, 0) := by decide +kernel
theorem mi_142_5 : mI 142 5 = (5, 0, 0, 0, 0) := by decide +kernel
theorem mi_142_6 : mI 142 6 = (1, 2, 0, 0, 0) := by decide +kernel
theorem mi_142_7 : mI 142 7 = (26, 446, 117, 146, 0) := by decide +kernel
theorem mi_142_10 : mI 142 10 = (27, 0, 2, 0, 0) := by decide +kernel
theorem mi_143_0 : mI 143 0 = (5, 0, 0, 0, 0) := by decide +kernel
theorem mi_143_1 : mI 143 1 = (17, 64, 12, 5, 0) := by decide +kernel
theorem mi_143_4 : mI 143 4 = (17, 43, 36, 9, 2) := by decide +kernel
theorem mi_143_7 : mI 143 7 = (1, 2, 0, 0, 0) := by decide +kernel
theorem mi_143_8 : mI 143 8 = (15, 11, 0, 19, 0) := by decide +kernel
theorem mi_143_11 : mI 143 11 = (5, 0, 0, 0, 0) := by decide +kernel
theorem mi_143_12 : mI 143 12 = (1, 1, 0, 0, 0) := by decide +kernel
theorem mi_143_13 : mI 143 13 = (26, 446, 117, 146, 0) := by decide +kernel
theorem mi_143_16 : mI 143 16 = (16, 30, 0, 46, 0) := by decide +kernel
theorem mi_143_19 : mI 143 19 = (5, 0, 0, 0, 0) := by decide +kernel
theorem mi_143_20 : mI 143 20 = (17, 64, 12, 5, 0) := by decide +kernel
theorem mi_143_23 : mI 143 23 = (17, 49, 169, 9, 5) := by decide +kernel
theorem mi_143_26 : mI 143 26 = (3, 0, 1, 0, 0) := by decide +kernel
theorem mi_143_27 : mI 143 27 = (15, 14, 2, 41, 0) := by decide +kernel
theorem mi_143_30 : mI 143 30 = (5, 0, 0, 0, 0) := by decide +kernel
theorem mi_143_31 : mI 143 31 = (17, 64, 12, 5, 0) := by decide +kernel
theorem mi_143_34 : mI 143 34 = (17, 49, 169, 9, 5) := by decide +kernel
theorem mi_143_37 : mI 143 37 = (3, 0, 2, 0, 0) := by decide +kernel
theorem mi_143_38 : mI 143 38 = (15, 8, 5, 46, 0) := by decide +kernel
theorem mi_143_41 : mI 143 41 = (5, 0, 0, 0, 0) := by decide +kernel
theorem mi_143_42 : mI 143 42 = (1, 2, 0, 0, 0) := by decide +kernel
theorem mi_143_43 : mI 143 43 = (26, 446, 117, 146, 0) := by decide +kernel
theorem mi_143_46 : mI 143 46 = (5, 0, 0, 0, 0) := by decide +kernel
theorem mi_143_47 : mI 143 47 = (17, 66, 27, 5, 1) := by decide +kernel
theorem mi_143_50 : mI 143 50 = (14, 13, 1, 63, 0) := by decide +kernel
theorem mi_143_53 : mI 143 53 = (5, 0, 0, 0, 0) := by decide +kernel
theorem mi_143_54 : mI 143 54 = (17, 64, 12, 5, 0) := by decide +kernel
theorem mi_143_57 : mI 143 57 = (17, 49, 169, 9, 5) := by decide +kernel
theorem mi_143_60 : mI 143 60 = (16, 4, 0, 64, 0) := by decide +kernel
theorem mi_143_63 : mI 143 63 = (1, 0, 0, 0, 0) := by decide +kernel
theorem mi_143_64 : mI 143 64 = (27, 0, 0, 0, 0) := by decide +kernel
theorem mi_144_0 : mI 144 0 = (5, 0, 0, 0, 0) := by decide +kernel
theorem mi_144_1 : mI 144 1 = (17, 64, 12, 5, 0) := by decide +kernel
theorem mi_144_4 : mI 144 4 = (26, 368, 33, 188, 0) := by decide +kernel
theorem mi_144_7 : mI 144 7 = (5, 0, 0, 0, 0) := by decide +kernel
theorem mi_144_8 : mI 144 8 = (17, 64, 12, 5, 0) := by decide +kernel
theorem mi_144_11 : mI 144 11 = (5, 0, 1, 0, 0) := by decide +kernel
theorem mi_144_12 : mI 144 12 = (26, 394, 57, 191, 0) := by decide +kernel
theorem mi_144_15 : mI 144 15 = (14, 8, 1, 23, 0) := by decide +kernel
theorem mi_144_18 : mI 144 18 = (5, 0, 0, 0, 0) := by decide +kernel
theorem mi_144_19 : mI 144 19 = (1, 1, 0, 0, 0) := by decide +kernel
theorem mi_144_20 : mI 144 20 = (26, 446, 117, 146, 0) := by decide +kernel
theorem mi_144_23 : mI 144 23 = (27, 0, 2, 0, 0) := by decide +kernel
theorem mi_145_0 : mI 145 0 = (5, 0, 0, 0, 0) := by decide +kernel
theorem mi_145_1 : mI 145 1 = (17, 64, 12, 5, 0) := by decide +kernel
theorem mi_145_4 : mI 145 4 = (17, 43, 36, 9, 2) := by decide +kernel
theorem mi_145_7 : mI 145 7 = (1, 3, 0, 0, 0) := by decide +kernel
theorem mi_145_8 : mI 145 8 = (15, 8, 0, 16, 0) := by decide +kernel
theorem mi_145_11 : mI 145 11 = (5, 0, 0, 0, 0) := by decide +kernel
theorem mi_145_12 : mI 145 12 = (1, 1, 0, 0, 0) := by decide +kernel
theorem mi_145_13 : mI 145 13 = (26, 446, 117, 146, 0) := by decide +kernel
theorem mi_145_16 : mI 145 16 = (27, 0, 2, 0, 0) := by decide +kernel
theorem mi_146_0 : mI 146 0 = (5, 0, 0, 0, 0) := by decide +kernel
theorem mi_146_1 : mI 146 1 = (17, 66, 27, 5, 1) := by decide +kernel
theorem mi_146_4 : mI 146 4 = (14, 19, 1, 23, 0) := by decide +kernel
theorem mi_146_7 : mI 146 7 = (5, 0, 0, 0, 0) := by decide +kernel
theorem mi_146_8 : mI 146 8 = (3, 0, 1, 0, 0) := by decide +kernel
theorem mi_146_9 : mI 146 9 = (18, 66, 27, 5, 1) := by decide +kernel
theorem mi_146_12 : mI 146 12 = (5, 0, 0, 0, 0) := by decide +kernel
theorem mi_146_13 : mI 146 13 = (5, 0, 0, 0, 0) := by decide +kernel
theorem mi_146_14 : mI 146 14 = (17, 64, 12, 5, 0) := by decide +kernel
theorem mi_146_17 : mI 146 17 = (17, 46, 172, 9, 3) := by decide +kernel
theorem mi_146_20 : mI 146 20 = (18, 68, 18, 5, 2) := by decide +kernel
theorem mi_146_23 : mI 146 23 = (27, 0, 2, 0, 0) := by decide +kernel
theorem mi_149_0 : mI 149 0 = (1, 0, 0, 0, 0) := by decide +kernel
theorem mi_149_1 : mI 149 1 = (6, 0, 2, 0, 0) := by decide +kernel
theorem mi_149_2 : mI 149 2 = (3, 0, 2, 0, 0) := by decide +kernel
theorem mi_149_3 : mI 149 3 = (5, 0, 0, 0, 0) := by decide +kernel
theorem mi_149_4 : mI 149 4 = (21, 0, 0, 0, 0) := by decide +kernel
theorem mi_149_5 : mI 149 5 = (15, 13, 3, 18, 0) := by decide +kernel
theorem mi_149_8 : mI 149 8 = (5, 0, 0, 0, 0) := by decide +kernel
theorem mi_149_9 : mI 149 9 = (3, 0, 2, 0, 0) := by decide +kernel
theorem mi_149_10 : mI 149 10 = (3, 0, 1, 0, 0) := by decide +kernel
theorem mi_149_11 : mI 149 11 = (20, 0, 0, 0, 0) := by decide +kernel
theorem mi_149_12 : mI 149 12 = (9, 1, 2, 0, 0) := by decide +kernel
theorem mi_149_15 : mI 149 15 = (16, (-13), 0, 2, 0) := by decide +kernel
theorem mi_149_18 : mI 149 18 = (27, 0, 2, 0, 0) := by decide +kernel
theorem mi_150_0 : mI 150 0 = (1, 0, 0, 0, 0) := by decide +kernel
theorem mi_150_1 : mI 150 1 = (6, 0, 2, 0, 0) := by decide +kernel
theorem mi_150_2 : mI 150 2 = (3, 0, 2, 0, 0) := by decide +kernel
theorem mi_150_3 : mI 150 3 = (5, 0, 0, 0, 0) := by decide +kernel
theorem mi_150_4 : mI 150 4 = (21, 0, 0, 0, 0) := by decide +kernel
theorem mi_150_5 : mI 150 5 = (15, 21, 3, 26, 0) := by decide +kernel
theorem mi_150_8 : mI 150 8 = (3, 0, 2, 0, 0) := by decide +kernel
theorem mi_150_9 : mI 150 9 = (5, 0, 1, 0, 0) := by decide +kernel
theorem mi_150_10 : mI 150 10 = (21, 0, 0, 0, 0) := by decide +kernel
theorem mi_150_11 : mI 150 11 = (15, 15, 3, 26, 0) := by decide +kernel
theorem mi_150_14 : mI 150 14 = (5, 0, 1, 0, 0) := by decide +kernel
theorem mi_150_15 : mI 150 15 = (3, 0, 2, 0, 0) := by decide +kernel
theorem mi_150_16 : mI 150 16 = (5, 0, 0, 0, 0) := by decide +kernel
theorem mi_150_17 : mI 150 17 = (3, 0, 2, 0, 0) := by decide +kernel
theorem mi_150_18 : mI 150 18 = (19, 0, 0, 0, 0) := by decide +kernel
theorem mi_150_19 : mI 150 19 = (20, 0, 0, 0, 0) := by decide +kernel
theorem mi_150_20 : mI 150 20 = (9, 1, 2, 0, 0) := by decide +kernel
theorem mi_150_23 : mI 150 23 = (16, (-21), 0, 2, 0) := by decide +kernel
theorem mi_150_26 : mI 150 26 = (27, 0, 2, 0, 0) := by decide +kernel
theorem mi_198_0 : mI 198 0 = (5, 0, 0, 0, 0) := by decide +kernel
theorem mi_198_1 : mI 198 1 = (17, 1207, 9, 11, 1) := by decide +kernel
theorem mi_198_4 : mI 198 4 = (1, 5, 0, 0, 0) := by decide +kernel
theorem mi_198_5 : mI 198 5 = (19, 0, 0, 0, 0) := by decide +kernel
theorem mi_198_6 : mI 198 6 = (14, 7, 5, 13, 0) := by decide +kernel
theorem mi_198_9 : mI 198 9 = (1, 1, 0, 0, 0) := by decide +kernel
theorem mi_198_10 : mI 198 10 = (16, 4, 0, 14, 0) := by decide +kernel
theorem mi_198_13 : mI 198 13 = (1, 0, 0, 0, 0) := by decide +kernel
theorem mi_198_14 : mI 198 14 = (27, 0, 0, 0, 0) := by decide +kernel
theorem mi_199_0 : mI 199 0 = (3, 0, 1, 0, 0) := by decide +kernel
theorem mi_199_1 : mI 199 1 = (12, 0, 1, 0, 0) := by decide +kernel
theorem mi_199_2 : mI 199 2 = (2, 0, 0, 0, 0) := by decide +kernel
theorem mi_199_3 : mI 199 3 = (5, 0, 0, 0, 0) := by decide +kernel
theorem mi_199_4 : mI 199 4 = (17, 1207, 9, 11, 1) := by decide +kernel
theorem mi_199_7 : mI 199 7 = (1, 3, 0, 0, 0) := by decide +kernel
theorem mi_199_8 : mI 199 8 = (19, 0, 0, 0, 0) := by decide +kernel
theorem mi_199_9 : mI 199 9 = (1, 1, 0, 0, 0) := by decide +kernel
theorem mi_199_10 : mI 199 10 = (10, 0, 1, 0, 0) := by decide +kernel
theorem mi_199_11 : mI 199 11 = (12, 0, 1, 0, 0) := by decide +kernel
theorem mi_199_12 : mI 199 12 = (26, 1321, 85, 193, 1) := by decide +kernel
theorem mi_199_15 : mI 199 15 = (27, 0, 0, 0, 0) := by decide +kernel
theorem mi_200_0 : mI 200 0 = (5, 0, 0, 0, 0) := by decide +kernel
theorem mi_200_1 : mI 200 1 = (3, 0, 1, 0, 0) := by decide +kernel
theorem mi_200_2 : mI 200 2 = (26, 1448, 89, 199, 0) := by decide +kernel
theorem mi_200_5 : mI 200 5 = (14, 20, 0, 25, 0) := by decide +kernel
theorem mi_200_8 : mI 200 8 = (5, 0, 0, 0, 0) := by decide +kernel
theorem mi_200_9 : mI 200 9 = (3, 0, 2, 0, 0) := by decide +kernel
theorem mi_200_10 : mI 200 10 = (26, 1448, 89, 199, 0) := by decide +kernel
theorem mi_200_13 : mI 200 13 = (14, 12, 0, 25, 0) := by decide +kernel
theorem mi_200_16 : mI 200 16 = (3, 0, 1, 0, 0) := by decide +kernel
theorem mi_200_17 : mI 200 17 = (3, 0, 2, 0, 0) := by decide +kernel
theorem mi_200_18 : mI 200 18 = (15, 7, 0, 25, 0) := by decide +kernel
theorem mi_200_21 : mI 200 21 = (1, 1, 0, 0, 0) := by decide +kernel
theorem mi_200_22 : mI 200 22 = (16, 4, 0, 26, 0) := by decide +kernel
theorem mi_200_25 : mI 200 25 = (1, 0, 0, 0, 0) := by decide +kernel
theorem mi_200_26 : mI 200 26 = (27, 0, 0, 0, 0) := by decide +kernel
theorem mi_201_0 : mI 201 0 = (3, 0, 1, 0, 0) := by decide +kernel
theorem mi_201_1 : mI 201 1 = (12, 0, 1, 0, 0) := by decide +kernel
theorem mi_201_2 : mI 201 2 = (2, 0, 0, 0, 0) := by decide +kernel
theorem mi_201_3 : mI 201 3 = (5, 0, 0, 0, 0) := by decide +kernel
theorem mi_201_4 : mI 201 4 = (17, 1207, 9, 11, 1) := by decide +kernel
theorem mi_201_7 : mI 201 7 = (1, 2, 0, 0, 0) := by decide +kernel
theorem mi_201_8 : mI 201 8 = (19, 0, 0, 0, 0) := by decide +kernel
theorem mi_201_9 : mI 201 9 = (1, 1, 0, 0, 0) := by decide +kernel
theorem mi_201_10 : mI 201 10 = (10, 0, 1, 0, 0) := by decide +kernel
theorem mi_201_11 : mI 201 11 = (12, 0, 1, 0, 0) := by decide +kernel
theorem mi_201_12 : mI 201 12 = (26, 1321, 85, 193, 1) := by decide +kernel
theorem mi_201_15 : mI 201 15 = (27, 0, 0, 0, 0) := by decide +kernel
theorem mi_202_0 : mI 202 0 = (3, 0, 1, 0, 0) := by decide +kernel
theorem mi_202_1 : mI 202 1 = (12, 0, 1, 0, 0) := by decide +kernel
theorem mi_202_2 : mI 202 2 = (2, 0, 0, 0, 0) := by decide +kernel
theorem mi_202_3 : mI 202 3 = (5, 0, 0, 0, 0) := by decide +kernel
theorem mi_202_4 : mI 202 4 = (17, 1207, 9, 11, 1) := by decide +kernel
theorem mi_202_7 : mI 202 7 = (1, 4, 0, 0, 0) := by decide +kernel
theorem mi_202_8 : mI 202 8 = (19, 0, 0, 0, 0) := by decide +kernel
theorem mi_202_9 : mI 202 9 = (1, 1, 0, 0, 0) := by decide +kernel
theorem mi_202_10 : mI 202 10 = (10, 0, 1, 0, 0) := by decide +kernel
theorem mi_202_11 : mI 202 11 = (12, 0, 1, 0, 0) := by decide +kernel
theorem mi_202_12 : mI 202 12 = (26, 1321, 85, 193, 1) := by decide +kernel
theorem mi_202_15 : mI 202 15 = (27, 0, 0, 0, 0) := by decide +kernel
theorem mi_204_0 : mI 204 0 = (5, 0, 0, 0, 0) := by decide +kernel
theorem mi_204_1 : mI 204 1 = (17, 1207, 9, 11, 1) := by decide +kernel
theorem mi_204_4 : mI 204 4 = (1, 6, 1, 0, 0) := by decide +kernel
theorem mi_204_6 : mI 204 6 = (1, 7, 1, 0, 0) := by decide +kernel
theorem mi_204_8 : mI 204 8 = (3, 0, 1, 0, 0) := by decide +kernel
theorem mi_204_9 : mI 204 9 = (10, 0, 2, 0, 0) := by decide +kernel
theorem mi_204_10 : mI 204 10 = (10, 0, 0, 0, 0) := by decide +kernel
theorem mi_204_11 : mI 204 11 = (19, 0, 0, 0, 0) := by decide +kernel
theorem mi_204_12 : mI 204 12 = (27, 0, 0, 0, 0) := by decide +kernel
theorem mi_205_0 : mI 205 0 = (5, 0, 0, 0, 0) := by decide +kernel
theorem mi_205_1 : mI 205 1 = (17, 1207, 9, 11, 1) := by decide +kernel
theorem mi_205_4 : mI 205 4 = (1, 6, 1, 0, 0) := by decide +kernel
theorem mi_205_6 : mI 205 6 = (1, 7, 1, 0, 0) := by decide +kernel
theorem mi_205_8 : mI 205 8 = (3, 0, 1, 0, 0) := by decide +kernel
theorem mi_205_9 : mI 205 9 = (10, 0, 2, 0, 0) := by decide +kernel
theorem mi_205_10 : mI 205 10 = (10, 0, 0, 0, 0) := by decide +kernel
theorem mi_205_11 : mI 205 11 = (1, 1, 0, 0, 0) := by decide +kernel
theorem mi_205_12 : mI 205 12 = (10, 0, 0, 0, 0) := by decide +kernel
theorem mi_205_13 : mI 205 13 = (3, 0, 2, 0, 0) := by decide +kernel
theorem mi_205_14 : mI 205 14 = (10, 0, 0, 0, 0) := by decide +kernel
theorem mi_205_15 : mI 205 15 = (19, 0, 0, 0, 0) := by decide +kernel
theorem mi_205_16 : mI 205 16 = (27, 0, 0, 0, 0) := by decide +kernel
theorem mi_206_0 : mI 206 0 = (1, 1, 0, 0, 0) := by decide +kernel
theorem mi_206_1 : mI 206 1 = (5, 0, 0, 0, 0) := by decide +kernel
theorem mi_206_2 : mI 206 2 = (3, 0, 1, 0, 0) := by decide +kernel
theorem mi_206_3 : mI 206 3 = (26, 1452, 93, 204, 0) := by decide +kernel
theorem mi_206_6 : mI 206 6 = (10, 0, 8, 0, 0) := by decide +kernel
theorem mi_206_7 : mI 206 7 = (1, 1, 0, 0, 0) := by decide +kernel
theorem mi_206_8 : mI 206 8 = (10, 0, 1, 0, 0) := by decide +kernel
theorem mi_206_9 : mI 206 9 = (27, 0, 0, 0, 0) := by decide +kernel
theorem mi_207_0 : mI 207 0 = (5, 0, 0, 0, 0) := by decide +kernel
theorem mi_207_1 : mI 207 1 = (17, 1207, 9, 11, 1) := by decide +kernel
theorem mi_207_4 : mI 207 4 = (1, 102, 1, 0, 0) := by decide +kernel
theorem mi_207_6 : mI 207 6 = (1, 24, 1, 0, 0) := by decide +kernel
theorem mi_207_8 : mI 207 8 = (3, 0, 1, 0, 0) := by decide +kernel
theorem mi_207_9 : mI 207 9 = (10, 0, 2, 0, 0) := by decide +kernel
theorem mi_207_10 : mI 207 10 = (10, 0, 0, 0, 0) := by decide +kernel
theorem mi_207_11 : mI 207 11 = (3, 0, 2, 0, 0) := by decide +kernel
theorem mi_207_12 : mI 207 12 = (10, 0, 0, 0, 0) := by decide +kernel
theorem mi_207_13 : mI 207 13 = (19, 0, 0, 0, 0) := by decide +kernel
theorem mi_207_14 : mI 207 14 = (27, 0, 0, 0, 0) := by decide +kernel
theorem mi_208_0 : mI 208 0 = (5, 0, 0, 0, 0) := by decide +kernel
theorem mi_208_1 : mI 208 1 = (17, 1207, 9, 11, 1) := by decide +kernel
theorem mi_208_4 : mI 208 4 = (1, 246, 2, 0, 0) := by decide +kernel
theorem mi_208_7 : mI 208 7 = (1, 4, 0, 0, 0) := by decide +kernel
theorem mi_208_8 : mI 208 8 = (3, 0, 1, 0, 0) := by decide +kernel
theorem mi_208_9 : mI 208 9 = (10, 0, 2, 0, 0) := by decide +kernel
theorem mi_208_10 : mI 208 10 = (10, 0, 0, 0, 0) := by decide +kernel
theorem mi_208_11 : mI 208 11 = (3, 0, 2, 0, 0) := by decide +kernel
theorem mi_208_12 : mI 208 12 = (10, 0, 0, 0, 0) := by decide +kernel
theorem mi_208_13 : mI 208 13 = (19, 0, 0, 0, 0) := by decide +kernel
theorem mi_208_14 : mI 208 14 = (27, 0, 0, 0, 0) := by decide +kernel
theorem mi_221_0 : mI 221 0 = (3, 0, 1, 0, 0) := by decide +kernel
theorem mi_221_1 : mI 221 1 = (14, 10, 1, 11, 0) := by decide +kernel
theorem mi_221_4 : mI 221 4 = (5, 0, 0, 0, 0) := by decide +kernel
theorem mi_221_5 : mI 221 5 = (17, 1218, 133, 11, 12) := by decide +kernel
theorem mi_221_8 : mI 221 8 = (16, 16, 0, 24, 0) := by decide +kernel
theorem mi_221_11 : mI 221 11 = (3, 0, 1, 0, 0) := by decide +kernel
theorem mi_221_12 : mI 221 12 = (1, 1, 0, 0, 0) := by decide +kernel
theorem mi_221_13 : mI 221 13 = (15, 10, 1, 23, 0) := by decide +kernel
theorem mi_221_16 : mI 221 16 = (5, 0, 0, 0, 0) := by decide +kernel
theorem mi_221_17 : mI 221 17 = (17, 1219, 27, 11, 13) := by decide +kernel
theorem mi_221_20 : mI 221 20 = (16, 4, 0, 24, 0) := by decide +kernel
theorem mi_221_23 : mI 221 23 = (1, (-1), 0, 0, 0) := by decide +kernel
theorem mi_221_24 : mI 221 24 = (27, 0, 0, 0, 0) := by decide +kernel
theorem mi_235_0 : mI 235 0 = (5, 0, 0, 0, 0) := by decide +kernel
theorem mi_235_1 : mI 235 1 = (17, 1230, 245, 11, 24) := by decide +kernel
theorem mi_235_4 : mI 235 4 = (14, 25, 0, 29, 0) := by decide +kernel
theorem mi_235_29 : mI 235 29 = (3, 0, 1, 0, 0) := by decide +kernel
theorem mi_235_30 : mI 235 30 = (5, 0, 0, 0, 0) := by decide +kernel
theorem mi_235_31 : mI 235 31 = (17, 1228, 49, 11, 22) := by decide +kernel
theorem mi_235_34 : mI 235 34 = (15, 14, 1, 48, 0) := by decide +kernel
theorem mi_235_48 : mI 235 48 = (1, 1, 0, 0, 0) := by decide +kernel
theorem mi_235_49 : mI 235 49 = (16, 4, 0, 53, 0) := by decide +kernel
theorem mi_235_53 : mI 235 53 = (27, 0, 0, 0, 0) := by decide +kernel
theorem mi_236_0 : mI 236 0 = (5, 0, 0, 0, 0) := by decide +kernel
theorem mi_236_1 : mI 236 1 = (3, 0, 1, 0, 0) := by decide +kernel
theorem mi_236_2 : mI 236 2 = (1, 0, 0, 0, 0) := by decide +kernel
theorem mi_236_3 : mI 236 3 = (26, 1489, 258, 208, 0) := by decide +kernel
theorem mi_236_6 : mI 236 6 = (6, 0, 2, 0, 0) := by decide +kernel
theorem mi_236_7 : mI 236 7 = (5, 0, 0, 0, 0) := by decide +kernel
theorem mi_236_8 : mI 236 8 = (3, 0, 1, 0, 0) := by decide +kernel
theorem mi_236_9 : mI 236 9 = (1, 1, 0, 0, 0) := by decide +kernel
theorem mi_236_10 : mI 236 10 = (26, 1489, 258, 208, 0) := by decide +kernel
theorem mi_236_13 : mI 236 13 = (6, 0, 3, 0, 0) := by decide +kernel
theorem mi_236_14 : mI 236 14 = (5, 0, 0, 0, 0) := by decide +kernel
theorem mi_236_15 : mI 236 15 = (3, 0, 1, 0, 0) := by decide +kernel
theorem mi_236_16 : mI 236 16 = (1, 2, 0, 0, 0) := by decide +kernel
theorem mi_236_17 : mI 236 17 = (26, 1489, 258, 208, 0) := by decide +kernel
theorem mi_236_20 : mI 236 20 = (6, 0, 4, 1, 0) := by decide +kernel
theorem mi_236_22 : mI 236 22 = (5, 0, 0, 0, 0) := by decide +kernel
theorem mi_236_23 : mI 236 23 = (17, 1227, 261, 11, 21) := by decide +kernel
theorem mi_236_26 : mI 236 26 = (3, 0, 1, 0, 0) := by decide +kernel
theorem mi_236_27 : mI 236 27 = (26, 1517, 255, 195, 1) := by decide +kernel
theorem mi_236_30 : mI 236 30 = (1, 1, 0, 0, 0) := by decide +kernel
theorem mi_236_31 : mI 236 31 = (15, 22, 0, 53, 0) := by decide +kernel
theorem mi_236_34 : mI 236 34 = (5, 0, 0, 0, 0) := by decide +kernel
theorem mi_236_35 : mI 236 35 = (17, 1223, 40, 11, 17) := by decide +kernel
theorem mi_236_38 : mI 236 38 = (1, 6, 1, 0, 0) := by decide +kernel
theorem mi_236_40 : mI 236 40 = (3, 0, 2, 0, 0) := by decide +kernel
theorem mi_236_41 : mI 236 41 = (10, 0, 2, 0, 0) := by decide +kernel
theorem mi_236_42 : mI 236 42 = (3, 0, 3, 0, 0) := by decide +kernel
theorem mi_236_43 : mI 236 43 = (10, 0, 0, 0, 0) := by decide +kernel
theorem mi_236_44 : mI 236 44 = (19, 0, 0, 0, 0) := by decide +kernel
theorem mi_236_45 : mI 236 45 = (3, 0, 4, 1, 0) := by decide +kernel
theorem mi_236_47 : mI 236 47 = (26, 1517, 255, 195, 1) := by decide +kernel
theorem mi_236_50 : mI 236 50 = (14, 4, 1, 54, 0) := by decide +kernel
theorem mi_236_53 : mI 236 53 = (27, 0, 2, 0, 0) := by decide +kernel
theorem mi_236_54 : mI 236 54 = (5, 0, 0, 0, 0) := by decide +kernel
theorem mi_236_55 : mI 236 55 = (22, 0, 0, 0, 0) := by decide +kernel
theorem mi_236_56 : mI 236 56 = (17, 1224, 264, 11, 18) := by decide +kernel
theorem mi_236_59 : mI 236 59 = (1, 1, 0, 0, 0) := by decide +kernel
theorem mi_236_60 : mI 236 60 = (3, 0, 1, 0, 0) := by decide +kernel
theorem mi_236_61 : mI 236 61 = (10, 0, 8, 0, 0) := by decide +kernel
theorem mi_236_62 : mI 236 62 = (10, 0, 6, 0, 0) := by decide +kernel
theorem mi_236_63 : mI 236 63 = (18, 1224, 264, 11, 18) := by decide +kernel
theorem mi_236_66 : mI 236 66 = (5, 0, 0, 0, 0) := by decide +kernel
theorem mi_236_67 : mI 236 67 = (3, 0, 1, 0, 0) := by decide +kernel
theorem mi_236_68 : mI 236 68 = (1, 3, 0, 0, 0) := by decide +kernel
theorem mi_236_69 : mI 236 69 = (26, 1489, 258, 208, 0) := by decide +kernel
theorem mi_236_72 : mI 236 72 = (6, 0, 5, 1, 0) := by decide +kernel
theorem mi_236_74 : mI 236 74 = (1, 0, 0, 0, 0) := by decide +kernel
theorem mi_236_75 : mI 236 75 = (6, 0, 6, 1, 0) := by decide +kernel
theorem mi_236_77 : mI 236 77 = (3, 0, 6, 1, 0) := by decide +kernel
theorem mi_236_79 : mI 236 79 = (5, 0, 0, 0, 0) := by decide +kernel
theorem mi_236_80 : mI 236 80 = (17, 1207, 9, 11, 1) := by decide +kernel
theorem mi_236_83 : mI 236 83 = (1, 3, 0, 0, 0) := by decide +kernel
theorem mi_236_84 : mI 236 84 = (19, 0, 0, 0, 0) := by decide +kernel
theorem mi_236_85 : mI 236 85 = (15, 115, 3, 200, 0) := by decide +kernel
theorem mi_236_88 : mI 236 88 = (3, 0, 6, 1, 0) := by decide +kernel
theorem mi_236_90 : mI 236 90 = (3, 0, 2, 0, 0) := by decide +kernel
theorem mi_236_91 : mI 236 91 = (15, 103, 0, 194, 0) := by decide +kernel
theorem mi_236_94 : mI 236 94 = (5, 0, 0, 0, 0) := by decide +kernel
theorem mi_236_95 : mI 236 95 = (3, 0, 6, 1, 0) := by decide +kernel
theorem mi_236_97 : mI 236 97 = (3, 0, 5, 1, 0) := by decide +kernel
theorem mi_236_99 : mI 236 99 = (26, 1476, 267, 207, 0) := by decide +kernel
theorem mi_236_102 : mI 236 102 = (5, 0, 0, 0, 0) := by decide +kernel
theorem mi_236_103 : mI 236 103 = (3, 0, 2, 0, 0) := by decide +kernel
theorem mi_236_104 : mI 236 104 = (3, 0, 5, 1, 0) := by decide +kernel
theorem mi_236_106 : mI 236 106 = (26, 1476, 267, 207, 0) := by decide +kernel
theorem mi_236_109 : mI 236 109 = (15, 85, 1, 194, 0) := by decide +kernel
theorem mi_236_112 : mI 236 112 = (5, 0, 0, 0, 0) := by decide +kernel
theorem mi_236_113 : mI 236 113 = (3, 0, 6, 1, 0) := by decide +kernel
theorem mi_236_115 : mI 236 115 = (3, 0, 1, 0, 0) := by decide +kernel
theorem mi_236_116 : mI 236 116 = (26, 1520, 270, 235, 0) := by decide +kernel
theorem mi_236_119 : mI 236 119 = (14, 6, 1, 125, 0) := by decide +kernel
theorem mi_236_125 : mI 236 125 = (5, 0, 0, 0, 0) := by decide +kernel
theorem mi_236_126 : mI 236 126 = (17, 1225, 43, 11, 19) := by decide +kernel
theorem mi_236_129 : mI 236 129 = (3, 0, 1, 0, 0) := by decide +kernel
theorem mi_236_130 : mI 236 130 = (22, 0, 1, 0, 0) := by decide +kernel
theorem mi_236_131 : mI 236 131 = (19, 0, 0, 0, 0) := by decide +kernel
theorem mi_236_132 : mI 236 132 = (1, 1, 0, 0, 0) := by decide +kernel
theorem mi_236_133 : mI 236 133 = (3, 0, 6, 1, 0) := by decide +kernel
theorem mi_236_135 : mI 236 135 = (10, 0, 8, 0, 0) := by decide +kernel
theorem mi_236_136 : mI 236 136 = (10, 0, 6, 0, 0) := by decide +kernel
theorem mi_236_137 : mI 236 137 = (20, 0, 0, 0, 0) := by decide +kernel
theorem mi_236_138 : mI 236 138 = (5, 0, 0, 0, 0) := by decide +kernel
theorem mi_236_139 : mI 236 139 = (17, 1226, 46, 11, 20) := by decide +kernel
theorem mi_236_142 : mI 236 142 = (3, 0, 1, 0, 0) := by decide +kernel
theorem mi_236_143 : mI 236 143 = (22, 0, 1, 0, 0) := by decide +kernel
theorem mi_236_144 : mI 236 144 = (19, 0, 0, 0, 0) := by decide +kernel
theorem mi_236_145 : mI 236 145 = (5, 0, 0, 0, 0) := by decide +kernel
theorem mi_236_146 : mI 236 146 = (17, 1223, 40, 11, 17) := by decide +kernel
theorem mi_236_149 : mI 236 149 = (1, 6, 1, 0, 0) := by decide +kernel
theorem mi_236_151 : mI 236 151 = (3, 0, 6, 1, 0) := by decide +kernel
theorem mi_236_153 : mI 236 153 = (10, 0, 2, 0, 0) := by decide +kernel
theorem mi_236_154 : mI 236 154 = (3, 0, 3, 0, 0) := by decide +kernel
theorem mi_236_155 : mI 236 155 = (10, 0, 0, 0, 0) := by decide +kernel
theorem mi_236_156 : mI 236 156 = (19, 0, 0, 0, 0) := by decide +kernel
theorem mi_236_157 : mI 236 157 = (3, 0, 4, 1, 0) := by decide +kernel
theorem mi_236_159 : mI 236 159 = (26, 1517, 255, 195, 1) := by decide +kernel
theorem mi_236_162 : mI 236 162 = (14, 10, 1, 172, 0) := by decide +kernel
theorem mi_236_165 : mI 236 165 = (1, 1, 0, 0, 0) := by decide +kernel
theorem mi_236_166 : mI 236 166 = (3, 0, 6, 1, 0) := by decide +kernel
theorem mi_236_168 : mI 236 168 = (10, 0, 8, 0, 0) := by decide +kernel
theorem mi_236_169 : mI 236 169 = (16, 4, 0, 173, 0) := by decide +kernel
theorem mi_236_172 : mI 236 172 = (1, 0, 0, 0, 0) := by decide +kernel
theorem mi_236_173 : mI 236 173 = (10, 0, 6, 0, 0) := by decide +kernel
theorem mi_236_174 : mI 236 174 = (20, 0, 0, 0, 0) := by decide +kernel
theorem mi_236_175 : mI 236 175 = (5, 0, 0, 0, 0) := by decide +kernel
theorem mi_236_176 : mI 236 176 = (17, 1223, 40, 11, 17) := by decide +kernel
theorem mi_236_179 : mI 236 179 = (1, 6, 1, 0, 0) := by decide +kernel
theorem mi_236_181 : mI 236 181 = (3, 0, 6, 1, 0) := by decide +kernel
theorem mi_236_183 : mI 236 183 = (10, 0, 2, 0, 0) := by decide +kernel
theorem mi_236_184 : mI 236 184 = (3, 0, 3, 0, 0) := by decide +kernel
theorem mi_236_185 : mI 236 185 = (10, 0, 0, 0, 0) := by decide +kernel
theorem mi_236_186 : mI 236 186 = (22, 0, 1, 0, 0) := by decide +kernel
theorem mi_236_187 : mI 236 187 = (19, 0, 0, 0, 0) := by decide +kernel
theorem mi_236_188 : mI 236 188 = (1, 1, 0, 0, 0) := by decide +kernel
theorem mi_236_189 : mI 236 189 = (3, 0, 4, 1, 0) := by decide +kernel
theorem mi_236_191 : mI 236 191 = (10, 0, 8, 0, 0) := by decide +kernel
theorem mi_236_192 : mI 236 192 = (10, 0, 6, 0, 0) := by decide +kernel
theorem mi_236_193 : mI 236 193 = (20, 0, 0, 0, 0) := by decide +kernel
theorem mi_236_194 : mI 236 194 = (9, 1, 6, 0, 0) := by decide +kernel
theorem mi_236_197 : mI 236 197 = (16, (-120), 0, 77, 0) := by decide +kernel
theorem mi_236_200 : mI 236 200 = (27, 0, 2, 0, 0) := by decide +kernel
theorem mi_237_0 : mI 237 0 = (5, 0, 0, 0, 0) := by decide +kernel
theorem mi_237_1 : mI 237 1 = (1, 0, 0, 0, 0) := by decide +kernel
theorem mi_237_2 : mI 237 2 = (18, 1224, 264, 11, 18) := by decide +kernel
theorem mi_237_5 : mI 237 5 = (1, 0, 0, 0, 0) := by decide +kernel
theorem mi_237_6 : mI 237 6 = (6, 0, 1, 0, 0) := by decide +kernel
theorem mi_237_7 : mI 237 7 = (3, 0, 1, 0, 0) := by decide +kernel
theorem mi_237_8 : mI 237 8 = (1, 12, 1, 0, 0) := by decide +kernel
theorem mi_237_10 : mI 237 10 = (15, 23, 3, 33, 0) := by decide +kernel
theorem mi_237_13 : mI 237 13 = (5, 0, 0, 0, 0) := by decide +kernel
theorem mi_237_14 : mI 237 14 = (17, 1225, 43, 11, 19) := by decide +kernel
theorem mi_237_17 : mI 237 17 = (3, 0, 1, 0, 0) := by decide +kernel
theorem mi_237_18 : mI 237 18 = (1, 0, 0, 0, 0) := by decide +kernel
theorem mi_237_19 : mI 237 19 = (20, 0, 0, 0, 0) := by decide +kernel
theorem mi_237_20 : mI 237 20 = (5, 0, 0, 0, 0) := by decide +kernel
theorem mi_237_21 : mI 237 21 = (17, 1226, 46, 11, 20) := by decide +kernel
theorem mi_237_24 : mI 237 24 = (3, 0, 1, 0, 0) := by decide +kernel
theorem mi_237_25 : mI 237 25 = (1, 0, 0, 0, 0) := by decide +kernel
theorem mi_237_26 : mI 237 26 = (20, 0, 0, 0, 0) := by decide +kernel
theorem mi_237_27 : mI 237 27 = (9, 1, 1, 0, 0) := by decide +kernel
theorem mi_237_30 : mI 237 30 = (16, (-23), 0, 7, 0) := by decide +kernel
theorem mi_237_33 : mI 237 33 = (1, 0, 0, 0, 0) := by decide +kernel
theorem mi_237_34 : mI 237 34 = (6, 0, 1, 0, 0) := by decide +kernel
theorem mi_237_35 : mI 237 35 = (3, 0, 1, 0, 0) := by decide +kernel
theorem mi_237_36 : mI 237 36 = (1, 6, 1, 0, 0) := by decide +kernel
theorem mi_237_38 : mI 237 38 = (15, 61, 3, 99, 0) := by decide +kernel
theorem mi_237_41 : mI 237 41 = (1, 0, 0, 0, 0) := by decide +kernel
theorem mi_237_42 : mI 237 42 = (6, 0, 2, 0, 0) := by decide +kernel
theorem mi_237_43 : mI 237 43 = (3, 0, 2, 0, 0) := by decide +kernel
theorem mi_237_44 : mI 237 44 = (1, 6, 1, 0, 0) := by decide +kernel
theorem mi_237_46 : mI 237 46 = (15, 47, 3, 93, 0) := by decide +kernel
theorem mi_237_49 : mI 237 49 = (5, 0, 0, 0, 0) := by decide +kernel
theorem mi_237_50 : mI 237 50 = (17, 1223, 40, 11, 17) := by decide +kernel
theorem mi_237_53 : mI 237 53 = (1, 6, 1, 0, 0) := by decide +kernel
theorem mi_237_55 : mI 237 55 = (3, 0, 1, 0, 0) := by decide +kernel
theorem mi_237_56 : mI 237 56 = (10, 0, 2, 0, 0) := by decide +kernel
theorem mi_237_57 : mI 237 57 = (3, 0, 2, 0, 0) := by decide +kernel
theorem mi_237_58 : mI 237 58 = (10, 0, 0, 0, 0) := by decide +kernel
theorem mi_237_59 : mI 237 59 = (3, 0, 1, 0, 0) := by decide +kernel
theorem mi_237_60 : mI 237 60 = (3, 0, 2, 0, 0) := by decide +kernel
theorem mi_237_61 : mI 237 61 = (15, 11, 1, 72, 0) := by decide +kernel
theorem mi_237_64 : mI 237 64 = (5, 0, 0, 0, 0) := by decide +kernel
theorem mi_237_65 : mI 237 65 = (3, 0, 2, 0, 0) := by decide +kernel
theorem mi_237_66 : mI 237 66 = (26, 1497, 274, 206, 0) := by decide +kernel
theorem mi_237_69 : mI 237 69 = (16, 17, 0, 86, 0) := by decide +kernel
theorem mi_237_72 : mI 237 72 = (5, 0, 0, 0, 0) := by decide +kernel
theorem mi_237_73 : mI 237 73 = (17, 1207, 9, 11, 1) := by decide +kernel
theorem mi_237_76 : mI 237 76 = (1, 66, 1, 0, 0) := by decide +kernel
theorem mi_237_78 : mI 237 78 = (1, 6, 1, 0, 0) := by decide +kernel
theorem mi_237_80 : mI 237 80 = (3, 0, 1, 0, 0) := by decide +kernel
theorem mi_237_81 : mI 237 81 = (10, 0, 2, 0, 0) := by decide +kernel
theorem mi_237_82 : mI 237 82 = (10, 0, 0, 0, 0) := by decide +kernel
theorem mi_237_83 : mI 237 83 = (3, 0, 2, 0, 0) := by decide +kernel
theorem mi_237_84 : mI 237 84 = (10, 0, 0, 0, 0) := by decide +kernel
theorem mi_237_85 : mI 237 85 = (19, 0, 0, 0, 0) := by decide +kernel
theorem mi_237_86 : mI 237 86 = (20, 0, 0, 0, 0) := by decide +kernel
theorem mi_237_87 : mI 237 87 = (9, 1, 2, 0, 0) := by decide +kernel
theorem mi_237_90 : mI 237 90 = (16, (-47), 0, 43, 0) := by decide +kernel
theorem mi_237_93 : mI 237 93 = (9, 1, 1, 0, 0) := by decide +kernel
theorem mi_237_96 : mI 237 96 = (16, (-61), 0, 35, 0) := by decide +kernel
theorem mi_237_99 : mI 237 99 = (1, 0, 0, 0, 0) := by decide +kernel
theorem mi_237_100 : mI 237 100 = (6, 0, 1, 0, 0) := by decide +kernel
theorem mi_237_101 : mI 237 101 = (3, 0, 1, 0, 0) := by decide +kernel
theorem mi_237_102 : mI 237 102 = (5, 0, 0, 0, 0) := by decide +kernel
theorem mi_237_103 : mI 237 103 = (17, 1207, 9, 11, 1) := by decide +kernel
theorem mi_237_106 : mI 237 106 = (1, 2, 0, 0, 0) := by decide +kernel
theorem mi_237_107 : mI 237 107 = (19, 0, 0, 0, 0) := by decide +kernel
theorem mi_237_108 : mI 237 108 = (15, 76, 4, 184, 0) := by decide +kernel
theorem mi_237_111 : mI 237 111 = (1, 0, 0, 0, 0) := by decide +kernel
theorem mi_237_112 : mI 237 112 = (6, 0, 2, 0, 0) := by decide +kernel
theorem mi_237_113 : mI 237 113 = (3, 0, 2, 0, 0) := by decide +kernel
theorem mi_237_114 : mI 237 114 = (5, 0, 0, 0, 0) := by decide +kernel
theorem mi_237_115 : mI 237 115 = (17, 1223, 40, 11, 17) := by decide +kernel
theorem mi_237_118 : mI 237 118 = (21, 0, 0, 0, 0) := by decide +kernel
theorem mi_237_119 : mI 237 119 = (15, 26, 3, 145, 0) := by decide +kernel
theorem mi_237_122 : mI 237 122 = (5, 0, 0, 0, 0) := by decide +kernel
theorem mi_237_123 : mI 237 123 = (17, 1222, 37, 11, 16) := by decide +kernel
theorem mi_237_126 : mI 237 126 = (1, 36, 1, 0, 0) := by decide +kernel
theorem mi_237_128 : mI 237 128 = (3, 0, 1, 0, 0) := by decide +kernel
theorem mi_237_129 : mI 237 129 = (10, 0, 2, 0, 0) := by decide +kernel
theorem mi_237_130 : mI 237 130 = (3, 0, 2, 0, 0) := by decide +kernel
theorem mi_237_131 : mI 237 131 = (10, 0, 0, 0, 0) := by decide +kernel
theorem mi_237_132 : mI 237 132 = (5, 0, 0, 0, 0) := by decide +kernel
theorem mi_237_133 : mI 237 133 = (17, 1223, 40, 11, 17) := by decide +kernel
theorem mi_237_136 : mI 237 136 = (3, 0, 2, 0, 0) := by decide +kernel
theorem mi_237_137 : mI 237 137 = (19, 0, 0, 0, 0) := by decide +kernel
theorem mi_237_138 : mI 237 138 = (20, 0, 0, 0, 0) := by decide +kernel
theorem mi_237_139 : mI 237 139 = (9, 1, 2, 0, 0) := by decide +kernel
theorem mi_237_142 : mI 237 142 = (16, (-29), 0, 113, 0) := by decide +kernel
theorem mi_237_145 : mI 237 145 = (1, 0, 0, 0, 0) := by decide +kernel
theorem mi_237_146 : mI 237 146 = (6, 0, 2, 0, 0) := by decide +kernel
theorem mi_237_147 : mI 237 147 = (3, 0, 2, 0, 0) := by decide +kernel
theorem mi_237_148 : mI 237 148 = (5, 0, 0, 0, 0) := by decide +kernel
theorem mi_237_149 : mI 237 149 = (17, 1207, 9, 11, 1) := by decide +kernel
theorem mi_237_152 : mI 237 152 = (1, 4, 0, 0, 0) := by decide +kernel
theorem mi_237_153 : mI 237 153 = (19, 0, 0, 0, 0) := by decide +kernel
theorem mi_237_154 : mI 237 154 = (15, 24, 3, 178, 0) := by decide +kernel
theorem mi_237_157 : mI 237 157 = (5, 0, 0, 0, 0) := by decide +kernel
theorem mi_237_158 : mI 237 158 = (3, 0, 2, 0, 0) := by decide +kernel
theorem mi_237_159 : mI 237 159 = (1, 3, 0, 0, 0) := by decide +kernel
theorem mi_237_160 : mI 237 160 = (26, 1489, 258, 208, 0) := by decide +kernel
theorem mi_237_163 : mI 237 163 = (3, 0, 1, 0, 0) := by decide +kernel
theorem mi_237_164 : mI 237 164 = (15, 8, 1, 172, 0) := by decide +kernel
theorem mi_237_167 : mI 237 167 = (5, 0, 0, 0, 0) := by decide +kernel
theorem mi_237_168 : mI 237 168 = (3, 0, 2, 0, 0) := by decide +kernel
theorem mi_237_169 : mI 237 169 = (26, 1513, 277, 236, 0) := by decide +kernel
theorem mi_237_172 : mI 237 172 = (9, 1, 2, 0, 0) := by decide +kernel
theorem mi_237_175 : mI 237 175 = (16, (-28), 0, 147, 0) := by decide +kernel
theorem mi_237_178 : mI 237 178 = (9, 1, 1, 0, 0) := by decide +kernel
theorem mi_237_181 : mI 237 181 = (16, (-80), 0, 101, 0) := by decide +kernel
theorem mi_237_184 : mI 237 184 = (27, 0, 2, 0, 0) := by decide +kernel
theorem mi_238_0 : mI 238 0 = (5, 0, 0, 0, 0) := by decide +kernel
theorem mi_238_1 : mI 238 1 = (1, 0, 0, 0, 0) := by decide +kernel
theorem mi_238_2 : mI 238 2 = (18, 1227, 261, 11, 21) := by decide +kernel
theorem mi_238_5 : mI 238 5 = (5, 0, 0, 0, 0) := by decide +kernel
theorem mi_238_6 : mI 238 6 = (26, 1509, 279, 237, 0) := by decide +kernel
theorem mi_238_9 : mI 238 9 = (27, 0, 2, 0, 0) := by decide +kernel
theorem mi_243_0 : mI 243 0 = (5, 0, 0, 0, 0) := by decide +kernel
theorem mi_243_1 : mI 243 1 = (3, 0, 1, 0, 0) := by decide +kernel
theorem mi_243_2 : mI 243 2 = (26, 1448, 89, 199, 0) := by decide +kernel
theorem mi_243_5 : mI 243 5 = (14, 8, 1, 13, 0) := by decide +kernel
theorem mi_243_8 : mI 243 8 = (1, (-2), 1, 0, 0) := by decide +kernel
theorem mi_243_10 : mI 243 10 = (16, 30, 0, 40, 0) := by decide +kernel
theorem mi_243_13 : mI 243 13 = (3, 0, 2, 0, 0) := by decide +kernel
theorem mi_243_14 : mI 243 14 = (12, 0, 1, 0, 0) := by decide +kernel
theorem mi_243_15 : mI 243 15 = (2, 0, 0, 0, 0) := by decide +kernel
theorem mi_243_16 : mI 243 16 = (5, 0, 0, 0, 0) := by decide +kernel
theorem mi_243_17 : mI 243 17 = (3, 0, 1, 0, 0) := by decide +kernel
theorem mi_243_18 : mI 243 18 = (26, 1452, 93, 204, 0) := by decide +kernel
theorem mi_243_21 : mI 243 21 = (1, 1, 0, 0, 0) := by decide +kernel
theorem mi_243_22 : mI 243 22 = (10, 0, 1, 0, 0) := by decide +kernel
theorem mi_243_23 : mI 243 23 = (12, 0, 1, 0, 0) := by decide +kernel
theorem mi_243_24 : mI 243 24 = (26, 1321, 85, 193, 1) := by decide +kernel
theorem mi_243_27 : mI 243 27 = (14, 12, 0, 39, 0) := by decide +kernel
theorem mi_243_30 : mI 243 30 = (5, 0, 0, 0, 0) := by decide +kernel
theorem mi_243_31 : mI 243 31 = (3, 0, 1, 0, 0) := by decide +kernel
theorem mi_243_32 : mI 243 32 = (3, 0, 2, 0, 0) := by decide +kernel
theorem mi_243_33 : mI 243 33 = (26, 1456, 290, 205, 0) := by decide +kernel
theorem mi_243_36 : mI 243 36 = (16, 4, 0, 40, 0) := by decide +kernel
theorem mi_243_39 : mI 243 39 = (1, (-1), 0, 0, 0) := by decide +kernel
theorem mi_243_40 : mI 243 40 = (27, 0, 0, 0, 0) := by decide +kernel
theorem mi_244_0 : mI 244 0 = (5, 0, 0, 0, 0) := by decide +kernel
theorem mi_244_1 : mI 244 1 = (3, 0, 1, 0, 0) := by decide +kernel
theorem mi_244_2 : mI 244 2 = (26, 1448, 89, 199, 0) := by decide +kernel
theorem mi_244_5 : mI 244 5 = (14, 11, 0, 16, 0) := by decide +kernel
theorem mi_244_8 : mI 244 8 = (5, 0, 0, 0, 0) := by decide +kernel
theorem mi_244_9 : mI 244 9 = (3, 0, 1, 0, 0) := by decide +kernel
theorem mi_244_10 : mI 244 10 = (26, 1452, 93, 204, 0) := by decide +kernel
theorem mi_244_13 : mI 244 13 = (16, 5, 0, 18, 0) := by decide +kernel
theorem mi_244_16 : mI 244 16 = (1, (-2), 1, 0, 0) := by decide +kernel
theorem mi_244_18 : mI 244 18 = (27, 0, 0, 0, 0) := by decide +kernel
theorem mi_245_0 : mI 245 0 = (5, 0, 0, 0, 0) := by decide +kernel
theorem mi_245_1 : mI 245 1 = (3, 0, 1, 0, 0) := by decide +kernel
theorem mi_245_2 : mI 245 2 = (26, 1448, 89, 199, 0) := by decide +kernel
theorem mi_245_5 : mI 245 5 = (14, 15, 0, 20, 0) := by decide +kernel
theorem mi_245_8 : mI 245 8 = (3, 0, 2, 0, 0) := by decide +kernel
theorem mi_245_9 : mI 245 9 = (12, 0, 1, 0, 0) := by decide +kernel
theorem mi_245_10 : mI 245 10 = (2, 0, 0, 0, 0) := by decide +kernel
theorem mi_245_11 : mI 245 11 = (2, 2, 1, 83, 1320) := by decide +kernel
theorem mi_245_14 : mI 245 14 = (26, 1321, 85, 193, 1) := by decide +kernel
theorem mi_245_17 : mI 245 17 = (14, 6, 1, 23, 0) := by decide +kernel
theorem mi_245_20 : mI 245 20 = (1, (-2), 1, 0, 0) := by decide +kernel
theorem mi_245_22 : mI 245 22 = (27, 0, 0, 0, 0) := by decide +kernel
theorem mi_245_23 : mI 245 23 = (5, 0, 0, 0, 0) := by decide +kernel
theorem mi_245_24 : mI 245 24 = (17, 1207, 9, 11, 1) := by decide +kernel
theorem mi_245_27 : mI 245 27 = (3, 0, 2, 0, 0) := by decide +kernel
theorem mi_245_28 : mI 245 28 = (14, 8, 1, 36, 0) := by decide +kernel
theorem mi_245_31 : mI 245 31 = (1, 48, 1, 0, 0) := by decide +kernel
theorem mi_245_33 : mI 245 33 = (16, 15, 0, 48, 0) := by decide +kernel
theorem mi_245_36 : mI 245 36 = (3, 0, 2, 0, 0) := by decide +kernel
theorem mi_245_37 : mI 245 37 = (1, 1, 0, 0, 0) := by decide +kernel
theorem mi_245_38 : mI 245 38 = (15, 8, 1, 46, 0) := by decide +kernel
theorem mi_245_41 : mI 245 41 = (1, 54, 1, 0, 0) := by decide +kernel
theorem mi_245_43 : mI 245 43 = (16, 5, 0, 48, 0) := by decide +kernel
theorem mi_245_46 : mI 245 46 = (1, 60, 1, 0, 0) := by decide +kernel
theorem mi_245_48 : mI 245 48 = (3, 0, 1, 0, 0) := by decide +kernel
theorem mi_245_49 : mI 245 49 = (10, 0, 0, 0, 0) := by decide +kernel
theorem mi_245_50 : mI 245 50 = (19, 0, 0, 0, 0) := by decide +kernel
theorem mi_245_51 : mI 245 51 = (27, 0, 0, 0, 0) := by decide +kernel
theorem mi_246_0 : mI 246 0 = (5, 0, 0, 0, 0) := by decide +kernel
theorem mi_246_1 : mI 246 1 = (3, 0, 1, 0, 0) := by decide +kernel
theorem mi_246_2 : mI 246 2 = (26, 1448, 89, 199, 0) := by decide +kernel
theorem mi_246_5 : mI 246 5 = (14, 20, 0, 25, 0) := by decide +kernel
theorem mi_246_8 : mI 246 8 = (5, 0, 0, 0, 0) := by decide +kernel
theorem mi_246_9 : mI 246 9 = (3, 0, 2, 0, 0) := by decide +kernel
theorem mi_246_10 : mI 246 10 = (26, 1472, 293, 201, 0) := by decide +kernel
theorem mi_246_13 : mI 246 13 = (14, 12, 0, 25, 0) := by decide +kernel
theorem mi_246_16 : mI 246 16 = (5, 0, 0, 0, 0) := by decide +kernel
theorem mi_246_17 : mI 246 17 = (3, 0, 1, 0, 0) := by decide +kernel
theorem mi_246_18 : mI 246 18 = (3, 0, 2, 0, 0) := by decide +kernel
theorem mi_246_19 : mI 246 19 = (26, 1476, 267, 207, 0) := by decide +kernel
theorem mi_246_22 : mI 246 22 = (16, 5, 0, 27, 0) := by decide +kernel
theorem mi_246_25 : mI 246 25 = (1, (-2), 1, 0, 0) := by decide +kernel
theorem mi_246_27 : mI 246 27 = (27, 0, 0, 0, 0) := by decide +kernel
theorem mi_247_0 : mI 247 0 = (5, 0, 0, 0, 0) := by decide +kernel
theorem mi_247_1 : mI 247 1 = (3, 0, 1, 0, 0) := by decide +kernel
theorem mi_247_2 : mI 247 2 = (26, 1484, 296, 202, 0) := by decide +kernel
theorem mi_247_5 : mI 247 5 = (14, 24, 0, 29, 0) := by decide +kernel
theorem mi_247_8 : mI 247 8 = (3, 0, 2, 0, 0) := by decide +kernel
theorem mi_247_9 : mI 247 9 = (12, 0, 1, 0, 0) := by decide +kernel
theorem mi_247_10 : mI 247 10 = (2, 0, 0, 0, 0) := by decide +kernel
theorem mi_247_11 : mI 247 11 = (2, 3, 1, 299, 1488) := by decide +kernel
theorem mi_247_14 : mI 247 14 = (26, 1321, 85, 193, 1) := by decide +kernel
theorem mi_247_17 : mI 247 17 = (14, 12, 0, 29, 0) := by decide +kernel
theorem mi_247_20 : mI 247 20 = (5, 0, 0, 0, 0) := by decide +kernel
theorem mi_247_21 : mI 247 21 = (3, 0, 1, 0, 0) := by decide +kernel
theorem mi_247_22 : mI 247 22 = (3, 0, 2, 0, 0) := by decide +kernel
theorem mi_247_23 : mI 247 23 = (26, 1489, 258, 208, 0) := by decide +kernel
theorem mi_247_26 : mI 247 26 = (16, 5, 0, 31, 0) := by decide +kernel
theorem mi_247_29 : mI 247 29 = (1, (-2), 1, 0, 0) := by decide +kernel
theorem mi_247_31 : mI 247 31 = (27, 0, 0, 0, 0) := by decide +kernel
theorem mi_264_0 : mI 264 0 = (5, 0, 0, 0, 0) := by decide +kernel
theorem mi_264_1 : mI 264 1 = (3, 0, 1, 0, 0) := by decide +kernel
theorem mi_264_2 : mI 264 2 = (3, 0, 3, 0, 0) := by decide +kernel
theorem mi_264_3 : mI 264 3 = (26, 1476, 267, 207, 0) := by decide +kernel
theorem mi_264_6 : mI 264 6 = (5, 0, 0, 0, 0) := by decide +kernel
theorem mi_264_7 : mI 264 7 = (3, 0, 2, 0, 0) := by decide +kernel
theorem mi_264_8 : mI 264 8 = (3, 0, 3, 0, 0) := by decide +kernel
theorem mi_264_9 : mI 264 9 = (26, 1476, 267, 207, 0) := by decide +kernel
theorem mi_264_12 : mI 264 12 = (15, 7, 1, 19, 0) := by decide +kernel
theorem mi_264_15 : mI 264 15 = (1, 1, 0, 0, 0) := by decide +kernel
theorem mi_264_16 : mI 264 16 = (16, 4, 0, 20, 0) := by decide +kernel
theorem mi_264_19 : mI 264 19 = (1, 0, 0, 0, 0) := by decide +kernel
theorem mi_264_20 : mI 264 20 = (27, 0, 0, 0, 0) := by decide +kernel
theorem mi_291_0 : mI 291 0 = (5, 0, 0, 0, 0) := by decide +kernel
theorem mi_291_1 : mI 291 1 = (3, 0, 1, 0, 0) := by decide +kernel
theorem mi_291_2 : mI 291 2 = (26, 1448, 89, 199, 0) := by decide +kernel
theorem mi_291_5 : mI 291 5 = (14, 37, 0, 42, 0) := by decide +kernel
theorem mi_291_8 : mI 291 8 = (5, 0, 0, 0, 0) := by decide +kernel
theorem mi_291_9 : mI 291 9 = (3, 0, 2, 0, 0) := by decide +kernel
theorem mi_291_10 : mI 291 10 = (26, 1448, 89, 199, 0) := by decide +kernel
theorem mi_291_13 : mI 291 13 = (14, 29, 0, 42, 0) := by decide +kernel
theorem mi_291_16 : mI 291 16 = (3, 0, 3, 0, 0) := by decide +kernel
theorem mi_291_17 : mI 291 17 = (12, 0, 1, 0, 0) := by decide +kernel
theorem mi_291_18 : mI 291 18 = (2, 0, 0, 0, 0) := by decide +kernel
theorem mi_291_19 : mI 291 19 = (5, 0, 0, 0, 0) := by decide +kernel
theorem mi_291_20 : mI 291 20 = (3, 0, 2, 0, 0) := by decide +kernel
theorem mi_291_21 : mI 291 21 = (26, 1452, 93, 204, 0) := by decide +kernel
theorem mi_291_24 : mI 291 24 = (1, 1, 0, 0, 0) := by decide +kernel
theorem mi_291_25 : mI 291 25 = (10, 0, 1, 0, 0) := by decide +kernel
theorem mi_291_26 : mI 291 26 = (12, 0, 1, 0, 0) := by decide +kernel
theorem mi_291_27 : mI 291 27 = (26, 1321, 85, 193, 1) := by decide +kernel
theorem mi_291_30 : mI 291 30 = (14, 12, 0, 42, 0) := by decide +kernel
theorem mi_291_33 : mI 291 33 = (5, 0, 0, 0, 0) := by decide +kernel
theorem mi_291_34 : mI 291 34 = (3, 0, 4, 1, 0) := by decide +kernel
theorem mi_291_36 : mI 291 36 = (26, 1472, 293, 201, 0) := by decide +kernel
theorem mi_291_39 : mI 291 39 = (14, 6, 1, 45, 0) := by decide +kernel
theorem mi_291_42 : mI 291 42 = (1, (-2), 1, 0, 0) := by decide +kernel
theorem mi_291_44 : mI 291 44 = (27, 0, 0, 0, 0) := by decide +kernel
theorem mi_291_45 : mI 291 45 = (5, 0, 0, 0, 0) := by decide +kernel
theorem mi_291_46 : mI 291 46 = (17, 1207, 9, 11, 1) := by decide +kernel
theorem mi_291_49 : mI 291 49 = (1, 4, 0, 0, 0) := by decide +kernel
theorem mi_291_50 : mI 291 50 = (19, 0, 0, 0, 0) := by decide +kernel
theorem mi_291_51 : mI 291 51 = (1, 12, 1, 0, 0) := by decide +kernel
theorem mi_291_53 : mI 291 53 = (15, 6, 1, 59, 0) := by decide +kernel
theorem mi_291_56 : mI 291 56 = (1, (-3), 1, 0, 0) := by decide +kernel
theorem mi_291_58 : mI 291 58 = (27, 0, 0, 0, 0) := by decide +kernel
theorem mi_291_59 : mI 291 59 = (1, 246, 2, 0, 0) := by decide +kernel
theorem mi_291_62 : mI 291 62 = (1, 4, 0, 0, 0) := by decide +kernel
theorem mi_291_63 : mI 291 63 = (5, 0, 0, 0, 0) := by decide +kernel
theorem mi_291_64 : mI 291 64 = (17, 1207, 9, 11, 1) := by decide +kernel
theorem mi_291_67 : mI 291 67 = (1, 4, 0, 0, 0) := by decide +kernel
theorem mi_291_68 : mI 291 68 = (19, 0, 0, 0, 0) := by decide +kernel
theorem mi_291_69 : mI 291 69 = (10, 0, 2, 0, 0) := by decide +kernel
theorem mi_291_70 : mI 291 70 = (10, 0, 0, 0, 0) := by decide +kernel
theorem mi_291_71 : mI 291 71 = (6, 0, 5, 1, 0) := by decide +kernel
theorem mi_291_73 : mI 291 73 = (5, 0, 0, 0, 0) := by decide +kernel
theorem mi_291_74 : mI 291 74 = (17, 1207, 9, 11, 1) := by decide +kernel
theorem mi_291_77 : mI 291 77 = (3, 0, 5, 1, 0) := by decide +kernel
theorem mi_291_79 : mI 291 79 = (1, 0, 0, 0, 0) := by decide +kernel
theorem mi_291_80 : mI 291 80 = (10, 0, 0, 0, 0) := by decide +kernel
theorem mi_291_81 : mI 291 81 = (3, 0, 1, 0, 0) := by decide +kernel
theorem mi_291_82 : mI 291 82 = (20, 0, 0, 0, 0) := by decide +kernel
theorem mi_291_83 : mI 291 83 = (5, 0, 0, 0, 0) := by decide +kernel
theorem mi_291_84 : mI 291 84 = (17, 1207, 9, 11, 1) := by decide +kernel
theorem mi_291_87 : mI 291 87 = (3, 0, 5, 1, 0) := by decide +kernel
theorem mi_291_89 : mI 291 89 = (1, 1, 0, 0, 0) := by decide +kernel
theorem mi_291_90 : mI 291 90 = (10, 0, 0, 0, 0) := by decide +kernel
theorem mi_291_91 : mI 291 91 = (3, 0, 2, 0, 0) := by decide +kernel
theorem mi_291_92 : mI 291 92 = (20, 0, 0, 0, 0) := by decide +kernel
theorem mi_291_93 : mI 291 93 = (5, 0, 0, 0, 0) := by decide +kernel
theorem mi_291_94 : mI 291 94 = (17, 1207, 9, 11, 1) := by decide +kernel
theorem mi_291_97 : mI 291 97 = (3, 0, 5, 1, 0) := by decide +kernel
theorem mi_291_99 : mI 291 99 = (1, 2, 0, 0, 0) := by decide +kernel
theorem mi_291_100 : mI 291 100 = (10, 0, 0, 0, 0) := by decide +kernel
theorem mi_291_101 : mI 291 101 = (3, 0, 3, 0, 0) := by decide +kernel
theorem mi_291_102 : mI 291 102 = (20, 0, 0, 0, 0) := by decide +kernel
theorem mi_291_103 : mI 291 103 = (5, 0, 0, 0, 0) := by decide +kernel
theorem mi_291_104 : mI 291 104 = (17, 1207, 9, 11, 1) := by decide +kernel
theorem mi_291_107 : mI 291 107 = (3, 0, 5, 1, 0) := by decide +kernel
theorem mi_291_109 : mI 291 109 = (1, 3, 0, 0, 0) := by decide +kernel
theorem mi_291_110 : mI 291 110 = (10, 0, 0, 0, 0) := by decide +kernel
theorem mi_291_111 : mI 291 111 = (3, 0, 4, 1, 0) := by decide +kernel
theorem mi_291_113 : mI 291 113 = (20, 0, 0, 0, 0) := by decide +kernel
theorem mi_291_114 : mI 291 114 = (5, 0, 0, 0, 0) := by decide +kernel
theorem mi_291_115 : mI 291 115 = (17, 1207, 9, 11, 1) := by decide +kernel
theorem mi_291_118 : mI 291 118 = (1, 4, 0, 0, 0) := by decide +kernel
theorem mi_291_119 : mI 291 119 = (22, 0, 1, 0, 0) := by decide +kernel
theorem mi_291_120 : mI 291 120 = (19, 0, 0, 0, 0) := by decide +kernel
theorem mi_291_121 : mI 291 121 = (1, 1, 0, 0, 0) := by decide +kernel
theorem mi_291_122 : mI 291 122 = (10, 0, 0, 0, 0) := by decide +kernel
theorem mi_291_123 : mI 291 123 = (20, 0, 0, 0, 0) := by decide +kernel
theorem mi_291_124 : mI 291 124 = (5, 0, 0, 0, 0) := by decide +kernel
theorem mi_291_125 : mI 291 125 = (17, 1207, 9, 11, 1) := by decide +kernel
theorem mi_291_128 : mI 291 128 = (1, 4, 0, 0, 0) := by decide +kernel
theorem mi_291_129 : mI 291 129 = (19, 0, 0, 0, 0) := by decide +kernel
theorem mi_291_130 : mI 291 130 = (1, 1, 0, 0, 0) := by decide +kernel
theorem mi_291_131 : mI 291 131 = (10, 0, 1, 0, 0) := by decide +kernel
theorem mi_291_132 : mI 291 132 = (27, 0, 0, 0, 0) := by decide +kernel
theorem mi_292_0 : mI 292 0 = (5, 0, 0, 0, 0) := by decide +kernel
theorem mi_292_1 : mI 292 1 = (26, 1689, 350, 198, 0) := by decide +kernel
theorem mi_292_4 : mI 292 4 = (14, 6, 1, 10, 0) := by decide +kernel
theorem mi_292_7 : mI 292 7 = (1, (-2), 1, 0, 0) := by decide +kernel
theorem mi_292_9 : mI 292 9 = (27, 0, 0, 0, 0) := by decide +kernel
theorem mi_292_10 : mI 292 10 = (5, 0, 0, 0, 0) := by decide +kernel
theorem mi_292_11 : mI 292 11 = (17, 1207, 9, 11, 1) := by decide +kernel
theorem mi_292_14 : mI 292 14 = (1, 4, 0, 0, 0) := by decide +kernel
theorem mi_292_15 : mI 292 15 = (19, 0, 0, 0, 0) := by decide +kernel
theorem mi_292_16 : mI 292 16 = (14, 6, 1, 22, 0) := by decide +kernel
theorem mi_292_19 : mI 292 19 = (1, (-5), 1, 0, 0) := by decide +kernel
theorem mi_292_21 : mI 292 21 = (27, 0, 0, 0, 0) := by decide +kernel
theorem mi_292_22 : mI 292 22 = (5, 0, 0, 0, 0) := by decide +kernel
theorem mi_292_23 : mI 292 23 = (17, 1207, 9, 11, 1) := by decide +kernel
theorem mi_292_26 : mI 292 26 = (1, 4, 0, 0, 0) := by decide +kernel
theorem mi_292_27 : mI 292 27 = (22, 0, 1, 0, 0) := by decide +kernel
theorem mi_292_28 : mI 292 28 = (19, 0, 0, 0, 0) := by decide +kernel
theorem mi_292_29 : mI 292 29 = (1, 1, 0, 0, 0) := by decide +kernel
theorem mi_292_30 : mI 292 30 = (10, 0, 1, 0, 0) := by decide +kernel
theorem mi_292_31 : mI 292 31 = (20, 0, 0, 0, 0) := by decide +kernel
theorem mi_292_32 : mI 292 32 = (5, 0, 0, 0, 0) := by decide +kernel
theorem mi_292_33 : mI 292 33 = (17, 1207, 9, 11, 1) := by decide +kernel
theorem mi_292_36 : mI 292 36 = (1, 4, 0, 0, 0) := by decide +kernel
theorem mi_292_37 : mI 292 37 = (19, 0, 0, 0, 0) := by decide +kernel
theorem mi_292_38 : mI 292 38 = (27, 0, 0, 0, 0) := by decide +kernel
theorem mi_293_0 : mI 293 0 = (5, 0, 0, 0, 0) := by decide +kernel
theorem mi_293_1 : mI 293 1 = (3, 0, 1, 0, 0) := by decide +kernel
theorem mi_293_2 : mI 293 2 = (26, 1448, 89, 199, 0) := by decide +kernel
theorem mi_293_5 : mI 293 5 = (14, 29, 0, 34, 0) := by decide +kernel
theorem mi_293_8 : mI 293 8 = (3, 0, 2, 0, 0) := by decide +kernel
theorem mi_293_9 : mI 293 9 = (12, 0, 1, 0, 0) := by decide +kernel
theorem mi_293_10 : mI 293 10 = (2, 0, 0, 0, 0) := by decide +kernel
theorem mi_293_11 : mI 293 11 = (5, 0, 0, 0, 0) := by decide +kernel
theorem mi_293_12 : mI 293 12 = (17, 1207, 9, 11, 1) := by decide +kernel
theorem mi_293_15 : mI 293 15 = (1, 1, 0, 0, 0) := by decide +kernel
theorem mi_293_16 : mI 293 16 = (19, 0, 0, 0, 0) := by decide +kernel
theorem mi_293_17 : mI 293 17 = (1, 1, 0, 0, 0) := by decide +kernel
theorem mi_293_18 : mI 293 18 = (10, 0, 1, 0, 0) := by decide +kernel
theorem mi_293_19 : mI 293 19 = (12, 0, 1, 0, 0) := by decide +kernel
theorem mi_293_20 : mI 293 20 = (26, 1321, 85, 193, 1) := by decide +kernel
theorem mi_293_23 : mI 293 23 = (14, 11, 0, 34, 0) := by decide +kernel
theorem mi_293_26 : mI 293 26 = (5, 0, 0, 0, 0) := by decide +kernel
theorem mi_293_27 : mI 293 27 = (3, 0, 3, 0, 0) := by decide +kernel
theorem mi_293_28 : mI 293 28 = (26, 1472, 293, 201, 0) := by decide +kernel
theorem mi_293_31 : mI 293 31 = (14, 6, 1, 37, 0) := by decide +kernel
theorem mi_293_34 : mI 293 34 = (1, (-2), 1, 0, 0) := by decide +kernel
theorem mi_293_36 : mI 293 36 = (27, 0, 0, 0, 0) := by decide +kernel
theorem mi_293_37 : mI 293 37 = (5, 0, 0, 0, 0) := by decide +kernel
theorem mi_293_38 : mI 293 38 = (3, 0, 1, 0, 0) := by decide +kernel
theorem mi_293_39 : mI 293 39 = (3, 0, 3, 0, 0) := by decide +kernel
theorem mi_293_40 : mI 293 40 = (26, 1476, 267, 207, 0) := by decide +kernel
theorem mi_293_43 : mI 293 43 = (6, 0, 4, 1, 0) := by decide +kernel
theorem mi_293_45 : mI 293 45 = (5, 0, 0, 0, 0) := by decide +kernel
theorem mi_293_46 : mI 293 46 = (17, 1207, 9, 11, 1) := by decide +kernel
theorem mi_293_49 : mI 293 49 = (1, 102, 1, 0, 0) := by decide +kernel
theorem mi_293_51 : mI 293 51 = (1, 24, 1, 0, 0) := by decide +kernel
theorem mi_293_53 : mI 293 53 = (3, 0, 1, 0, 0) := by decide +kernel
theorem mi_293_54 : mI 293 54 = (10, 0, 2, 0, 0) := by decide +kernel
theorem mi_293_55 : mI 293 55 = (10, 0, 0, 0, 0) := by decide +kernel
theorem mi_293_56 : mI 293 56 = (3, 0, 3, 0, 0) := by decide +kernel
theorem mi_293_57 : mI 293 57 = (10, 0, 0, 0, 0) := by decide +kernel
theorem mi_293_58 : mI 293 58 = (3, 0, 2, 0, 0) := by decide +kernel
theorem mi_293_59 : mI 293 59 = (20, 0, 0, 0, 0) := by decide +kernel
theorem mi_293_60 : mI 293 60 = (3, 0, 4, 1, 0) := by decide +kernel
theorem mi_293_62 : mI 293 62 = (27, 0, 0, 0, 0) := by decide +kernel
theorem mi_294_0 : mI 294 0 = (5, 0, 0, 0, 0) := by decide +kernel
theorem mi_294_1 : mI 294 1 = (3, 0, 1, 0, 0) := by decide +kernel
theorem mi_294_2 : mI 294 2 = (3, 0, 2, 0, 0) := by decide +kernel
theorem mi_294_3 : mI 294 3 = (26, 1553, 304, 200, 0) := by decide +kernel
theorem mi_294_6 : mI 294 6 = (14, 31, 0, 37, 0) := by decide +kernel
theorem mi_294_9 : mI 294 9 = (3, 0, 3, 0, 0) := by decide +kernel
theorem mi_294_10 : mI 294 10 = (12, 0, 1, 0, 0) := by decide +kernel
theorem mi_294_11 : mI 294 11 = (2, 0, 0, 0, 0) := by decide +kernel
theorem mi_294_12 : mI 294 12 = (5, 0, 0, 0, 0) := by decide +kernel
theorem mi_294_13 : mI 294 13 = (3, 0, 2, 0, 0) := by decide +kernel
theorem mi_294_14 : mI 294 14 = (26, 1452, 93, 204, 0) := by decide +kernel
theorem mi_294_17 : mI 294 17 = (1, 1, 0, 0, 0) := by decide +kernel
theorem mi_294_18 : mI 294 18 = (10, 0, 1, 0, 0) := by decide +kernel
theorem mi_294_19 : mI 294 19 = (12, 0, 1, 0, 0) := by decide +kernel
theorem mi_294_20 : mI 294 20 = (26, 1321, 85, 193, 1) := by decide +kernel
theorem mi_294_23 : mI 294 23 = (14, 14, 0, 37, 0) := by decide +kernel
theorem mi_294_26 : mI 294 26 = (3, 0, 4, 1, 0) := by decide +kernel
theorem mi_294_28 : mI 294 28 = (12, 0, 1, 0, 0) := by decide +kernel
theorem mi_294_29 : mI 294 29 = (2, 0, 0, 0, 0) := by decide +kernel
theorem mi_294_30 : mI 294 30 = (2, 1, 0, 0, 0) := by decide +kernel
theorem mi_294_31 : mI 294 31 = (26, 1321, 85, 193, 1) := by decide +kernel
theorem mi_294_34 : mI 294 34 = (14, 6, 1, 40, 0) := by decide +kernel
theorem mi_294_37 : mI 294 37 = (1, (-2), 1, 0, 0) := by decide +kernel
theorem mi_294_39 : mI 294 39 = (27, 0, 0, 0, 0) := by decide +kernel
theorem mi_294_40 : mI 294 40 = (1, 66, 1, 0, 0) := by decide +kernel
theorem mi_294_42 : mI 294 42 = (1, 6, 1, 0, 0) := by decide +kernel
theorem mi_294_44 : mI 294 44 = (3, 0, 1, 0, 0) := by decide +kernel
theorem mi_294_45 : mI 294 45 = (10, 0, 2, 0, 0) := by decide +kernel
theorem mi_294_46 : mI 294 46 = (10, 0, 0, 0, 0) := by decide +kernel
theorem mi_294_47 : mI 294 47 = (3, 0, 2, 0, 0) := by decide +kernel
theorem mi_294_48 : mI 294 48 = (10, 0, 0, 0, 0) := by decide +kernel
theorem mi_294_49 : mI 294 49 = (6, 0, 5, 1, 0) := by decide +kernel
theorem mi_294_51 : mI 294 51 = (5, 0, 0, 0, 0) := by decide +kernel
theorem mi_294_52 : mI 294 52 = (17, 1207, 9, 11, 1) := by decide +kernel
theorem mi_294_55 : mI 294 55 = (3, 0, 5, 1, 0) := by decide +kernel
theorem mi_294_57 : mI 294 57 = (19, 0, 0, 0, 0) := by decide +kernel
theorem mi_294_58 : mI 294 58 = (3, 0, 3, 0, 0) := by decide +kernel
theorem mi_294_59 : mI 294 59 = (26, 1517, 255, 195, 1) := by decide +kernel
theorem mi_294_62 : mI 294 62 = (6, 0, 6, 1, 0) := by decide +kernel
theorem mi_294_64 : mI 294 64 = (5, 0, 0, 0, 0) := by decide +kernel
theorem mi_294_65 : mI 294 65 = (17, 1207, 9, 11, 1) := by decide +kernel
theorem mi_294_68 : mI 294 68 = (3, 0, 5, 1, 0) := by decide +kernel
theorem mi_294_70 : mI 294 70 = (5, 0, 0, 0, 0) := by decide +kernel
theorem mi_294_71 : mI 294 71 = (17, 1207, 9, 11, 1) := by decide +kernel
theorem mi_294_74 : mI 294 74 = (3, 0, 5, 1, 0) := by decide +kernel
theorem mi_294_76 : mI 294 76 = (19, 0, 0, 0, 0) := by decide +kernel
theorem mi_294_77 : mI 294 77 = (1, 1, 0, 0, 0) := by decide +kernel
theorem mi_294_78 : mI 294 78 = (3, 0, 3, 0, 0) := by decide +kernel
theorem mi_294_79 : mI 294 79 = (10, 0, 8, 0, 0) := by decide +kernel
theorem mi_294_80 : mI 294 80 = (1, (-1), 0, 0, 0) := by decide +kernel
theorem mi_294_81 : mI 294 81 = (10, 0, 7, 0, 0) := by decide +kernel
theorem mi_294_82 : mI 294 82 = (10, 0, 5, 0, 0) := by decide +kernel
theorem mi_294_83 : mI 294 83 = (3, 0, 4, 1, 0) := by decide +kernel
theorem mi_294_85 : mI 294 85 = (3, 0, 3, 0, 0) := by decide +kernel
theorem mi_294_86 : mI 294 86 = (10, 0, 8, 0, 0) := by decide +kernel
theorem mi_294_87 : mI 294 87 = (10, 0, 6, 0, 0) := by decide +kernel
theorem mi_294_88 : mI 294 88 = (20, 0, 0, 0, 0) := by decide +kernel
theorem mi_294_89 : mI 294 89 = (3, 0, 6, 1, 0) := by decide +kernel
theorem mi_294_91 : mI 294 91 = (27, 0, 0, 0, 0) := by decide +kernel
section XRA
variable {l : Launch} {D : va_G} {tys : List (ClassId × FieldType)} {A : Nat → Prop} {ad : Nat → Nat} {ws : va_W} {k d : Nat} {post : Option Value → va_W → Prop} {pc : Nat} {lv : List (Nat × Value)} {st : List Value} {a : Int} {x y z : Nat}
theorem ib0 {a b : Int} : ibF 0 (Int32.ofInt a) (Int32.ofInt b) = Int32.ofInt (a + b) := by show Int32.ofInt a + Int32.ofInt b = _; rw [← Int32.ofInt_add]
theorem ib1 {a b : Int} : ibF 1 (Int32.ofInt a) (Int32.ofInt b) = Int32.ofInt (a - b) := by show Int32.ofInt a - Int32.ofInt b = _; rw [← Int32.ofInt_sub]
theorem ib2 {a b : Int} : ibF 2 (Int32.ofInt a) (Int32.ofInt b) = Int32.ofInt (a * b) := by show Int32.ofInt a * Int32.ofInt b = _; rw [← Int32.ofInt_mul]
theorem ia2 {a b : Int} : Int32.ofInt a + Int32.ofInt b = Int32.ofInt (a + b) := by rw [← Int32.ofInt_add]
/-- an int of 32 bits -/
noncomputable abbrev I32 (v : Int) : Prop := -2147483648 ≤ v ∧ v ≤ 2147483647
theorem V_zeq {u : Int} (hi : mI k pc = (14, a, 0, y, z)) (b : I32 u) (kt : u = 0 → V l D tys A k d 0 0 post 0 0 y lv st ws) (kf : u ≠ 0 → V l D tys A k d 0 0 post 0 0 (pc + 3) lv st ws) : V l D tys A k d 0 0 post 0 0 pc lv (.int (Int32.ofInt u) :: st) ws := by
  have h : cdP 0 (Int32.ofInt u) 0 ↔ cdZ 0 (u - 0) := cdP_iff (b := 0) b.1 b.2 (by omega) (by omega)
  exact V_if hi (fun q => kt (by have : u - 0 = 0 := h.mp q; omega)) (fun q => kf (fun e => q (h.mpr (show u - 0 = 0 by omega))))
theorem V_zne {u : Int} (hi : mI k pc = (14, a, 1, y, z)) (b : I32 u) (kt : u ≠ 0 → V l D tys A k d 0 0 post 0 0 y lv st ws) (kf : u = 0 → V l D tys A k d 0 0 post 0 0 (pc + 3) lv st ws) : V l D tys A k d 0 0 post 0 0 pc lv (.int (Int32.ofInt u) :: st) ws := by
  have h : cdP 1 (Int32.ofInt u) 0 ↔ cdZ 1 (u - 0) := cdP_iff (b := 0) b.1 b.2 (by omega) (by omega)
  exact V_if hi (fun q => kt (by have : u - 0 ≠ 0 := h.mp q; omega)) (fun q => kf (by by_cases e : u = 0; exact e; exact absurd (h.mpr (show u - 0 ≠ 0 by omega)) q))
theorem V_zlt {u : Int} (hi : mI k pc = (14, a, 2, y, z)) (b : I32 u) (kt : u < 0 → V l D tys A k d 0 0 post 0 0 y lv st ws) (kf : 0 ≤ u → V l D tys A k d 0 0 post 0 0 (pc + 3) lv st ws) : V l D tys A k d 0 0 post 0 0 pc lv (.int (Int32.ofInt u) :: st) ws := by
  have h : cdP 2 (Int32.ofInt u) 0 ↔ cdZ 2 (u - 0) := cdP_iff (b := 0) b.1 b.2 (by omega) (by omega)
  exact V_if hi (fun q => kt (by have : u - 0 < 0 := h.mp q; omega)) (fun q => kf (by by_cases e : 0 ≤ u; exact e; exact absurd (h.mpr (show u - 0 < 0 by omega)) q))
theorem V_zle {u : Int} (hi : mI k pc = (14, a, 5, y, z)) (b : I32 u) (kt : u ≤ 0 → V l D tys A k d 0 0 post 0 0 y lv st ws) (kf : 0 < u → V l D tys A k d 0 0 post 0 0 (pc + 3) lv st ws) : V l D tys A k d 0 0 post 0 0 pc lv (.int (Int32.ofInt u) :: st) ws := by
  have h : cdP 5 (Int32.ofInt u) 0 ↔ cdZ 5 (u - 0) := cdP_iff (b := 0) b.1 b.2 (by omega) (by omega)
  exact V_if hi (fun q => kt (by have : u - 0 ≤ 0 := h.mp q; omega)) (fun q => kf (by by_cases e : 0 < u; exact e; exact absurd (h.mpr (show u - 0 ≤ 0 by omega)) q))
theorem V_ceq {u v : Int} (hi : mI k pc = (15, a, 0, y, z)) (b : I32 u) (c : I32 v) (kt : u = v → V l D tys A k d 0 0 post 0 0 y lv st ws) (kf : u ≠ v → V l D tys A k d 0 0 post 0 0 (pc + 3) lv st ws) : V l D tys A k d 0 0 post 0 0 pc lv (.int (Int32.ofInt v) :: .int (Int32.ofInt u) :: st) ws := by
  have h : cdP 0 (Int32.ofInt u) (Int32.ofInt v) ↔ cdZ 0 (u - v) := cdP_iff b.1 b.2 c.1 c.2
  exact V_icmp hi (fun q => kt (by have : u - v = 0 := h.mp q; omega)) (fun q => kf (fun e => q (h.mpr (show u - v = 0 by omega))))
theorem V_cne {u v : Int} (hi : mI k pc = (15, a, 1, y, z)) (b : I32 u) (c : I32 v) (kt : u ≠ v → V l D tys A k d 0 0 post 0 0 y lv st ws) (kf : u = v → V l D tys A k d 0 0 post 0 0 (pc + 3) lv st ws) : V l D tys A k d 0 0 post 0 0 pc lv (.int (Int32.ofInt v) :: .int (Int32.ofInt u) :: st) ws := by
  have h : cdP 1 (Int32.ofInt u) (Int32.ofInt v) ↔ cdZ 1 (u - v) := cdP_iff b.1 b.2 c.1 c.2
  exact V_icmp hi (fun q => kt (by have : u - v ≠ 0 := h.mp q; omega)) (fun q => kf (by by_cases e : u = v; exact e; exact absurd (h.mpr (show u - v ≠ 0 by omega)) q))
theorem V_clt {u v : Int} (hi : mI k pc = (15, a, 2, y, z)) (b : I32 u) (c : I32 v) (kt : u < v → V l D tys A k d 0 0 post 0 0 y lv st ws) (kf : v ≤ u → V l D tys A k d 0 0 post 0 0 (pc + 3) lv st ws) : V l D tys A k d 0 0 post 0 0 pc lv (.int (Int32.ofInt v) :: .int (Int32.ofInt u) :: st) ws := by
  have h : cdP 2 (Int32.ofInt u) (Int32.ofInt v) ↔ cdZ 2 (u - v) := cdP_iff b.1 b.2 c.1 c.2
  exact V_icmp hi (fun q => kt (by have : u - v < 0 := h.mp q; omega)) (fun q => kf (by by_cases e : v ≤ u; exact e; exact absurd (h.mpr (show u - v < 0 by omega)) q))
theorem V_cge {u v : Int} (hi : mI k pc = (15, a, 3, y, z)) (b : I32 u) (c : I32 v) (kt : v ≤ u → V l D tys A k d 0 0 post 0 0 y lv st ws) (kf : u < v → V l D tys A k d 0 0 post 0 0 (pc + 3) lv st ws) : V l D tys A k d 0 0 post 0 0 pc lv (.int (Int32.ofInt v) :: .int (Int32.ofInt u) :: st) ws := by
  have h : cdP 3 (Int32.ofInt u) (Int32.ofInt v) ↔ cdZ 3 (u - v) := cdP_iff b.1 b.2 c.1 c.2
  exact V_icmp hi (fun q => kt (by have : 0 ≤ u - v := h.mp q; omega)) (fun q => kf (by by_cases e : u < v; exact e; exact absurd (h.mpr (show 0 ≤ u - v by omega)) q))
theorem V_cgt {u v : Int} (hi : mI k pc = (15, a, 4, y, z)) (b : I32 u) (c : I32 v) (kt : v < u → V l D tys A k d 0 0 post 0 0 y lv st ws) (kf : u ≤ v → V l D tys A k d 0 0 post 0 0 (pc + 3) lv st ws) : V l D tys A k d 0 0 post 0 0 pc lv (.int (Int32.ofInt v) :: .int (Int32.ofInt u) :: st) ws := by
  have h : cdP 4 (Int32.ofInt u) (Int32.ofInt v) ↔ cdZ 4 (u - v) := cdP_iff b.1 b.2 c.1 c.2
  exact V_icmp hi (fun q => kt (by have : 0 < u - v := h.mp q; omega)) (fun q => kf (by by_cases e : u ≤ v; exact e; exact absurd (h.mpr (show 0 < u - v by omega)) q))
theorem V_cle {u v : Int} (hi : mI k pc = (15, a, 5, y, z)) (b : I32 u) (c : I32 v) (kt : u ≤ v → V l D tys A k d 0 0 post 0 0 y lv st ws) (kf : v < u → V l D tys A k d 0 0 post 0 0 (pc + 3) lv st ws) : V l D tys A k d 0 0 post 0 0 pc lv (.int (Int32.ofInt v) :: .int (Int32.ofInt u) :: st) ws := by
  have h : cdP 5 (Int32.ofInt u) (Int32.ofInt v) ↔ cdZ 5 (u - v) := cdP_iff b.1 b.2 c.1 c.2
  exact V_icmp hi (fun q => kt (by have : u - v ≤ 0 := h.mp q; omega)) (fun q => kf (by by_cases e : v < u; exact e; exact absurd (h.mpr (show u - v ≤ 0 by omega)) q))
theorem V_beq {b : Bool} (hi : mI k pc = (14, a, 0, y, z)) (kt : b = false → V l D tys A k d 0 0 post 0 0 y lv st ws) (kf : b = true → V l D tys A k d 0 0 post 0 0 (pc + 3) lv st ws) : V l D tys A k d 0 0 post 0 0 pc lv (.int (bI b) :: st) ws := by
  cases b
  · exact V_if hi (fun _ => kt rfl) (fun q => absurd (show (0 : Int32) = 0 from rfl) q)
  · exact V_if hi (fun q => absurd (show (1 : Int32) = 0 from q) (by decide)) (fun _ => kf rfl)
theorem V_bne {b : Bool} (hi : mI k pc = (14, a, 1, y, z)) (kt : b = true → V l D tys A k d 0 0 post 0 0 y lv st ws) (kf : b = false → V l D tys A k d 0 0 post 0 0 (pc + 3) lv st ws) : V l D tys A k d 0 0 post 0 0 pc lv (.int (bI b) :: st) ws := by
  cases b
  · exact V_if hi (fun q => absurd (show (0 : Int32) = 0 from rfl) q) (fun _ => kf rfl)
  · exact V_if hi (fun _ => kt rfl) (fun q => absurd (show (1 : Int32) ≠ 0 by decide) q)
/-- an object of the graph; a place of it that holds an int, a cell -/
noncomputable def gO (c ci nf : Nat) : Prop := ∃ s, GG[c]? = some ((0, ci, nf), s)
noncomputable def gOf (c ci nf i : Nat) (lo hi : Int) : Prop := ∃ s, GG[c]? = some ((0, ci, nf), s) ∧ segAt s i = some (0, lo, hi)
noncomputable def gOr (c ci nf i q : Nat) : Prop := ∃ s, GG[c]? = some ((0, ci, nf), s) ∧ segAt s i = some (2, ((q : Nat) : Int), ((q : Nat) : Int))
theorem V_gO {c ci nf i : Nat} {v : Value} (hi : mI k pc = (17, a, x, ci, i)) (hg : gO c ci nf) (hG : GOK ad tys GG ws) (hx : rd ws c i = some v) (kk : V l D tys A k d 0 0 post 0 0 (pc + 3) lv (v :: st) ws) : V l D tys A k d 0 0 post 0 0 pc lv (.ref (ad c) :: st) ws := by
  obtain ⟨s, e⟩ := hg
  exact V_getO hi hG e hx kk
theorem V_gR {c ci nf i q : Nat} (hi : mI k pc = (17, a, x, ci, i)) (hr : gOr c ci nf i q) (h2 : i < nf) (hG : GOK ad tys GG ws) (kk : V l D tys A k d 0 0 post 0 0 (pc + 3) lv (.ref (ad q) :: st) ws) : V l D tys A k d 0 0 post 0 0 pc lv (.ref (ad c) :: st) ws := by
  obtain ⟨s, e, hs⟩ := hr
  exact V_getO hi hG e (rrO e hs h2 hG) kk
theorem V_pO {c ci nf i : Nat} {lo hi : Int} {v : Int32} (hi0 : mI k pc = (18, a, x, ci, i)) (hs : gOf c ci nf i lo hi) (hn2 : i < nf) (hty : clTy ci i = .int) (hn : nfin ci i = true) (hG : GOK ad tys GG ws) (h1 : lo ≤ v.toInt) (h2 : v.toInt ≤ hi) (kk : ∀ w : va_W, GOK ad tys GG w → Upd1 ws w c i (.int v) → V l D tys A k d 0 0 post 0 0 (pc + 3) lv st w) : V l D tys A k d 0 0 post 0 0 pc lv (.int v :: .ref (ad c) :: st) ws := by
  obtain ⟨s, e, hs⟩ := hs
  exact V_putO hi0 hG e hs hn2 hty hn h1 h2 kk
theorem V_cO {c ci nf d' : Nat} {As : List Value} {post' : Option Value → va_W → Prop} (hi : mI k pc = (26, a, x, y, 0)) (hy : y < 352) (hk : mKind y = 0) (hci : mCi y = ci) (hcn : ci < 99) (hg : gO c ci nf) (hG : GOK ad tys GG ws) (hc : CT l D tys A y d' 0 0 (.ref (ad c) :: As) ws post') (hd : d' < d) (hn : As.length = mN y) (hst : (st.map fun v => v.category).sum ≤ 8) (kk : ∀ (r : Option Value) (ws' : va_W), post' r ws' → V l D tys A k d 0 0 post 0 0 (pc + 3) lv (r.toList ++ st) ws') : V l D tys A k d 0 0 post 0 0 pc lv (As.reverse ++ .ref (ad c) :: st) ws := by
  obtain ⟨s, e⟩ := hg
  exact V_callO hi hy hk hci hcn e hG hc hd hn hst kk
theorem celO {c ci nf j : Nat} {lo hi : Int} (hG : GOK ad tys GG ws) (hs : gOf c ci nf j lo hi) (hj : j < nf) : ∃ z : Int, rd ws c j = some (.int (Int32.ofInt z)) ∧ lo ≤ z ∧ z ≤ hi := by
  obtain ⟨s, hg, hs⟩ := hs
  obtain ⟨e, a1, a2, a3⟩ := hG c _ hg
  obtain ⟨fs, rfl, hl⟩ := a2
  have hv : fs[j]? = some fs[j] := List.getElem?_eq_getElem (by omega)
  obtain ⟨sp, q1, q2⟩ := a3 j _ hv
  rw [hs] at q1
  cases q1
  obtain ⟨z, z1, z2, z3⟩ := q2
  exact ⟨z, by rw [rd_at a1]; show fs[j]? = _; rw [hv, z1], z2, z3⟩
theorem g1o : gO 1 5 3 := ⟨_, rfl⟩
theorem g2o : gO 2 9 6 := ⟨_, rfl⟩
theorem g16o : gO 16 2 17 := ⟨_, rfl⟩
theorem g1r : gOr 1 5 3 0 2 := ⟨_, rfl, by decide +kernel⟩
theorem g1f1 : gOf 1 5 3 1 0 3 := ⟨_, rfl, by decide +kernel⟩
theorem g1f2 : gOf 1 5 3 2 (-1) 1401 := ⟨_, rfl, by decide +kernel⟩
theorem g16f0 : gOf 16 2 17 0 (-2147483648) 2147483647 := ⟨_, rfl, by decide +kernel⟩
theorem g16f1 : gOf 16 2 17 1 0 9 := ⟨_, rfl, by decide +kernel⟩
theorem g16f2 : gOf 16 2 17 2 0 4 := ⟨_, rfl, by decide +kernel⟩
theorem g16f3 : gOf 16 2 17 3 0 24 := ⟨_, rfl, by decide +kernel⟩
theorem g16f4 : gOf 16 2 17 4 0 6 := ⟨_, rfl, by decide +kernel⟩
theorem g16f5 : gOf 16 2 17 5 0 12 := ⟨_, rfl, by decide +kernel⟩
theorem g16r6 : gOr 16 2 17 6 17 := ⟨_, rfl, by decide +kernel⟩
theorem g16r7 : gOr 16 2 17 7 18 := ⟨_, rfl, by decide +kernel⟩
theorem g16r8 : gOr 16 2 17 8 19 := ⟨_, rfl, by decide +kernel⟩
theorem g16r9 : gOr 16 2 17 9 20 := ⟨_, rfl, by decide +kernel⟩
theorem g16r10 : gOr 16 2 17 10 21 := ⟨_, rfl, by decide +kernel⟩
theorem g16r11 : gOr 16 2 17 11 22 := ⟨_, rfl, by decide +kernel⟩
theorem g16r12 : gOr 16 2 17 12 23 := ⟨_, rfl, by decide +kernel⟩
theorem g16r13 : gOr 16 2 17 13 24 := ⟨_, rfl, by decide +kernel⟩
theorem g16r14 : gOr 16 2 17 14 25 := ⟨_, rfl, by decide +kernel⟩
theorem g16r15 : gOr 16 2 17 15 26 := ⟨_, rfl, by decide +kernel⟩
theorem g16r16 : gOr 16 2 17 16 27 := ⟨_, rfl, by decide +kernel⟩
theorem g2f2 : gOf 2 9 6 2 0 4 := ⟨_, rfl, by decide +kernel⟩
theorem g2f3 : gOf 2 9 6 3 0 1401 := ⟨_, rfl, by decide +kernel⟩
theorem g2f4 : gOf 2 9 6 4 0 1401 := ⟨_, rfl, by decide +kernel⟩
theorem g2f5 : gOf 2 9 6 5 (-2147483648) 2147483647 := ⟨_, rfl, by decide +kernel⟩
end XRA
section XRB
variable {l : Launch} {D : va_G} {tys : List (ClassId × FieldType)} {A : Nat → Prop} {ad : Nat → Nat} {ws : va_W}
/-- the token that the class's reader looks at -/
noncomputable def XW (n : Nat) (w : va_W) (K : Int) (S E : Nat) (N : Int) : Prop := (rd w 2 2 = some (.int (Int32.ofInt K)) ∧ rd w 2 3 = some (.int (Int32.ofInt (S : Int))) ∧ rd w 2 4 = some (.int (Int32.ofInt (E : Int))) ∧ rd w 2 5 = some (.int (Int32.ofInt N))) ∧ (0 ≤ K ∧ K ≤ 4) ∧ (S ≤ E ∧ E ≤ n) ∧ I32 N
/-- it is the token of s; it stands behind E, and the token of s comes next -/
noncomputable def XTA (s : TS) (K : Int) (S E : Nat) (N : Int) : Prop := K = s.1.1 ∧ S = s.1.2.1 ∧ E = s.1.2.2.1 ∧ (K = 2 → 0 ≤ N ∧ min 99999 N = s.1.2.2.2)
noncomputable def XTB (B : Nat → Int) (n : Nat) (s : TS) (E : Nat) : Prop := s.1.1 = tkK B n E ∧ s.1.2.1 = tkI B n E ∧ s.1.2.2.1 = tkE B n E ∧ (s.1.1 = 2 → s.1.2.2.2 = numS B n 1401 (tkI B n E) 0)
noncomputable def XF (s : TS) (w : va_W) : Prop := rd w 1 1 = some (.int (Int32.ofInt s.2.1)) ∧ rd w 1 2 = some (.int (Int32.ofInt s.2.2)) ∧ 0 ≤ s.2.1 ∧ s.2.1 ≤ 3
noncomputable def XA (ad : Nat → Nat) (tys : List (ClassId × FieldType)) (n : Nat) (B : Nat → Int) (s : TS) (w : va_W) : Prop := GOK ad tys GG w ∧ TXX w n B ∧ tsOK n s ∧ XF s w ∧ ∃ K S E N, XW n w K S E N ∧ (s.2.1 = 0 → XTA s K S E N)
noncomputable def XB (ad : Nat → Nat) (tys : List (ClassId × FieldType)) (n : Nat) (B : Nat → Int) (s : TS) (w : va_W) : Prop := GOK ad tys GG w ∧ TXX w n B ∧ tsOK n s ∧ XF s w ∧ ∃ K S E N, XW n w K S E N ∧ (s.2.1 = 0 → XTB B n s E)
noncomputable def XMK (w0 w : va_W) : Prop := ∀ c j, ¬ ((c = 2 ∧ 2 ≤ j ∧ j ≤ 5) ∨ (c = 1 ∧ 1 ≤ j ∧ j ≤ 2)) → rd w c j = rd w0 c j
theorem XMK_rf {w : va_W} : XMK w w := fun _ _ _ => rfl
theorem XMK_1 {w0 w w' : va_W} {j : Nat} {v : Value} (h : XMK w0 w) (hu : Upd1 w w' 1 j v) (h1 : 1 ≤ j) (h2 : j ≤ 2) : XMK w0 w' := fun c' j' hn => (upd_ne hu (fun q => hn (Or.inr ⟨q.1, by omega, by omega⟩))).trans (h c' j' hn)
theorem XMK_txo {w0 w w' : va_W} (h : XMK w0 w) (hu : TXO w w') : XMK w0 w' := fun c' j' hn => (hu c' j' (fun q => hn (Or.inl q))).trans (h c' j' hn)
theorem tkV_2 {B : Nat → Int} {n a : Nat} {v : Int} (h : tkK B n a = 2) : tkV B n a v = numS B n 1401 (tkI B n a) 0 := by
  unfold tkK at h
  unfold tkV
  split at h
  · exact absurd h (by decide)
  · next h1 =>
    rw [if_neg h1]
    split at h
    · exact absurd h (by decide)
    · next h2 =>
      rw [if_neg h2]
      split at h
      · next h3 => rw [if_pos h3]
      · split at h <;> exact absurd h (by decide)
/-- looked at, so it stands behind the token, and what comes next is what M has next -/
theorem XB_adv {n : Nat} {B : Nat → Int} {s : TS} {w : va_W} (h : XA ad tys n B s w) : XB ad tys n B (advS B n s) w := by
  obtain ⟨G, T, ok, F, K, S, E, N, W, t⟩ := h
  refine ⟨G, T, adv_OK ok, F, K, S, E, N, W, fun q => ?_⟩
  obtain ⟨-, -, t3, -⟩ := t q
  rw [t3]
  exact ⟨rfl, rfl, rfl, fun q2 => tkV_2 q2⟩
theorem XB_bad {n : Nat} {B : Nat → Int} {s : TS} {w : va_W} (h : XA ad tys n B s w) (hb : ¬ s.2.1 = 0) : XB ad tys n B s w := by
  obtain ⟨G, T, ok, F, K, S, E, N, W, t⟩ := h
  exact ⟨G, T, ok, F, K, S, E, N, W, fun q => absurd q hb⟩
/-- another token, once there is a fault -/
theorem XA_bad {n : Nat} {B : Nat → Int} {s : TS} {w : va_W} (h : XA ad tys n B s w) (hb : ¬ s.2.1 = 0) {t : TS} (ht : tsOK n t) (e : t.2 = s.2) : XA ad tys n B t w := by
  obtain ⟨G, T, ok, F, K, S, E, N, W, tt⟩ := h
  refine ⟨G, T, ht, ?_, K, S, E, N, W, fun q => absurd (e ▸ q) hb⟩
  unfold XF
  rw [e]
  exact F
theorem numXS_bd {B : Nat → Int} {E : Nat} : ∀ {f i : Nat} {v : Int}, (∀ j, i ≤ j → j < E → 48 ≤ B j ∧ B j ≤ 57) → 0 ≤ v → v ≤ 10000000 → 0 ≤ numXS B E f i v ∧ numXS B E f i v ≤ 10000000
  | 0, i, v, _, h0, h1 => ⟨h0, h1⟩
  | f + 1, i, v, hb, h0, h1 => by
    unfold numXS
    split
    · next hd =>
      have := hb i (Nat.le_refl _) hd.1
      exact numXS_bd (fun j a b => hb j (by omega) b) (by omega) (by omega)
    · exact ⟨h0, h1⟩
/-- the class's number of a token against the reference's -/
theorem tkN_ok {B : Nat → Int} {n a : Nat} {v : Int} {w : va_W} (T : TXX w n B) (ha : a ≤ n) (hv : I32 v) : I32 (tkN B n a v) ∧ (tkK B n a = 2 → 0 ≤ tkN B n a v ∧ min 99999 (tkN B n a v) = numS B n 1401 (tkI B n a) 0) := by
  have n14 := T.2.1
  by_cases hC : tkC B n a = -1
  · have e1 : tkN B n a v = v := by unfold tkN; rw [if_pos hC]
    have e2 : tkK B n a = 0 := by unfold tkK; rw [if_pos hC]
    rw [e1, e2]
    exact ⟨hv, fun q => absurd q (by decide)⟩
  by_cases hL : leB (tkC B n a) = true
  · have e1 : tkN B n a v = v := by unfold tkN; rw [if_neg hC, if_pos hL]
    have e2 : tkK B n a = 1 := by unfold tkK; rw [if_neg hC, if_pos hL]
    rw [e1, e2]
    exact ⟨hv, fun q => absurd q (by decide)⟩
  by_cases hD : diB (tkC B n a) = true
  · have e1 : tkN B n a v = numXS B (tkE B n a) 1401 (tkI B n a) 0 := by unfold tkN; rw [if_neg hC, if_neg hL, if_pos hD]
    have e2 : tkE B n a = runS diB B n 1401 (tkI B n a) := by unfold tkE; rw [if_neg hC, if_neg hL, if_pos hD]
    have iI : tkI B n a < n := see_lt hC
    have hE : tkE B n a ≤ n := by rw [e2]; exact run_le (by decide) (by omega)
    have hI : tkI B n a ≤ tkE B n a := by rw [e2]; exact run_ge
    have all : ∀ j, tkI B n a ≤ j → j < tkE B n a → diB (seeS B n j) = true := fun j h1 h2 => (run_all (by decide) (f := 1401) (Nat.le_of_lt iI) (by omega) h1 (by rw [e2] at h2; exact h2)).1
    have he : diB (seeS B n (tkE B n a)) = false := by rw [e2]; exact run_end (by decide) (by omega) (by omega)
    have r := num_rel T.2.2 hE he 1401 1401 (tkI B n a) 0 (by omega) (by omega) hI (by omega) all
    have b := numXS_bd (B := B) (E := tkE B n a) (f := 1401) (i := tkI B n a) (v := 0) (fun j h1 h2 => by have := dig_b T.2.2 (by omega) (all j h1 h2); omega) (by omega) (by omega)
    rw [e1]
    exact ⟨⟨by omega, by omega⟩, fun _ => ⟨r.2, r.1⟩⟩
  · have e1 : tkN B n a v = v := by unfold tkN; rw [if_neg hC, if_neg hL, if_neg hD]
    have e2 : ¬ tkK B n a = 2 := by
      unfold tkK
      rw [if_neg hC, if_neg hL, if_neg hD]
      split <;> decide
    rw [e1]
    exact ⟨hv, fun q => absurd q e2⟩
theorem advx_ct {n : Nat} {B : Nat → Int} {s : TS} {w0 : va_W} (h : XB ad tys n B s ws) (O : XMK w0 ws) : CT l D tys A 188 1 0 0 [.ref (ad 2)] ws (fun r w => r = none ∧ XA ad tys n B s w ∧ XMK w0 w) := by
  obtain ⟨G, T, ok, F, K, S, E, N, ⟨⟨w2, w3, w4, w5⟩, wk, we, wn⟩, t⟩ := h
  refine CT_post (adx_ct G T we.2 w4 w5) ?_
  rintro r w ⟨rfl, G1, O1, k2, k3, k4, k5⟩
  obtain ⟨n1, n2⟩ := tkN_ok T we.2 wn
  obtain ⟨t1, t2, -⟩ := tk_bd (B := B) (n := n) (a := E) (v := N) we.2 wn.1 wn.2
  refine ⟨rfl, ⟨G1, ⟨(O1 _ _ (by omega)).trans T.1, T.2.1, fun k hk => ⟨(O1 _ _ (by omega)).trans (T.2.2 k hk).1, (T.2.2 k hk).2⟩⟩, ok, ⟨(O1 _ _ (by omega)).trans F.1, (O1 _ _ (by omega)).trans F.2.1, F.2.2⟩, _, _, _, _, ⟨⟨k2, k3, k4, k5⟩, t1, t2.2, n1⟩, fun q => ?_⟩, XMK_txo O O1⟩
  obtain ⟨q1, q2, q3, q4⟩ := t q
  refine ⟨q1.symm, q2.symm, q3.symm, fun k => ?_⟩
  rw [q4 (q1.trans k)]
  exact n2 k
theorem num2_K {lo hi : Int} {s : TS} (h : s.2.1 = 0 → s.1.1 ≠ 2) : num2 lo hi s = errS 1 s := by
  by_cases g : s.2.1 = 0
  · have e : num1 s = errS 1 s := by unfold num1; rw [if_pos ⟨g, h g⟩]
    unfold num2
    rw [e, if_neg (fun q => err_ok (e := 1) (s := s) (by decide) q.1)]
  · have e : num1 s = s := by unfold num1; rw [if_neg (fun q => g q.1)]
    unfold num2 errS
    rw [e, if_neg (fun q => g q.1), if_neg g]
theorem num2_R {lo hi : Int} {s : TS} (h : s.2.1 = 0 → s.1.1 = 2 ∧ ¬ (lo ≤ s.1.2.2.2 ∧ s.1.2.2.2 ≤ hi)) : num2 lo hi s = errS 2 s := by
  have e : num1 s = s := by unfold num1; rw [if_neg (fun q => q.2 (h q.1).1)]
  unfold num2
  rw [e]
  by_cases g : s.2.1 = 0
  · rw [if_pos ⟨g, (h g).2⟩]
  · rw [if_neg (fun q => g q.1)]
    unfold errS
    rw [if_neg g]
theorem num2_G {lo hi : Int} {s : TS} (h : s.2.1 = 0 → s.1.1 = 2 ∧ (lo ≤ s.1.2.2.2 ∧ s.1.2.2.2 ≤ hi)) : num2 lo hi s = s := by
  have e : num1 s = s := by unfold num1; rw [if_neg (fun q => q.2 (h q.1).1)]
  unfold num2
  rw [e, if_neg (fun q => q.2 (h q.1).2)]
theorem num2_ok {lo hi : Int} {s : TS} (h : (num2 lo hi s).2.1 = 0) : s.2.1 = 0 ∧ s.1.1 = 2 ∧ (lo ≤ s.1.2.2.2 ∧ s.1.2.2.2 ≤ hi) ∧ numR lo hi s = s.1.2.2.2 ∧ num2 lo hi s = s := by
  have h0 : s.2.1 = 0 := by
    by_cases g : s.2.1 = 0
    · exact g
    · rw [num2_K (fun q => absurd q g)] at h
      exact absurd h (err_ok (by decide))
  have h1 : s.1.1 = 2 := by
    by_cases g : s.1.1 = 2
    · exact g
    · rw [num2_K (fun _ => g)] at h
      exact absurd h (err_ok (by decide))
  have h2 : lo ≤ s.1.2.2.2 ∧ s.1.2.2.2 ≤ hi := by
    by_cases g : lo ≤ s.1.2.2.2 ∧ s.1.2.2.2 ≤ hi
    · exact g
    · rw [num2_R (fun _ => ⟨h1, g⟩)] at h
      exact absurd h (err_ok (by decide))
  have e : num2 lo hi s = s := num2_G (fun _ => ⟨h1, h2⟩)
  refine ⟨h0, h1, h2, ?_, e⟩
  unfold numR
  rw [if_pos h, e]
theorem numR_bad {lo hi : Int} {s : TS} (h : ¬ (num2 lo hi s).2.1 = 0) : numR lo hi s = 0 := by
  unfold numR
  rw [if_neg h]
theorem numT_2 {B : Nat → Int} {n : Nat} {lo hi : Int} {s : TS} : numT B n lo hi s = if (num2 lo hi s).2.1 = 0 then advS B n (num2 lo hi s) else num2 lo hi s := rfl
/-- behind a number -/
theorem XB_num {n : Nat} {B : Nat → Int} {s : TS} {w : va_W} {lo hi : Int} (h : XA ad tys n B (num2 lo hi s) w) : XB ad tys n B (numT B n lo hi s) w := by
  rw [numT_2]
  split
  · exact XB_adv h
  · next q => exact XB_bad h q
/-- looked at a word -/
noncomputable def wordS (B : Nat → Int) (n : Nat) (cs : List Int32) (s : TS) : TS := if isSp B n cs s = true then s else errS 1 s
theorem XB_word {n : Nat} {B : Nat → Int} {s : TS} {w : va_W} {cs : List Int32} (h : XA ad tys n B (wordS B n cs s) w) : XB ad tys n B (needS B n cs s) w := by
  unfold wordS at h
  unfold needS
  by_cases q : isSp B n cs s = true
  · rw [if_pos q] at h ⊢
    exact XB_adv h
  · rw [if_neg q] at h ⊢
    exact XB_bad h (err_ok (by decide))
theorem num2_cg {lo hi hi' : Int} {s : TS} (h : s.2.1 = 0 → hi = hi') : num2 lo hi s = num2 lo hi' s ∧ numR lo hi s = numR lo hi' s := by
  by_cases g : s.2.1 = 0
  · rw [h g]
    exact ⟨rfl, rfl⟩
  · have e : ∀ v, num2 lo v s = errS 1 s := fun v => num2_K (fun q => absurd q g)
    have b : ¬ (errS 1 s).2.1 = 0 := err_ok (by decide)
    refine ⟨by rw [e, e], ?_⟩
    rw [numR_bad (by rw [e]; exact b), numR_bad (by rw [e]; exact b)]
end XRB
section XRC
variable {l : Launch} {D : va_G} {tys : List (ClassId × FieldType)} {A : Nat → Prop} {ad : Nat → Nat} {ws : va_W}
/-- where the class keeps what the reference keeps at j: a cell behind its hill's first, and a place in it -/
noncomputable def hxC (j : Nat) : Nat := if j < 6 then 0 else if j < 48 then (if (j - 6) % 7 = 0 then 1 else 2) else if j < 54 then 3 else if j < 60 then 4 else if j < 66 then 5 else if j < 102 then 7 else if j < 246 then 6 else 8 + (j - 246) % 4
noncomputable def hxI (j : Nat) : Nat := if j < 6 then (if j = 5 then 0 else j + 1) else if j < 48 then (if (j - 6) % 7 = 0 then (j - 6) / 7 else 6 * ((j - 6) / 7) + (j - 6) % 7 - 1) else if j < 54 then j - 48 else if j < 60 then j - 54 else if j < 66 then j - 60 else if j < 102 then j - 66 else if j < 246 then j - 102 else (j - 246) / 4
noncomputable def hxJ (c i : Nat) : Nat := if c = 0 then (if i = 0 then 5 else i - 1) else if c = 1 then 6 + 7 * i else if c = 2 then 7 + 7 * (i / 6) + i % 6 else if c = 3 then 48 + i else if c = 4 then 54 + i else if c = 5 then 60 + i else if c = 7 then 66 + i else if c = 6 then 102 + i else 246 + 4 * i + (c - 8)
theorem hxJ_all : (List.range 294).all (fun j => decide (hxJ (hxC j) (hxI j) = j) && decide (hxC j < 12)) = true := by decide +kernel
theorem hxJ_j {j : Nat} (h : j < 294) : hxJ (hxC j) (hxI j) = j ∧ hxC j < 12 := by
  have q := List.all_eq_true.mp hxJ_all j (List.mem_range.mpr h)
  rw [Bool.and_eq_true, decide_eq_true_eq, decide_eq_true_eq] at q
  exact q
noncomputable def HX (c : Nat) (g : Nat → Int) (w : va_W) : Prop := ∀ j, j < 294 → rd w (c + hxC j) (hxI j) = some (.int (Int32.ofInt (g j)))
theorem HX_upd {c j : Nat} {g : Nat → Int} {z : Int} {w w' : va_W} (h : HX c g w) (hj : j < 294) (U : Upd1 w w' (c + hxC j) (hxI j) (.int (Int32.ofInt z))) : HX c (updI g j z) w' := by
  intro i hi
  unfold updI
  by_cases e : i = j
  · rw [if_pos e, e]
    exact upd_eq U
  · rw [if_neg e]
    refine (upd_ne U (fun q => e ?_)).trans (h i hi)
    rw [← (hxJ_j hi).1, ← (hxJ_j hj).1, Nat.add_left_cancel q.1, q.2]
theorem HX_keep {c : Nat} {g : Nat → Int} {w w' : va_W} (h : HX c g w) (o : ∀ c' i, c ≤ c' → c' < c + 12 → rd w' c' i = rd w c' i) : HX c g w' := fun j hj => (o _ _ (by omega) (by have := (hxJ_j hj).2; omega)).trans (h j hj)
theorem HX_eq {c : Nat} {g g' : Nat → Int} {w : va_W} (h : HX c g w) (e : ∀ j, j < 294 → g j = g' j) : HX c g' w := fun j hj => by rw [← e j hj]; exact h j hj
/-- what the reference keeps in two rows, as one -/
noncomputable def fx (fr td : Nat → Int) (j : Nat) : Int := if 102 ≤ j ∧ j < 246 then td (j - 102) else fr j
theorem fx_upd {fr td : Nat → Int} {j : Nat} {z : Int} (h : ¬ (102 ≤ j ∧ j < 246)) : updI (fx fr td) j z = fx (updI fr j z) td := by
  funext i
  show (if i = j then z else (if 102 ≤ i ∧ i < 246 then td (i - 102) else fr i)) = (if 102 ≤ i ∧ i < 246 then td (i - 102) else (if i = j then z else fr i))
  by_cases e : i = j
  · rw [if_pos e, if_neg (by omega), if_pos e]
  · rw [if_neg e, if_neg e]
theorem fx_td {fr td : Nat → Int} {j : Nat} {z : Int} (h : j < 144) : updI (fx fr td) (102 + j) z = fx fr (updI td j z) := by
  funext i
  show (if i = 102 + j then z else (if 102 ≤ i ∧ i < 246 then td (i - 102) else fr i)) = (if 102 ≤ i ∧ i < 246 then (if i - 102 = j then z else td (i - 102)) else fr i)
  by_cases e : i = 102 + j
  · rw [if_pos e, if_pos (by omega), if_pos (by omega)]
  · rw [if_neg e]
    split
    · rw [if_neg (by omega)]
    · rfl
noncomputable def XM3 (w0 w : va_W) : Prop := ∀ c j, ¬ ((c = 2 ∧ 2 ≤ j ∧ j ≤ 5) ∨ (c = 1 ∧ 1 ≤ j ∧ j ≤ 2) ∨ (16 ≤ c ∧ c ≤ 27)) → rd w c j = rd w0 c j
noncomputable def frOK (fr : Nat → Int) : Prop := ∀ j, j < 294 → (0 ≤ fr j ∧ fr j ≤ 4095) ∧ (60 ≤ j ∧ j < 102 → fr j ≤ 127)
noncomputable def tdOK (td : Nat → Int) : Prop := ∀ j, j < 144 → -1 ≤ td j ∧ td j ≤ 3
/-- the class has read the same so far, unless there is a fault -/
noncomputable def XR (fr td : Nat → Int) (w0 : va_W) (s : TS) (w : va_W) : Prop := (s.2.1 = 0 → HX 16 (fx fr td) w ∧ frOK fr ∧ tdOK td) ∧ XM3 w0 w
theorem XR_of {fr td : Nat → Int} {w0 w w2 : va_W} {s s2 : TS} (q : XR fr td w0 s w) (O : XMK w w2) (m : s2.2.1 = 0 → s.2.1 = 0) : XR fr td w0 s2 w2 := by
  refine ⟨fun g => ?_, fun c j hn => (O c j (fun e => hn (by omega))).trans (q.2 c j hn)⟩
  obtain ⟨a, b⟩ := q.1 (m g)
  exact ⟨HX_keep a (fun c' i h1 h2 => O c' i (by omega)), b⟩
theorem XR_put {fr td : Nat → Int} {w0 w w' : va_W} {s : TS} {c j : Nat} {z : Int} (q : XR fr td w0 s w) (o : ∀ c' i, c' ≠ c → rd w' c' i = rd w c' i) (c0 : 16 ≤ c) (c1 : c ≤ 27) (u : s.2.1 = 0 → (j < 294 ∧ ¬ (102 ≤ j ∧ j < 246)) ∧ c = 16 + hxC j ∧ Upd1 w w' c (hxI j) (.int (Int32.ofInt z)) ∧ (0 ≤ z ∧ z ≤ 4095) ∧ (60 ≤ j ∧ j < 102 → z ≤ 127)) : XR (updI fr j z) td w0 s w' := by
  refine ⟨fun g => ?_, fun c' i hn => (o c' i (fun e => hn (by omega))).trans (q.2 c' i hn)⟩
  obtain ⟨a, b1, b2⟩ := q.1 g
  obtain ⟨⟨u1, u2⟩, rfl, u3, z0, z1⟩ := u g
  refine ⟨?_, fun i hi => ?_, b2⟩
  · rw [← fx_upd u2]
    exact HX_upd a u1 u3
  · unfold updI
    split
    · next e => rw [e]; exact ⟨z0, z1⟩
    · exact b1 i hi
theorem XR_ptd {fr td : Nat → Int} {w0 w w' : va_W} {s : TS} {j : Nat} {z : Int} (q : XR fr td w0 s w) (o : ∀ c' i, c' ≠ 22 → rd w' c' i = rd w c' i) (u : s.2.1 = 0 → j < 144 ∧ Upd1 w w' 22 j (.int (Int32.ofInt z)) ∧ -1 ≤ z ∧ z ≤ 3) : XR fr (updI td j z) w0 s w' := by
  refine ⟨fun g => ?_, fun c' i hn => (o c' i (fun e => hn (by omega))).trans (q.2 c' i hn)⟩
  obtain ⟨a, b1, b2⟩ := q.1 g
  obtain ⟨u1, u3, z0, z1⟩ := u g
  refine ⟨?_, b1, fun i hi => ?_⟩
  · rw [← fx_td u1]
    refine HX_upd a (by omega) ?_
    have e1 : hxC (102 + j) = 6 := by
      unfold hxC
      rw [if_neg (by omega), if_neg (by omega), if_neg (by omega), if_neg (by omega), if_neg (by omega), if_neg (by omega), if_pos (by omega)]
    have e2 : hxI (102 + j) = j := by
      unfold hxI
      rw [if_neg (by omega), if_neg (by omega), if_neg (by omega), if_neg (by omega), if_neg (by omega), if_neg (by omega), if_pos (by omega)]
      omega
    rw [e1, e2]
    exact u3
  · unfold updI
    split
    · exact ⟨z0, z1⟩
    · exact b2 i hi
theorem XR_cg {fr fr' td td' : Nat → Int} {w0 w : va_W} {s : TS} (q : XR fr td w0 s w) (e : s.2.1 = 0 → fr = fr' ∧ td = td') : XR fr' td' w0 s w := by
  refine ⟨fun g => ?_, q.2⟩
  obtain ⟨rfl, rfl⟩ := e g
  exact q.1 g
theorem XA_keep {n : Nat} {B : Nat → Int} {s : TS} {w w' : va_W} (h : XA ad tys n B s w) (G : GOK ad tys GG w') (o : ∀ c i, c ≤ 3 → rd w' c i = rd w c i) : XA ad tys n B s w' := by
  obtain ⟨-, T, ok, F, K, S, E, N, ⟨⟨w2, w3, w4, w5⟩, W⟩, t⟩ := h
  exact ⟨G, ⟨(o _ _ (by omega)).trans T.1, T.2.1, fun k hk => ⟨(o _ _ (by omega)).trans (T.2.2 k hk).1, (T.2.2 k hk).2⟩⟩, ok, ⟨(o _ _ (by omega)).trans F.1, (o _ _ (by omega)).trans F.2.1, F.2.2⟩, K, S, E, N, ⟨⟨(o _ _ (by omega)).trans w2, (o _ _ (by omega)).trans w3, (o _ _ (by omega)).trans w4, (o _ _ (by omega)).trans w5⟩, W⟩, t⟩
/-- a row of ints of the graph, all of one span -/
noncomputable def gA (c n : Nat) (lo hi : Int) : Prop := ∃ s, GG[c]? = some ((1, 0, n), s) ∧ ∀ j, j < n → segAt s j = some (0, lo, hi)
theorem gA_of {c n : Nat} {lo hi : Int} (h : GG[c]? = some ((1, 0, n), [(n, 0, lo, hi)])) : gA c n lo hi := by
  refine ⟨_, h, fun j hj => ?_⟩
  show (bif Nat.blt j n then some _ else _) = _
  rw [show Nat.blt j n = true from Nat.blt_eq.mpr hj]
  rfl
theorem a17 : gA 17 6 0 7 := gA_of rfl
theorem a18 : gA 18 36 (-2147483648) 2147483647 := gA_of rfl
theorem a19 : gA 19 6 (-2147483648) 2147483647 := gA_of rfl
theorem a20 : gA 20 6 (-2147483648) 2147483647 := gA_of rfl
theorem a21 : gA 21 6 (-2147483648) 2147483647 := gA_of rfl
theorem a22 : gA 22 144 (-2147483648) 2147483647 := gA_of rfl
theorem a23 : gA 23 36 (-2147483648) 2147483647 := gA_of rfl
theorem a24 : gA 24 12 (-2147483648) 2147483647 := gA_of rfl
theorem a25 : gA 25 12 (-2147483648) 2147483647 := gA_of rfl
theorem a26 : gA 26 12 (-2147483648) 2147483647 := gA_of rfl
theorem a27 : gA 27 12 (-2147483648) 2147483647 := gA_of rfl
theorem i32b (v : Int32) : -2147483648 ≤ v.toInt ∧ v.toInt ≤ 2147483647 := by
  have h1 := Int32.le_toInt v
  have h2 := Int32.toInt_lt v
  omega
/-- a row written, wherever -/
theorem putx_ct {c n : Nat} {lo hi : Int} {ix v : Int32} (hg : gA c n lo hi) (hG : GOK ad tys GG ws) (hn : n ≤ 100000) (b1 : lo ≤ v.toInt) (b2 : v.toInt ≤ hi) : CT l D tys A 148 0 0 0 [.ref (ad c), .int ix, .int v] ws (fun r w => r = none ∧ GOK ad tys GG w ∧ (∀ c' i, c' ≠ c → rd w c' i = rd ws c' i) ∧ (∀ j : Nat, j < n → ix = Int32.ofInt (j : Int) → Upd1 ws w c j (.int v))) := by
  obtain ⟨segs, hg, hs⟩ := hg
  have ib := i32b ix
  have out : ¬ (0 ≤ ix.toInt ∧ ix.toInt < n) → ∀ j : Nat, j < n → ix = Int32.ofInt (j : Int) → Upd1 ws ws c j (.int v) := by
    intro q j hj e
    have t : (Int32.ofInt (j : Int)).toInt = (j : Int) := Int32.toInt_ofInt_of_le (by omega) (by omega)
    rw [← e] at t
    omega
  have e0 : ix = Int32.ofInt ix.toInt := (Int32.ofInt_toInt ix).symm
  rw [e0]
  refine CT_of_V (by omega) (show (3 : Nat) ≤ mML 148 by decide +kernel) ?_
  refine V_iload (v := Int32.ofInt ix.toInt) mi_148_0 (List.Mem.tail _ (List.Mem.head _)) ?_
  refine V_zlt mi_148_1 ib (fun q => V_retV mi_148_14 ⟨rfl, hG, fun _ _ _ => rfl, by rw [← e0]; exact out (by omega)⟩) (fun q => ?_)
  refine V_iload (v := Int32.ofInt ix.toInt) mi_148_4 (List.Mem.tail _ (List.Mem.head _)) ?_
  refine V_aload (v := ad c) mi_148_5 (List.Mem.head _) ?_
  refine V_lenA mi_148_6 hG hg ?_
  refine V_cge mi_148_7 ib ⟨by omega, by omega⟩ (fun q => V_retV mi_148_14 ⟨rfl, hG, fun _ _ _ => rfl, by rw [← e0]; exact out (by omega)⟩) (fun q2 => ?_)
  refine V_aload (v := ad c) mi_148_10 (List.Mem.head _) ?_
  refine V_iload (v := Int32.ofInt ix.toInt) mi_148_11 (List.Mem.tail _ (List.Mem.head _)) ?_
  refine V_iload (v := v) mi_148_12 (List.Mem.tail _ (List.Mem.tail _ (List.Mem.head _))) ?_
  refine V_astX (j := ix.toInt.toNat) mi_148_13 (by rw [Int.toNat_of_nonneg q]) hG hg (by omega) hn (hs _ (by omega)) b1 b2 (fun w1 G1 U1 => ?_)
  refine V_retV mi_148_14 ⟨rfl, G1, fun c' i h => upd_ne U1 (fun e => h e.1), fun j hj e => ?_⟩
  have t : (Int32.ofInt (j : Int)).toInt = (j : Int) := Int32.toInt_ofInt_of_le (by omega) (by omega)
  rw [← e, ← e0] at t
  rw [show j = ix.toInt.toNat by omega]
  exact U1
/-- a row read, wherever -/
theorem atx_ct {c n : Nat} {lo hi : Int} {ix : Int32} (hg : gA c n lo hi) (hG : GOK ad tys GG ws) (hn : n ≤ 100000) : CT l D tys A 147 0 0 0 [.ref (ad c), .int ix] ws (fun r w => w = ws ∧ ∃ v : Int32, r = some (.int v) ∧ (∀ j : Nat, j < n → ix = Int32.ofInt (j : Int) → rd ws c j = some (.int v))) := by
  obtain ⟨segs, hg, hs⟩ := hg
  have ib := i32b ix
  have e0 : ix = Int32.ofInt ix.toInt := (Int32.ofInt_toInt ix).symm
  have out : ∀ v : Int32, ¬ (0 ≤ ix.toInt ∧ ix.toInt < n) → ∀ j : Nat, j < n → Int32.ofInt ix.toInt = Int32.ofInt (j : Int) → rd ws c j = some (.int v) := by
    intro v q j hj e
    have t : (Int32.ofInt (j : Int)).toInt = (j : Int) := Int32.toInt_ofInt_of_le (by omega) (by omega)
    rw [← e, ← e0] at t
    omega
  rw [e0]
  refine CT_of_V (by omega) (show (2 : Nat) ≤ mML 147 by decide +kernel) ?_
  have fin : ¬ (0 ≤ ix.toInt ∧ ix.toInt < n) → V l D tys A 147 0 0 0 (fun r w => w = ws ∧ ∃ v : Int32, r = some (.int v) ∧ (∀ j : Nat, j < n → Int32.ofInt ix.toInt = Int32.ofInt (j : Int) → rd ws c j = some (.int v))) 0 0 16 (lv_args 0 [.ref (ad c), .int (Int32.ofInt ix.toInt)]) [] ws := fun q => by
    refine V_ipush mi_147_16 ?_
    exact V_retI mi_147_17 (fun h => absurd h (by decide +kernel)) ⟨rfl, _, rfl, out _ q⟩
  refine V_iload (v := Int32.ofInt ix.toInt) mi_147_0 (List.Mem.tail _ (List.Mem.head _)) ?_
  refine V_zlt mi_147_1 ib (fun q => fin (by omega)) (fun q => ?_)
  refine V_iload (v := Int32.ofInt ix.toInt) mi_147_4 (List.Mem.tail _ (List.Mem.head _)) ?_
  refine V_aload (v := ad c) mi_147_5 (List.Mem.head _) ?_
  refine V_lenA mi_147_6 hG hg ?_
  refine V_cge mi_147_7 ib ⟨by omega, by omega⟩ (fun q2 => fin (by omega)) (fun q2 => ?_)
  refine V_aload (v := ad c) mi_147_10 (List.Mem.head _) ?_
  refine V_iload (v := Int32.ofInt ix.toInt) mi_147_11 (List.Mem.tail _ (List.Mem.head _)) ?_
  obtain ⟨z, hz, -, -⟩ := cel hG hg (j := ix.toInt.toNat) (by omega) (hs _ (by omega))
  refine V_aldX (j := ix.toInt.toNat) mi_147_12 (by rw [Int.toNat_of_nonneg q]) hG hg (by omega) hn hz ?_
  refine V_goto mi_147_13 ?_
  refine V_retI mi_147_17 (fun h => absurd h (by decide +kernel)) ⟨rfl, _, rfl, fun j hj e => ?_⟩
  have t : (Int32.ofInt (j : Int)).toInt = (j : Int) := Int32.toInt_ofInt_of_le (by omega) (by omega)
  rw [← e, ← e0] at t
  rw [show j = ix.toInt.toNat by omega]
  exact hz
end XRC
section XRE
variable {l : Launch} {D : va_G} {tys : List (ClassId × FieldType)} {A : Nat → Prop} {ad : Nat → Nat} {ws : va_W}
theorem failx_ct {n : Nat} {B : Nat → Int} {s : TS} {w0 : va_W} {e : Int} (h : XA ad tys n B s ws) (O : XMK w0 ws) (e1 : 1 ≤ e) (e3 : e ≤ 3) : CT l D tys A 146 0 0 0 [.ref (ad 1), .int (Int32.ofInt (e))] ws (fun r w => r = none ∧ XA ad tys n B (errS e s) w ∧ XMK w0 w) := by
  obtain ⟨G, T, ok, F, K, S, E, N, ⟨⟨w2, w3, w4, w5⟩, wk, we, wn⟩, t⟩ := id h
  have F3 := F.2.2
  refine CT_of_V (by omega) (show (2 : Nat) ≤ mML 146 by decide +kernel) ?_
  refine V_aload (v := ad 1) mi_146_0 (by simp [stL, lv_args, Value.category]) ?_
  refine V_gO mi_146_1 g1o h.1 (F.1) ?_
  refine V_zne mi_146_4 ⟨by omega, by omega⟩ (fun q => ?_) (fun q => ?_)
  · have e1 : errS e s = s := by unfold errS; rw [if_neg q]
    rw [e1]
    exact V_retV mi_146_23 ⟨rfl, h, O⟩
  · have te : (Int32.ofInt e).toInt = e := Int32.toInt_ofInt_of_le (by omega) (by omega)
    refine V_aload (v := ad 1) mi_146_7 (by simp [stL, lv_args, Value.category]) ?_
    refine V_iload (v := Int32.ofInt (e)) mi_146_8 (by simp [stL, lv_args, Value.category]) ?_
    refine V_pO mi_146_9 g1f1 (by omega) (by decide +kernel) (by decide +kernel) h.1 (by omega) (by omega) (fun w1 G1 U1 => ?_)
    refine V_aload (v := ad 1) mi_146_12 (by simp [stL, lv_args, Value.category]) ?_
    refine V_aload (v := ad 1) mi_146_13 (by simp [stL, lv_args, Value.category]) ?_
    refine V_gR mi_146_14 g1r (by omega) G1 ?_
    refine V_gO mi_146_17 g2o G1 ((upd_ne U1 (by omega)).trans w3) ?_
    have n14 := T.2.1
    have tS : (Int32.ofInt (S : Int)).toInt = (S : Int) := Int32.toInt_ofInt_of_le (by omega) (by omega)
    refine V_pO mi_146_20 g1f2 (by omega) (by decide +kernel) (by decide +kernel) G1 (by omega) (by omega) (fun w2' G2 U2 => ?_)
    have o : ∀ c i, ¬ (c = 1 ∧ 1 ≤ i ∧ i ≤ 2) → rd w2' c i = rd ws c i := fun c i h1 => (upd_ne U2 (fun q => h1 (by omega))).trans (upd_ne U1 (fun q => h1 (by omega)))
    have e1 : errS e s = (s.1, (e, (s.1.2.1 : Int))) := by unfold errS; rw [if_pos q]
    rw [e1]
    obtain ⟨t1, t2, t3, t4⟩ := t q
    refine V_retV mi_146_23 ⟨rfl, ⟨G2, ⟨(o _ _ (by omega)).trans T.1, T.2.1, fun k hk => ⟨(o _ _ (by omega)).trans (T.2.2 k hk).1, (T.2.2 k hk).2⟩⟩, ⟨ok.1, ok.2.1, ok.2.2.1, by show 0 ≤ e; omega, e3⟩, ⟨(upd_ne U2 (by omega)).trans (upd_eq U1), ?_, by show 0 ≤ e; omega, e3⟩, K, S, E, N, ⟨⟨(o _ _ (by omega)).trans w2, (o _ _ (by omega)).trans w3, (o _ _ (by omega)).trans w4, (o _ _ (by omega)).trans w5⟩, wk, we, wn⟩, fun q => ⟨t1, t2, t3, t4⟩⟩, XMK_1 (XMK_1 O U1 (by omega) (by omega)) U2 (by omega) (by omega)⟩
    rw [← t2]
    exact upd_eq U2
theorem nh_46 {n : Nat} {B : Nat → Int} {s : TS} {w0 w : va_W} {lo hi : Int} (hh : hi ≤ 99998) (h : XA ad tys n B (num2 lo hi s) w) (O : XMK w0 w) : V l D tys A 143 1 0 0 (fun r w => r = some (.int (Int32.ofInt (numR lo hi s))) ∧ XA ad tys n B (num2 lo hi s) w ∧ XMK w0 w) 0 0 46 (lv_args 0 [.ref (ad 1), .int (Int32.ofInt (lo)), .int (Int32.ofInt (hi))]) [] w := by
  obtain ⟨G, T, ok, F, K, S, E, N, ⟨⟨w2, w3, w4, w5⟩, wk, we, wn⟩, t⟩ := id h
  have F3 := F.2.2
  refine V_aload (v := ad 1) mi_143_46 (by simp [stL, lv_args, Value.category]) ?_
  refine V_gO mi_143_47 g1o h.1 (F.1) ?_
  refine V_zne mi_143_50 ⟨by omega, by omega⟩ (fun q => ?_) (fun q => ?_)
  · refine V_ipush mi_143_63 ?_
    exact V_retI mi_143_64 (fun q => absurd q (by decide +kernel)) ⟨by rw [numR_bad q], h, O⟩
  · refine V_aload (v := ad 1) mi_143_53 (by simp [stL, lv_args, Value.category]) ?_
    refine V_gR mi_143_54 g1r (by omega) h.1 ?_
    refine V_gO mi_143_57 g2o h.1 (w5) ?_
    refine V_goto mi_143_60 ?_
    obtain ⟨n1, n2, n3, n4, n5⟩ := num2_ok q
    obtain ⟨t1, t2, t3, t4⟩ := t q
    rw [n5] at t1 t4
    obtain ⟨t5, t6⟩ := t4 (t1.trans n2)
    have e : N = numR lo hi s := by omega
    exact V_retI mi_143_64 (fun q => absurd q (by decide +kernel)) ⟨by rw [e], h, O⟩
theorem numx_ct {n : Nat} {B : Nat → Int} {s : TS} {w0 : va_W} {lo hi : Int} (lI : I32 lo) (hI : I32 hi) (hh : hi ≤ 99998) (h : XA ad tys n B s ws) (O : XMK w0 ws) : CT l D tys A 143 1 0 0 [.ref (ad 1), .int (Int32.ofInt (lo)), .int (Int32.ofInt (hi))] ws (fun r w => r = some (.int (Int32.ofInt (numR lo hi s))) ∧ XA ad tys n B (num2 lo hi s) w ∧ XMK w0 w) := by
  obtain ⟨G, T, ok, F, K, S, E, N, ⟨⟨w2, w3, w4, w5⟩, wk, we, wn⟩, t⟩ := id h
  refine CT_of_V (by omega) (show (3 : Nat) ≤ mML 143 by decide +kernel) ?_
  refine V_aload (v := ad 1) mi_143_0 (by simp [stL, lv_args, Value.category]) ?_
  refine V_gR mi_143_1 g1r (by omega) h.1 ?_
  refine V_gO mi_143_4 g2o h.1 (w2) ?_
  refine V_ipush mi_143_7 ?_
  refine V_ceq mi_143_8 ⟨by omega, by omega⟩ ⟨by omega, by omega⟩ (fun q => ?_) (fun q => ?_)
  · refine V_aload (v := ad 1) mi_143_19 (by simp [stL, lv_args, Value.category]) ?_
    refine V_gR mi_143_20 g1r (by omega) h.1 ?_
    refine V_gO mi_143_23 g2o h.1 (w5) ?_
    refine V_iload (v := Int32.ofInt (lo)) mi_143_26 (by simp [stL, lv_args, Value.category]) ?_
    refine V_clt mi_143_27 wn lI (fun q2 => ?_) (fun q2 => ?_)
    · refine V_aload (v := ad 1) mi_143_41 (by simp [stL, lv_args, Value.category]) ?_
      refine V_ipush mi_143_42 ?_
      refine V_cO (As := [.int (Int32.ofInt (2))]) (st := []) mi_143_43 (by omega) (by decide +kernel) (by decide +kernel) (by omega) g1o h.1 (failx_ct h O (by omega) (by omega)) (by omega) (show 1 = mN 146 by decide +kernel) (by simp [Value.category]) ?_
      rintro r w1 ⟨rfl, h1, O1⟩
      refine nh_46 hh ?_ O1
      rw [num2_R (fun g => ⟨(t g).1 ▸ q, fun r => by obtain ⟨t1, t2, t3, t4⟩ := t g; obtain ⟨t5, t6⟩ := t4 q; omega⟩)]
      exact h1
    · refine V_aload (v := ad 1) mi_143_30 (by simp [stL, lv_args, Value.category]) ?_
      refine V_gR mi_143_31 g1r (by omega) h.1 ?_
      refine V_gO mi_143_34 g2o h.1 (w5) ?_
      refine V_iload (v := Int32.ofInt (hi)) mi_143_37 (by simp [stL, lv_args, Value.category]) ?_
      refine V_cle mi_143_38 wn hI (fun q3 => ?_) (fun q3 => ?_)
      · refine nh_46 hh ?_ O
        rw [num2_G (fun g => ⟨(t g).1 ▸ q, by obtain ⟨t1, t2, t3, t4⟩ := t g; obtain ⟨t5, t6⟩ := t4 q; omega⟩)]
        exact h
      · refine V_aload (v := ad 1) mi_143_41 (by simp [stL, lv_args, Value.category]) ?_
        refine V_ipush mi_143_42 ?_
        refine V_cO (As := [.int (Int32.ofInt (2))]) (st := []) mi_143_43 (by omega) (by decide +kernel) (by decide +kernel) (by omega) g1o h.1 (failx_ct h O (by omega) (by omega)) (by omega) (show 1 = mN 146 by decide +kernel) (by simp [Value.category]) ?_
        rintro r w1 ⟨rfl, h1, O1⟩
        refine nh_46 hh ?_ O1
        rw [num2_R (fun g => ⟨(t g).1 ▸ q, fun r => by obtain ⟨t1, t2, t3, t4⟩ := t g; obtain ⟨t5, t6⟩ := t4 q; omega⟩)]
        exact h1
  · refine V_aload (v := ad 1) mi_143_11 (by simp [stL, lv_args, Value.category]) ?_
    refine V_ipush mi_143_12 ?_
    refine V_cO (As := [.int (Int32.ofInt (1))]) (st := []) mi_143_13 (by omega) (by decide +kernel) (by decide +kernel) (by omega) g1o h.1 (failx_ct h O (by omega) (by omega)) (by omega) (show 1 = mN 146 by decide +kernel) (by simp [Value.category]) ?_
    rintro r w1 ⟨rfl, h1, O1⟩
    refine V_goto mi_143_16 ?_
    refine nh_46 hh ?_ O1
    rw [num2_K (fun g => (t g).1 ▸ q)]
    exact h1
theorem expx_ct {n : Nat} {B : Nat → Int} {s : TS} {w0 : va_W} {lo hi : Int} (lI : I32 lo) (hI : I32 hi) (hh : hi ≤ 99998) (h : XB ad tys n B s ws) (O : XMK w0 ws) : CT l D tys A 141 2 0 0 [.ref (ad 1), .int (Int32.ofInt (lo)), .int (Int32.ofInt (hi))] ws (fun r w => r = some (.int (Int32.ofInt (numR lo hi s))) ∧ XA ad tys n B (num2 lo hi s) w ∧ XMK w0 w) := by
  refine CT_of_V (by omega) (show (3 : Nat) ≤ mML 141 by decide +kernel) ?_
  refine V_aload (v := ad 1) mi_141_0 (by simp [stL, lv_args, Value.category]) ?_
  refine V_gR mi_141_1 g1r (by omega) h.1 ?_
  refine V_cO (As := []) (st := []) mi_141_4 (by omega) (by decide +kernel) (by decide +kernel) (by omega) g2o h.1 (advx_ct h O) (by omega) (show 0 = mN 188 by decide +kernel) (by simp [Value.category]) ?_
  rintro r w ⟨rfl, h, O⟩
  refine V_aload (v := ad 1) mi_141_7 (by simp [stL, lv_args, Value.category]) ?_
  refine V_iload (v := Int32.ofInt (lo)) mi_141_8 (by simp [stL, lv_args, Value.category]) ?_
  refine V_iload (v := Int32.ofInt (hi)) mi_141_9 (by simp [stL, lv_args, Value.category]) ?_
  refine V_cO (As := [.int (Int32.ofInt (lo)), .int (Int32.ofInt (hi))]) (st := []) mi_141_10 (by omega) (by decide +kernel) (by decide +kernel) (by omega) g1o h.1 (numx_ct lI hI hh h O) (by omega) (show 2 = mN 143 by decide +kernel) (by simp [Value.category]) ?_
  rintro r w ⟨rfl, h, O⟩
  exact V_retI mi_141_13 (fun q => absurd q (by decide +kernel)) ⟨rfl, h, O⟩
noncomputable def xw (i : Nat) : List Int32 := (xsT.getD i ("", 0, "", [])).2.2.2
theorem wordx_ct {n : Nat} {B : Nat → Int} {s : TS} {i : Nat} (hi : i < 24) (h : XA ad tys n B s ws) : CT l D tys A 191 4 0 0 [.ref (ad 2), .ref (D.2 1000 i)] ws (fun r w => w = ws ∧ ∃ b, r = some (.int (bI b)) ∧ (s.2.1 = 0 → b = isSp B n (xw i) s)) := by
  obtain ⟨G, T, ok, F, K, S, E, N, ⟨⟨w2, w3, w4, w5⟩, wk, we, wn⟩, t⟩ := id h
  obtain ⟨p1, p2, -⟩ := xq hi
  have n14 := T.2.1
  refine CT_post (isw_ct p1 p2 G T w2 wk.1 wk.2 w3 w4 (by omega) we.1) ?_
  rintro r w ⟨rfl, rfl⟩
  refine ⟨rfl, _, rfl, fun g => ?_⟩
  obtain ⟨t1, t2, t3, -⟩ := t g
  unfold isSp isB iwB
  rw [t1, t2, t3, decide_eq_true g, Bool.true_and]
  rfl
theorem ewx_ct {n : Nat} {B : Nat → Int} {s : TS} {w0 : va_W} {i : Nat} (hi : i < 24) (h : XB ad tys n B s ws) (O : XMK w0 ws) : CT l D tys A 144 5 0 0 [.ref (ad 1), .ref (D.2 1000 i)] ws (fun r w => r = none ∧ XA ad tys n B (wordS B n (xw i) s) w ∧ XMK w0 w) := by
  refine CT_of_V (by omega) (show (2 : Nat) ≤ mML 144 by decide +kernel) ?_
  refine V_aload (v := ad 1) mi_144_0 (by simp [stL, lv_args, Value.category]) ?_
  refine V_gR mi_144_1 g1r (by omega) h.1 ?_
  refine V_cO (As := []) (st := []) mi_144_4 (by omega) (by decide +kernel) (by decide +kernel) (by omega) g2o h.1 (advx_ct h O) (by omega) (show 0 = mN 188 by decide +kernel) (by simp [Value.category]) ?_
  rintro r w ⟨rfl, h, O⟩
  refine V_aload (v := ad 1) mi_144_7 (by simp [stL, lv_args, Value.category]) ?_
  refine V_gR mi_144_8 g1r (by omega) h.1 ?_
  refine V_aload (v := D.2 1000 i) mi_144_11 (by simp [stL, lv_args, Value.category]) ?_
  refine V_cO (As := [.ref (D.2 1000 i)]) (st := []) mi_144_12 (by omega) (by decide +kernel) (by decide +kernel) (by omega) g2o h.1 (wordx_ct hi h) (by omega) (show 1 = mN 191 by decide +kernel) (by simp [Value.category]) ?_
  rintro r w1 ⟨rfl, b, rfl, hb⟩
  refine V_bne mi_144_15  (fun q => ?_) (fun q => ?_)
  · refine V_retV mi_144_23 ⟨rfl, ?_, O⟩
    unfold wordS
    by_cases g : s.2.1 = 0
    · rw [if_pos ((hb g).symm.trans q)]
      exact h
    · rw [show errS 1 s = s by unfold errS; rw [if_neg g], ite_self]
      exact h
  · refine V_aload (v := ad 1) mi_144_18 (by simp [stL, lv_args, Value.category]) ?_
    refine V_ipush mi_144_19 ?_
    refine V_cO (As := [.int (Int32.ofInt (1))]) (st := []) mi_144_20 (by omega) (by decide +kernel) (by decide +kernel) (by omega) g1o h.1 (failx_ct h O (by omega) (by omega)) (by omega) (show 1 = mN 146 by decide +kernel) (by simp [Value.category]) ?_
    rintro r w1 ⟨rfl, h1, O1⟩
    refine V_retV mi_144_23 ⟨rfl, ?_, O1⟩
    unfold wordS
    by_cases g : s.2.1 = 0
    · rw [if_neg (by rw [← hb g, q]; exact Bool.false_ne_true)]
      exact h1
    · rw [show errS 1 s = s by unfold errS; rw [if_neg g]] at h1 ⊢
      rw [ite_self]
      exact h1
noncomputable def signS (s : TS) : TS := if s.2.1 = 0 ∧ s.1.1 ≠ 3 then errS 1 s else s
theorem signx_ct {n : Nat} {B : Nat → Int} {s : TS} {w0 : va_W} (h : XA ad tys n B s ws) (O : XMK w0 ws) : CT l D tys A 145 1 0 0 [.ref (ad 1)] ws (fun r w => r = none ∧ XA ad tys n B (signS s) w ∧ XMK w0 w) := by
  obtain ⟨G, T, ok, F, K, S, E, N, ⟨⟨w2, w3, w4, w5⟩, wk, we, wn⟩, t⟩ := id h
  refine CT_of_V (by omega) (show (1 : Nat) ≤ mML 145 by decide +kernel) ?_
  refine V_aload (v := ad 1) mi_145_0 (by simp [stL, lv_args, Value.category]) ?_
  refine V_gR mi_145_1 g1r (by omega) h.1 ?_
  refine V_gO mi_145_4 g2o h.1 (w2) ?_
  refine V_ipush mi_145_7 ?_
  refine V_ceq mi_145_8 ⟨by omega, by omega⟩ ⟨by omega, by omega⟩ (fun q => ?_) (fun q => ?_)
  · refine V_retV mi_145_16 ⟨rfl, ?_, O⟩
    unfold signS
    rw [if_neg (fun g => g.2 ((t g.1).1 ▸ q))]
    exact h
  · refine V_aload (v := ad 1) mi_145_11 (by simp [stL, lv_args, Value.category]) ?_
    refine V_ipush mi_145_12 ?_
    refine V_cO (As := [.int (Int32.ofInt (1))]) (st := []) mi_145_13 (by omega) (by decide +kernel) (by decide +kernel) (by omega) g1o h.1 (failx_ct h O (by omega) (by omega)) (by omega) (show 1 = mN 146 by decide +kernel) (by simp [Value.category]) ?_
    rintro r w1 ⟨rfl, h1, O1⟩
    refine V_retV mi_145_16 ⟨rfl, ?_, O1⟩
    unfold signS
    by_cases g : s.2.1 = 0
    · rw [if_pos ⟨g, (t g).1 ▸ q⟩]
      exact h1
    · rw [if_neg (fun e => g e.1)]
      rw [show errS 1 s = s by unfold errS; rw [if_neg g]] at h1
      exact h1
theorem refx_ct {n : Nat} {B : Nat → Int} {s : TS} {w0 : va_W} {f o : Int} (fI : I32 f) (oI : I32 o) (h : XA ad tys n B s ws) (O : XMK w0 ws) : CT l D tys A 142 1 0 0 [.ref (ad 1), .int (Int32.ofInt (f)), .int (Int32.ofInt (o))] ws (fun r w => r = none ∧ XA ad tys n B (if f = o then errS 2 s else s) w ∧ XMK w0 w) := by
  refine CT_of_V (by omega) (show (3 : Nat) ≤ mML 142 by decide +kernel) ?_
  refine V_iload (v := Int32.ofInt (f)) mi_142_0 (by simp [stL, lv_args, Value.category]) ?_
  refine V_iload (v := Int32.ofInt (o)) mi_142_1 (by simp [stL, lv_args, Value.category]) ?_
  refine V_cne mi_142_2 fI oI (fun q => ?_) (fun q => ?_)
  · refine V_retV mi_142_10 ⟨rfl, ?_, O⟩
    rw [if_neg q]
    exact h
  · refine V_aload (v := ad 1) mi_142_5 (by simp [stL, lv_args, Value.category]) ?_
    refine V_ipush mi_142_6 ?_
    refine V_cO (As := [.int (Int32.ofInt (2))]) (st := []) mi_142_7 (by omega) (by decide +kernel) (by decide +kernel) (by omega) g1o h.1 (failx_ct h O (by omega) (by omega)) (by omega) (show 1 = mN 146 by decide +kernel) (by simp [Value.category]) ?_
    rintro r w1 ⟨rfl, h1, O1⟩
    refine V_retV mi_142_10 ⟨rfl, ?_, O1⟩
    rw [if_pos q]
    exact h1
theorem folkx_ct {n : Nat} {B fr td : Nat → Int} {s : TS} {w0 : va_W} (h : XB ad tys n B s ws) (q : XR fr td w0 s ws) : CT l D tys A 140 2 0 0 [.ref (ad 1), .ref (ad 16)] ws (fun r w => r = some (.int (Int32.ofInt (folkR fr s))) ∧ XA ad tys n B (num2 0 (fr 3 - 1) s) w ∧ XR fr td w0 (num2 0 (fr 3 - 1) s) w) := by
  obtain ⟨p, hp, p0, p6⟩ := celO h.1 g16f4 (by omega)
  have pg : s.2.1 = 0 → p - 1 = fr 3 - 1 := fun g => by
    obtain ⟨q1, q2, -⟩ := q.1 g
    have q3 := q1 3 (by omega)
    have q4 := (q2 3 (by omega)).1
    have q3 : rd ws 16 4 = some (.int (Int32.ofInt (fr 3))) := q3
    rw [hp] at q3
    simp only [Option.some.injEq, Value.int.injEq] at q3
    have t1 : (Int32.ofInt p).toInt = p := Int32.toInt_ofInt_of_le (by omega) (by omega)
    have t2 : (Int32.ofInt (fr 3)).toInt = fr 3 := Int32.toInt_ofInt_of_le (by omega) (by omega)
    rw [q3, t2] at t1
    omega
  obtain ⟨e1, e2⟩ := num2_cg (lo := 0) pg
  refine CT_of_V (by omega) (show (2 : Nat) ≤ mML 140 by decide +kernel) ?_
  refine V_aload (v := ad 1) mi_140_0 (by simp [stL, lv_args, Value.category]) ?_
  refine V_gR mi_140_1 g1r (by omega) h.1 ?_
  refine V_cO (As := []) (st := []) mi_140_4 (by omega) (by decide +kernel) (by decide +kernel) (by omega) g2o h.1 (advx_ct h XMK_rf) (by omega) (show 0 = mN 188 by decide +kernel) (by simp [Value.category]) ?_
  rintro r w ⟨rfl, h, O⟩
  refine V_aload (v := ad 1) mi_140_7 (by simp [stL, lv_args, Value.category]) ?_
  refine V_ipush mi_140_8 ?_
  refine V_aload (v := ad 16) mi_140_9 (by simp [stL, lv_args, Value.category]) ?_
  refine V_gO mi_140_10 g16o h.1 ((O _ _ (by omega)).trans hp) ?_
  refine V_ipush mi_140_13 ?_
  refine V_ibin mi_140_14 (by omega) ?_
  rw [ib1]
  refine V_cO (As := [.int (Int32.ofInt (0)), .int (Int32.ofInt ((p) - (1)))]) (st := []) mi_140_15 (by omega) (by decide +kernel) (by decide +kernel) (by omega) g1o h.1 (numx_ct ⟨by omega, by omega⟩ ⟨by omega, by omega⟩ (by omega) h O) (by omega) (show 2 = mN 143 by decide +kernel) (by simp [Value.category]) ?_
  rintro r w ⟨rfl, h, O⟩
  rw [e2]
  rw [e1] at h
  exact V_retI mi_140_18 (fun q => absurd q (by decide +kernel)) ⟨rfl, h, XR_of q O (fun g => (num2_ok g).1)⟩
end XRE
end
section
section XMN
variable {l : Launch} {D : va_G} {tys : List (ClassId × FieldType)} {A : Nat → Prop} {ad : Nat → Nat} {ws : va_W}
theorem g96n : ∃ s, GG[96]? = some ((1, 0, 294), s) ∧ (∀ f, f < 6 → segAt s (6 + 7 * f) = some (0, 0, 6) ∧ ∀ k, k < 6 → segAt s (7 + 7 * f + k) = some (0, 0, 8)) ∧ (∀ f, f < 6 → segAt s (48 + f) = some (0, 0, 4) ∧ segAt s (54 + f) = some (0, 0, 100) ∧ segAt s (60 + f) = some (0, 0, 63)) ∧ segAt s 3 = some (0, 0, 6) ∧ segAt s 0 = some (0, 0, 9) ∧ segAt s 4 = some (0, 0, 12) ∧ segAt s 5 = some (0, -2147483648, 2147483647) := by
  refine ⟨_, rfl, fun f hf => ⟨?_, fun k hk => ?_⟩, fun f hf => ?_, by decide +kernel, by decide +kernel, by decide +kernel, by decide +kernel⟩
  · exact (show ∀ f : Fin 6, segAt _ (6 + 7 * f.1) = some (0, 0, 6) by decide +kernel) ⟨f, hf⟩
  · exact (show ∀ f : Fin 6, ∀ k : Fin 6, segAt _ (7 + 7 * f.1 + k.1) = some (0, 0, 8) by decide +kernel) ⟨f, hf⟩ ⟨k, hk⟩
  · exact (show ∀ f : Fin 6, segAt _ (48 + f.1) = some (0, 0, 4) ∧ segAt _ (54 + f.1) = some (0, 0, 100) ∧ segAt _ (60 + f.1) = some (0, 0, 63) by decide +kernel) ⟨f, hf⟩
/-- a line 'name' -/
noncomputable def nam1 (y : Int) (k : Nat) (s : TS) : TS := if s.2.1 = 0 ∧ s.1.1 = 2 ∧ k = 6 ∧ s.1.2.2.2 < y then errS 3 s else s
noncomputable def namN (B : Nat → Int) (n : Nat) (y : Int) (k : Nat) (s : TS) : TS := numT B n 0 (y - 1) (nam1 y k s)
noncomputable def namR (y : Int) (k : Nat) (s : TS) : Int := numR 0 (y - 1) (nam1 y k s)
noncomputable def namW (B : Nat → Int) (n : Nat) (y : Int) (F : Nat) : Nat → Nat → TS → (Nat → Int) → TS × Nat × (Nat → Int)
  | 0, k, s, g => (s, k, g)
  | f + 1, k, s, g => if (namN B n y k s).2.1 = 0 then (if (namN B n y k s).1.1 = 3 then (namN B n y k s, k + 1, updI g (7 + 7 * F + k) (namR y k s)) else namW B n y F f (k + 1) (namN B n y k s) (updI g (7 + 7 * F + k) (namR y k s))) else (namN B n y k s, k, g)
noncomputable def namZ (F : Nat) (x : TS × Nat × (Nat → Int)) : Nat → Int := if x.1.2.1 = 0 then updI (updI (updI x.2.2 (6 + 7 * F) (x.2.1 : Int)) (48 + F) 1) 3 ((F : Int) + 1) else x.2.2
theorem nam_6 {B : Nat → Int} {n : Nat} {y : Int} {s : TS} : ¬ (namN B n y 6 s).2.1 = 0 := by
  intro h
  obtain ⟨h1, h2, h3, h4, h5⟩ := num_ok (B := B) (n := n) (lo := 0) (hi := y - 1) (s := nam1 y 6 s) h
  unfold nam1 at h1 h2 h3
  split at h1
  · exact err_ok (by decide) h1
  · next q =>
    rw [if_neg q] at h2 h3
    exact q ⟨h1, h2, rfl, by omega⟩
theorem nm_98 {n F k : Nat} {B g td : Nat → Int} {s : TS} {w0 w : va_W} (hF : F < 6) (hk : k ≤ 6) (g3 : g 3 = (F : Int)) (h : MSF ad tys n B g td w0 s w) : V l D tys A 226 6 0 0 (fun r w => r = none ∧ MSF ad tys n B (updI (updI (updI g (6 + 7 * F) (k : Int)) (48 + F) 1) 3 ((F : Int) + 1)) td w0 s w) 0 0 98 [(0, .ref (ad 90)), (1, .int (Int32.ofInt (F : Int))), (2, .int (Int32.ofInt (k : Int)))] [] w := by
  obtain ⟨s96, e96, gN, gD, s3, s0, s4, s5⟩ := g96n
  refine V_aload (v := ad 90) mi_226_98 (by simp [stL, lv_args, Value.category]) ?_
  refine V_getI mi_226_99 h.1 (rref gr14 (by omega) h.1) ?_
  refine V_ipush mi_226_102 ?_
  refine V_ipush mi_226_104 ?_
  refine V_iload (v := Int32.ofInt ((F : Int))) mi_226_106 (by simp [stL, lv_args, Value.category]) ?_
  refine V_ibin mi_226_107 (by omega) ?_
  rw [ib2]
  refine V_ibin mi_226_108 (by omega) ?_
  rw [ib0]
  refine V_iload (v := Int32.ofInt ((k : Int))) mi_226_109 (by simp [stL, lv_args, Value.category]) ?_
  refine V_fst (z := (k : Int)) h e96 (j := 6 + 7 * F) (by omega) (by rw [show (6) + ((7) * ((F : Int))) = ((6 + 7 * F : Nat) : Int) by omega]) mi_226_110 (gN F hF).1 (by omega) (by omega) (by omega) (by omega) (fun w h => ?_)
  refine V_aload (v := ad 90) mi_226_111 (by simp [stL, lv_args, Value.category]) ?_
  refine V_getI mi_226_112 h.1 (rref gr14 (by omega) h.1) ?_
  refine V_ipush mi_226_115 ?_
  refine V_iload (v := Int32.ofInt ((F : Int))) mi_226_117 (by simp [stL, lv_args, Value.category]) ?_
  refine V_ibin mi_226_118 (by omega) ?_
  rw [ib0]
  refine V_ipush mi_226_119 ?_
  refine V_fst (z := 1) h e96 (j := 48 + F) (by omega) (by rw [show (48) + ((F : Int)) = ((48 + F : Nat) : Int) by omega]) mi_226_120 (gD F hF).1 (by omega) (by omega) (by omega) (by omega) (fun w h => ?_)
  refine V_aload (v := ad 90) mi_226_121 (by simp [stL, lv_args, Value.category]) ?_
  refine V_getI mi_226_122 h.1 (rref gr14 (by omega) h.1) ?_
  refine V_ipush mi_226_125 ?_
  refine V_dup2 mi_226_126 (by simp [Value.category]) (by simp [Value.category]) ?_
  refine V_fresh (a := 0) (x := 0) h (j := 3) (by omega) rfl mi_226_127 ?_
  refine V_ipush mi_226_128 ?_
  refine V_ibin mi_226_129 (by omega) ?_
  rw [ib0]
  have e3 : updI (updI g (6 + 7 * F) (k : Int)) (48 + F) 1 3 = (F : Int) := by unfold updI; rw [if_neg (by omega), if_neg (by omega)]; exact g3
  rw [e3]
  refine V_fst (z := (F : Int) + 1) h e96 (j := 3) (by omega) (by rw [show 3 = ((3 : Nat) : Int) by omega]) mi_226_130 s3 (by omega) (by omega) (by omega) (by omega) (fun w h => ?_)
  exact V_retV mi_226_131 ⟨rfl, h⟩
theorem nm_48 {n F f k : Nat} {B g td : Nat → Int} {s : TS} {w0 w : va_W} {y : Int} (y0 : 0 ≤ y) (y9 : y ≤ 9) (hF : F < 6) (hk : k ≤ 6) (hf7 : k + (f + 1) = 7) (g0 : g 0 = y) (g3 : g 3 = (F : Int)) (kk : ∀ (k : Nat) (s : TS) (g : Nat → Int) (w : va_W), k ≤ 6 → k + f = 7 → g 0 = y → g 3 = (F : Int) → MSF ad tys n B g td w0 s w → V l D tys A 226 6 0 0 (fun r w => r = none ∧ MSF ad tys n B (namZ F (namW B n y F f k s g)) td w0 (namW B n y F f k s g).1 w) 0 0 9 [(0, .ref (ad 90)), (1, .int (Int32.ofInt (F : Int))), (2, .int (Int32.ofInt (k : Int)))] [] w) (h : MSF ad tys n B g td w0 (nam1 y k s) w) : V l D tys A 226 6 0 0 (fun r w => r = none ∧ MSF ad tys n B (namZ F (namW B n y F (f + 1) k s g)) td w0 (namW B n y F (f + 1) k s g).1 w) 0 0 48 [(0, .ref (ad 90)), (1, .int (Int32.ofInt (F : Int))), (2, .int (Int32.ofInt (k : Int)))] [] w := by
  obtain ⟨s96, e96, gN, gD, s3, s0, s4, s5⟩ := g96n
  refine V_aload (v := ad 90) mi_226_48 (by simp [stL, lv_args, Value.category]) ?_
  refine V_ipush mi_226_49 ?_
  refine V_aload (v := ad 90) mi_226_50 (by simp [stL, lv_args, Value.category]) ?_
  refine V_getI mi_226_51 h.1 (rref gr14 (by omega) h.1) ?_
  refine V_ipush mi_226_54 ?_
  refine V_fresh (a := 0) (x := 0) h (j := 0) (by omega) rfl mi_226_55 ?_
  refine V_ipush mi_226_56 ?_
  refine V_ibin mi_226_57 (by omega) ?_
  rw [ib1]
  refine V_callM (As := [.int (Int32.ofInt (0)), .int (Int32.ofInt ((g 0) - (1)))]) (st := []) mi_226_58 (by omega) (by decide +kernel) (by decide +kernel) h.1 (numm_ct (by omega) (by omega) (by omega) (by omega) (MSF_q h)) (by omega) (show 2 = mN 219 by decide +kernel) (by simp [Value.category]) ?_
  rintro r w ⟨rfl, h1⟩
  have h := MSF_of h h1
  rw [g0] at h ⊢
  have h : MSF ad tys n B g td w0 (namN B n y k s) w := h
  change V l D tys A 226 6 0 0 _ 0 0 (58 + 3) _ ((some (Value.int (Int32.ofInt (namR y k s)))).toList ++ []) _
  refine V_istore mi_226_61 ?_
  obtain ⟨hG, ⟨T, ok, h10, h9, h8, h11, h12, h13⟩, -, O⟩ := id h
  obtain ⟨b1, b2, b3, b4⟩ := ok
  refine V_aload (v := ad 90) mi_226_62 (by simp [stL, lv_args, Value.category]) ?_
  refine V_callM (As := []) (st := []) mi_226_63 (by omega) (by decide +kernel) (by decide +kernel) h.1 (good_ct hG h12 b4.1 b4.2) (by omega) (show 0 = mN 214 by decide +kernel) (by simp [Value.category]) ?_
  rintro r w1 ⟨rfl, rfl⟩
  unfold namW
  by_cases hf : (namN B n y k s).2.1 = 0
  · rw [if_pos hf, if_pos hf]
    refine V_if mi_226_66 (fun _ => ?_) (fun h1 => absurd (show (1 : Int32) ≠ 0 by decide) h1)
    have k6 : k ≠ 6 := fun e => nam_6 (e ▸ hf)
    obtain ⟨-, -, c1, c2, -⟩ := num_ok (B := B) (n := n) (lo := 0) (hi := y - 1) (s := nam1 y k s) hf
    have c2 : namR y k s = (nam1 y k s).1.2.2.2 := c2
    have hj : 7 + 7 * F + k < 294 := by omega
    refine V_aload (v := ad 90) mi_226_70 (by simp [stL, lv_args, Value.category]) ?_
    refine V_getI mi_226_71 h.1 (rref gr14 (by omega) h.1) ?_
    refine V_ipush mi_226_74 ?_
    refine V_ipush mi_226_76 ?_
    refine V_iload (v := Int32.ofInt ((F : Int))) mi_226_78 (by simp [stL, lv_args, Value.category]) ?_
    refine V_ibin mi_226_79 (by omega) ?_
    rw [ib2]
    refine V_ibin mi_226_80 (by omega) ?_
    rw [ib0]
    refine V_ipush mi_226_81 ?_
    refine V_ibin mi_226_82 (by omega) ?_
    rw [ib0]
    refine V_iload (v := Int32.ofInt ((k : Int))) mi_226_83 (by simp [stL, lv_args, Value.category]) ?_
    refine V_ibin mi_226_84 (by omega) ?_
    rw [ib0]
    refine V_iload (v := Int32.ofInt (namR y k s)) mi_226_85 (by simp [stL, lv_args, Value.category]) ?_
    refine V_fst (z := namR y k s) h e96 (j := 7 + 7 * F + k) hj (by rw [show (((6) + ((7) * ((F : Int)))) + (1)) + ((k : Int)) = ((7 + 7 * F + k : Nat) : Int) by omega]) mi_226_86 ((gN F hF).2 k (by omega)) (by omega) (by omega) (by omega) (by omega) (fun w h => ?_)
    refine V_iinc (v := Int32.ofInt ((k : Int))) mi_226_87 (by simp [stL, lv_args, Value.category]) ?_
    rw [ia2]
    obtain ⟨hG, ⟨T, ok, h10, h9, h8, h11, h12, h13⟩, -, O⟩ := id h
    obtain ⟨b1, b2, b3, b4⟩ := ok
    refine V_aload (v := ad 90) mi_226_90 (by simp [stL, lv_args, Value.category]) ?_
    refine V_getI mi_226_91 h.1 (h10) ?_
    refine V_ipush mi_226_94 ?_
    refine V_cne mi_226_95 ⟨by omega, by omega⟩ ⟨by omega, by omega⟩ (fun q => ?_) (fun q => ?_)
    · rw [if_neg q]
      refine V_sub (lv' := [(0, .ref (ad 90)), (1, .int (Int32.ofInt (F : Int))), (2, .int (Int32.ofInt ((k + 1 : Nat) : Int)))]) (fun q hq => ?_) ?_
      · simp only [List.mem_cons, List.not_mem_nil, or_false] at hq
        rcases hq with rfl | rfl | rfl
        · simp [stL, lv_args, Value.category]
        · simp [stL, lv_args, Value.category]
        · simp [stL, lv_args, Value.category]
      · exact kk (k + 1) (namN B n y k s) (updI g (7 + 7 * F + k) (namR y k s)) w (by omega) (by omega) (by show (if 0 = 7 + 7 * F + k then _ else g 0) = _; rw [if_neg (by omega)]; exact g0) (by show (if 3 = 7 + 7 * F + k then _ else g 3) = _; rw [if_neg (by omega)]; exact g3) h
    · rw [if_pos q]
      unfold namZ
      rw [if_pos hf]
      refine V_sub (lv' := [(0, .ref (ad 90)), (1, .int (Int32.ofInt (F : Int))), (2, .int (Int32.ofInt ((k + 1 : Nat) : Int)))]) (fun q hq => ?_) ?_
      · simp only [List.mem_cons, List.not_mem_nil, or_false] at hq
        rcases hq with rfl | rfl | rfl
        · simp [stL, lv_args, Value.category]
        · simp [stL, lv_args, Value.category]
        · simp [stL, lv_args, Value.category]
      · exact nm_98 (k := k + 1) (g := updI g (7 + 7 * F + k) (namR y k s)) hF (by omega) (by show (if 3 = 7 + 7 * F + k then _ else g 3) = _; rw [if_neg (by omega)]; exact g3) h
  · rw [if_neg hf, if_neg hf]
    refine V_if mi_226_66 (fun h1 => absurd (show (0 : Int32) = 0 from rfl) h1) (fun _ => ?_)
    unfold namZ
    rw [if_neg hf]
    exact V_retV mi_226_69 ⟨rfl, h⟩
theorem nm_9 {n F : Nat} {B td : Nat → Int} {w0 : va_W} {y : Int} (y0 : 0 ≤ y) (y9 : y ≤ 9) (hF : F < 6) : ∀ (f k : Nat) (s : TS) (g : Nat → Int) (w : va_W), k ≤ 6 → k + f = 7 → g 0 = y → g 3 = (F : Int) → MSF ad tys n B g td w0 s w → V l D tys A 226 6 0 0 (fun r w => r = none ∧ MSF ad tys n B (namZ F (namW B n y F f k s g)) td w0 (namW B n y F f k s g).1 w) 0 0 9 [(0, .ref (ad 90)), (1, .int (Int32.ofInt (F : Int))), (2, .int (Int32.ofInt (k : Int)))] [] w
  | 0, k, s, g, w, hk, hf7, _, _, _ => by omega
  | f + 1, k, s, g, w, hk, hf7, g0, g3, h => by
    obtain ⟨hG, ⟨T, ok, h10, h9, h8, h11, h12, h13⟩, -, O⟩ := id h
    obtain ⟨b1, b2, b3, b4⟩ := ok
    have skip : ¬ (s.2.1 = 0 ∧ s.1.1 = 2 ∧ k = 6 ∧ s.1.2.2.2 < y) → V l D tys A 226 6 0 0 (fun r w => r = none ∧ MSF ad tys n B (namZ F (namW B n y F (f + 1) k s g)) td w0 (namW B n y F (f + 1) k s g).1 w) 0 0 48 [(0, .ref (ad 90)), (1, .int (Int32.ofInt (F : Int))), (2, .int (Int32.ofInt (k : Int)))] [] w := fun q => by
      refine nm_48 y0 y9 hF hk hf7 g0 g3 (fun k s g w a b c e h => nm_9 y0 y9 hF f k s g w a b c e h) ?_
      unfold nam1
      rw [if_neg q]
      exact h
    refine V_aload (v := ad 90) mi_226_9 (by simp [stL, lv_args, Value.category]) ?_
    refine V_callM (As := []) (st := []) mi_226_10 (by omega) (by decide +kernel) (by decide +kernel) h.1 (good_ct hG h12 b4.1 b4.2) (by omega) (show 0 = mN 214 by decide +kernel) (by simp [Value.category]) ?_
    rintro r w1 ⟨rfl, rfl⟩
    by_cases hf : s.2.1 = 0
    · rw [if_pos hf]
      refine V_if mi_226_13 (fun h1 => absurd (show (1 : Int32) = 0 from h1) (by decide)) (fun _ => ?_)
      refine V_aload (v := ad 90) mi_226_16 (by simp [stL, lv_args, Value.category]) ?_
      refine V_getI mi_226_17 h.1 (h10) ?_
      refine V_ipush mi_226_20 ?_
      refine V_cne mi_226_21 ⟨by omega, by omega⟩ ⟨by omega, by omega⟩ (fun q => ?_) (fun q => ?_)
      · exact skip (fun e => q e.2.1)
      · refine V_iload (v := Int32.ofInt ((k : Int))) mi_226_24 (by simp [stL, lv_args, Value.category]) ?_
        refine V_ipush mi_226_25 ?_
        refine V_cne mi_226_27 ⟨by omega, by omega⟩ ⟨by omega, by omega⟩ (fun q2 => ?_) (fun q2 => ?_)
        · exact skip (fun e => q2 (by omega))
        · refine V_aload (v := ad 90) mi_226_30 (by simp [stL, lv_args, Value.category]) ?_
          refine V_getI mi_226_31 h.1 (h11) ?_
          refine V_aload (v := ad 90) mi_226_34 (by simp [stL, lv_args, Value.category]) ?_
          refine V_getI mi_226_35 h.1 (rref gr14 (by omega) h.1) ?_
          refine V_ipush mi_226_38 ?_
          refine V_fresh (a := 0) (x := 0) h (j := 0) (by omega) rfl mi_226_39 ?_
          refine V_cge mi_226_40 ⟨b3.1, b3.2⟩ ⟨by omega, by omega⟩ (fun q3 => ?_) (fun q3 => ?_)
          · exact skip (fun e => by omega)
          · refine V_aload (v := ad 90) mi_226_43 (by simp [stL, lv_args, Value.category]) ?_
            refine V_ipush mi_226_44 ?_
            refine V_callM (As := [.int (Int32.ofInt (3))]) (st := []) mi_226_45 (by omega) (by decide +kernel) (by decide +kernel) h.1 (errm_ct (MSF_q h) (by omega) (by omega)) (by omega) (show 1 = mN 215 by decide +kernel) (by simp [Value.category]) ?_
            rintro r w2 ⟨rfl, h2⟩
            refine nm_48 y0 y9 hF hk hf7 g0 g3 (fun k s g w a b c e h => nm_9 y0 y9 hF f k s g w a b c e h) ?_
            unfold nam1
            rw [if_pos ⟨hf, q, by omega, by omega⟩]
            exact MSF_of h h2
    · rw [if_neg hf]
      exact V_if mi_226_13 (fun _ => skip (fun e => hf e.1)) (fun h1 => absurd (show (0 : Int32) = 0 from rfl) h1)
theorem namm_ct {n : Nat} {B fr td : Nat → Int} {s : TS} {w0 : va_W} {F : Nat} (hF : F < 6) (e3 : fr 3 = (F : Int)) (h : MSF ad tys n B fr td w0 s ws) : CT l D tys A 226 6 0 0 [.ref (ad 90)] ws (fun r w => r = none ∧ MSF ad tys n B (namZ F (namW B n (fr 0) F 7 0 s fr)) td w0 (namW B n (fr 0) F 7 0 s fr).1 w) := by
  obtain ⟨s96, e96, gN, gD, s3, s0, s4, s5⟩ := g96n
  have y0 := fr_seg h e96 (by omega) s0 (by omega) (by omega)
  refine CT_of_V (by omega) (show (1 : Nat) ≤ mML 226 by decide +kernel) ?_
  refine V_aload (v := ad 90) mi_226_0 (by simp [stL, lv_args, Value.category]) ?_
  refine V_getI mi_226_1 h.1 (rref gr14 (by omega) h.1) ?_
  refine V_ipush mi_226_4 ?_
  refine V_fresh (a := 0) (x := 0) h (j := 3) (by omega) rfl mi_226_5 ?_
  rw [e3]
  refine V_istore mi_226_6 ?_
  refine V_ipush mi_226_7 ?_
  refine V_istore mi_226_8 ?_
  refine V_sub (lv' := [(0, .ref (ad 90)), (1, .int (Int32.ofInt (F : Int))), (2, .int (Int32.ofInt ((0 : Nat) : Int)))]) (fun q hq => ?_) ?_
  · simp only [List.mem_cons, List.not_mem_nil, or_false] at hq
    rcases hq with rfl | rfl | rfl
    · simp [stL, lv_args, Value.category]
    · simp [stL, lv_args, Value.category]
    · simp [stL, lv_args, Value.category]
  · exact nm_9 y0.1 y0.2 hF 7 0 s fr ws (by omega) (by omega) rfl e3 h
end XMN
section XSP
variable {l : Launch} {D : va_G} {tys : List (ClassId × FieldType)} {A : Nat → Prop} {ad : Nat → Nat} {ws : va_W}
theorem numT_2ok {B : Nat → Int} {n : Nat} {lo hi : Int} {s : TS} (h : (numT B n lo hi s).2.1 = 0) : (num2 lo hi s).2.1 = 0 := by
  rw [numT_2] at h
  split at h
  · assumption
  · exact h
theorem word_ok {B : Nat → Int} {n : Nat} {cs : List Int32} {s : TS} (h : (wordS B n cs s).2.1 = 0) : s.2.1 = 0 := by
  unfold wordS at h
  split at h
  · exact h
  · exact absurd h (err_ok (by decide))
theorem need_wok {B : Nat → Int} {n : Nat} {cs : List Int32} {s : TS} (h : (needS B n cs s).2.1 = 0) : (wordS B n cs s).2.1 = 0 := by
  obtain ⟨h1, h2, -⟩ := need_ok h
  unfold wordS
  rw [if_pos h2]
  exact h1
theorem errS_bad {e : Int} {s : TS} (h : ¬ s.2.1 = 0) : errS e s = s := by
  unfold errS
  rw [if_neg h]
/-- the second of two folk: looked at, then held against the first; or the other way round -/
theorem oth_eq {f p : Int} {s : TS} (hf : s.2.1 = 0 → 0 ≤ f ∧ f ≤ p) : (if f = numR 0 p s then errS 2 (num2 0 p s) else num2 0 p s) = num2 0 p (otheP f s) := by
  by_cases g : s.2.1 = 0
  · by_cases k : s.1.1 = 2
    · by_cases v : s.1.2.2.2 = f
      · have hf := hf g
        have e : num2 0 p s = s := num2_G (fun _ => ⟨k, by omega, by omega⟩)
        obtain ⟨-, -, -, r, -⟩ := num2_ok (lo := 0) (hi := p) (s := s) (by rw [e]; exact g)
        have o : otheP f s = errS 2 s := by unfold otheP; rw [if_pos ⟨g, k, v⟩]
        have b : ¬ (errS 2 s).2.1 = 0 := err_ok (by decide)
        rw [r, v, if_pos rfl, e, o, num2_K (fun q => absurd q b), errS_bad b]
      · have o : otheP f s = s := by unfold otheP; rw [if_neg (fun q => v q.2.2)]
        rw [o]
        by_cases u : 0 ≤ s.1.2.2.2 ∧ s.1.2.2.2 ≤ p
        · have e : num2 0 p s = s := num2_G (fun _ => ⟨k, u⟩)
          obtain ⟨-, -, -, r, -⟩ := num2_ok (lo := 0) (hi := p) (s := s) (by rw [e]; exact g)
          rw [r, if_neg (fun q => v q.symm)]
        · have e : num2 0 p s = errS 2 s := num2_R (fun _ => ⟨k, u⟩)
          rw [e]
          split
          · exact errS_bad (err_ok (by decide))
          · rfl
    · have o : otheP f s = s := by unfold otheP; rw [if_neg (fun q => k q.2.1)]
      have e : num2 0 p s = errS 1 s := num2_K (fun _ => k)
      rw [o, e]
      split
      · exact errS_bad (err_ok (by decide))
      · rfl
  · have o : otheP f s = s := by unfold otheP; rw [if_neg (fun q => g q.1)]
    have e : num2 0 p s = errS 1 s := num2_K (fun q => absurd q g)
    rw [o, e]
    split
    · exact errS_bad (err_ok (by decide))
    · rfl
theorem oth_ok {f p : Int} {s : TS} (h : (num2 0 p (otheP f s)).2.1 = 0) : (num2 0 p s).2.1 = 0 ∧ numR 0 p s = numR 0 p (otheP f s) ∧ ¬ f = numR 0 p s := by
  obtain ⟨h1, h2, h3, h4, h5⟩ := num2_ok h
  have o : otheP f s = s := by
    unfold otheP at h1 ⊢
    split at h1
    · exact absurd h1 (err_ok (by decide))
    · next q => rw [if_neg q]
  rw [o] at h h1 h2 h3 h4 h5 ⊢
  refine ⟨h, rfl, ?_⟩
  rw [h4]
  intro q
  unfold otheP at o
  rw [if_pos ⟨h1, h2, q.symm⟩] at o
  have : (errS 2 s).2.1 = 0 := by rw [o]; exact h1
  exact err_ok (by decide) this
theorem XR_bad {fr td fr' td' : Nat → Int} {w0 w : va_W} {s s' : TS} (q : XR fr td w0 s w) (h : ¬ s'.2.1 = 0) : XR fr' td' w0 s' w := ⟨fun g => absurd g h, q.2⟩
theorem ofI {a b : Int} (ha : I32 a) (hb : I32 b) (h : Int32.ofInt a = Int32.ofInt b) : a = b := by
  have t1 : (Int32.ofInt a).toInt = a := Int32.toInt_ofInt_of_le ha.1 (by have := ha.2; omega)
  have t2 : (Int32.ofInt b).toInt = b := Int32.toInt_ofInt_of_le hb.1 (by have := hb.2; omega)
  rw [← t1, h, t2]
/-- what the class's draft holds at a place, by what the reference holds -/
theorem XR_at {fr td : Nat → Int} {w0 w : va_W} {s : TS} {c i j : Nat} {p : Int} (q : XR fr td w0 s w) (hp : rd w c i = some (.int (Int32.ofInt p))) (pI : I32 p) (g : s.2.1 = 0) (hj : j < 294) (hn : ¬ (102 ≤ j ∧ j < 246)) (e1 : c = 16 + hxC j) (e2 : i = hxI j) : p = fr j ∧ 0 ≤ fr j ∧ fr j ≤ 4095 := by
  obtain ⟨a, b, -⟩ := q.1 g
  have h := a j hj
  rw [← e1, ← e2, hp] at h
  have b := (b j hj).1
  simp only [Option.some.injEq, Value.int.injEq] at h
  have e : fx fr td j = fr j := by unfold fx; rw [if_neg hn]
  rw [e] at h
  exact ⟨ofI pI ⟨by omega, by omega⟩ h, b⟩
theorem XR_to {n : Nat} {B fr td : Nat → Int} {w0 w w2 : va_W} {s s2 : TS} (q : XR fr td w0 s w) (O : XMK w w2) (_ : XA ad tys n B s2 w2) (m : s2.2.1 = 0 → s.2.1 = 0) : XR fr td w0 s2 w2 := XR_of q O m
theorem len_hx {f : Nat} (hf : f < 6) : 6 + 7 * f < 294 ∧ ¬ (102 ≤ 6 + 7 * f ∧ 6 + 7 * f < 246) ∧ 17 = 16 + hxC (6 + 7 * f) ∧ f = hxI (6 + 7 * f) := by
  have e1 : hxC (6 + 7 * f) = 1 := by
    unfold hxC
    rw [if_neg (by omega), if_pos (by omega), if_pos (by omega)]
  have e2 : hxI (6 + 7 * f) = f := by
    unfold hxI
    rw [if_neg (by omega), if_pos (by omega), if_pos (by omega)]
    omega
  exact ⟨by omega, by omega, by omega, by omega⟩
theorem XR_bds {fr td : Nat → Int} {w0 w : va_W} {s : TS} (G : GOK ad tys GG w) (q : XR fr td w0 s w) (g : s.2.1 = 0) : (0 ≤ fr 0 ∧ fr 0 ≤ 9) ∧ (0 ≤ fr 1 ∧ fr 1 ≤ 4) ∧ (0 ≤ fr 2 ∧ fr 2 ≤ 24) ∧ (0 ≤ fr 3 ∧ fr 3 ≤ 6) ∧ (0 ≤ fr 4 ∧ fr 4 ≤ 12) ∧ ∀ f, f < 6 → 0 ≤ fr (6 + 7 * f) ∧ fr (6 + 7 * f) ≤ 7 := by
  obtain ⟨p0, h0, a0, b0⟩ := celO G g16f1 (by omega)
  obtain ⟨p1, h1, a1, b1⟩ := celO G g16f2 (by omega)
  obtain ⟨p2, h2, a2, b2⟩ := celO G g16f3 (by omega)
  obtain ⟨p3, h3, a3, b3⟩ := celO G g16f4 (by omega)
  obtain ⟨p4, h4, a4, b4⟩ := celO G g16f5 (by omega)
  have e0 := (XR_at (j := 0) q h0 ⟨by omega, by omega⟩ g (by omega) (by omega) rfl rfl).1
  have e1 := (XR_at (j := 1) q h1 ⟨by omega, by omega⟩ g (by omega) (by omega) rfl rfl).1
  have e2 := (XR_at (j := 2) q h2 ⟨by omega, by omega⟩ g (by omega) (by omega) rfl rfl).1
  have e3 := (XR_at (j := 3) q h3 ⟨by omega, by omega⟩ g (by omega) (by omega) rfl rfl).1
  have e4 := (XR_at (j := 4) q h4 ⟨by omega, by omega⟩ g (by omega) (by omega) rfl rfl).1
  refine ⟨by omega, by omega, by omega, by omega, by omega, fun f hf => ?_⟩
  obtain ⟨segs, hg, hs⟩ := a17
  obtain ⟨z, hz, z0, z7⟩ := cel G hg (j := f) (by omega) (hs _ hf)
  obtain ⟨x1, x2, x3, x4⟩ := len_hx hf
  have e5 := (XR_at (j := 6 + 7 * f) q hz ⟨by omega, by omega⟩ g x1 x2 x3 x4).1
  omega
theorem bitO_b2 {a i : Int} (a0 : 0 ≤ a) (a1 : a ≤ 127) (i0 : 0 ≤ i) (i1 : i ≤ 6) : 0 ≤ bitO a i ∧ bitO a i ≤ 127 := by
  obtain ⟨x, rfl⟩ := Int.eq_ofNat_of_zero_le a0
  obtain ⟨y, rfl⟩ := Int.eq_ofNat_of_zero_le i0
  have h := (kb68 (a := x) (i := y) (by omega) (by omega)).2
  rw [kbO (a := x) (i := y) (by omega) (by omega)]
  exact ⟨by omega, by omega⟩
theorem XR_bit {fr td : Nat → Int} {w0 w : va_W} {s : TS} {j : Nat} (q : XR fr td w0 s w) (g : s.2.1 = 0) (h : 60 ≤ j ∧ j < 102) : fr j ≤ 127 := ((q.1 g).2.1 j (by omega)).2 h
/-- the other kinds of lines -/
noncomputable def stT (fr : Nat → Int) (B : Nat → Int) (n : Nat) (s : TS) : TS := numT B n 1 4 (folkT B n fr s)
noncomputable def stF (fr : Nat → Int) (B : Nat → Int) (n : Nat) (s : TS) : Nat → Int := if (stT fr B n s).2.1 = 0 then updI fr (48 + (folkR fr s).toNat) (numR 1 4 (folkT B n fr s)) else fr
noncomputable def deT (fr : Nat → Int) (B : Nat → Int) (n : Nat) (s : TS) : TS := numT B n 0 100 (folkT B n fr s)
noncomputable def deF (fr : Nat → Int) (B : Nat → Int) (n : Nat) (s : TS) : Nat → Int := if (deT fr B n s).2.1 = 0 then updI fr (54 + (folkR fr s).toNat) (numR 0 100 (folkT B n fr s)) else fr
noncomputable def foO (fr : Nat → Int) (B : Nat → Int) (n : Nat) (s : TS) : Nat := (otheR fr (folkR fr s) (folkT B n fr s)).toNat
noncomputable def foT (fr : Nat → Int) (B : Nat → Int) (n : Nat) (s : TS) : TS := otheT B n fr (folkR fr s) (folkT B n fr s)
noncomputable def foF (fr : Nat → Int) (B : Nat → Int) (n : Nat) (s : TS) : Nat → Int := if (foT fr B n s).2.1 = 0 then updI fr (60 + foO fr B n s) (bitO (fr (60 + foO fr B n s)) (folkR fr s)) else fr
noncomputable def xName : List Int32 := xw 17
noncomputable def xStam : List Int32 := xw 18
noncomputable def xDeaf : List Int32 := xw 19
noncomputable def xGoes : List Int32 := xw 20
noncomputable def xKnow : List Int32 := xw 21
noncomputable def xSays : List Int32 := xw 22
noncomputable def xFoe : List Int32 := xw 23
theorem xw_eq : xw 0 = xName ∧ xw 1 = xStam ∧ xw 2 = xDeaf ∧ xw 3 = xGoes ∧ xw 4 = xKnow ∧ xw 5 = xSays ∧ xw 6 = xFoe ∧ xw 7 = xHill ∧ xw 8 = xSyll ∧ xw 9 = xPlac ∧ xw 10 = xHour ∧ xw 11 = xAt := by decide +kernel
/-- a line behind the first: where the reader then stands, and what is read -/
noncomputable def linN (B : Nat → Int) (n : Nat) (fr td : Nat → Int) (s : TS) : TS × (Nat → Int) × (Nat → Int) :=
  if isSp B n xName s = true then (if fr 3 = 6 then (errS 3 s, fr, td) else ((namW B n (fr 0) (fr 3).toNat 7 0 (advS B n s) fr).1, namZ (fr 3).toNat (namW B n (fr 0) (fr 3).toNat 7 0 (advS B n s) fr), td))
  else if isSp B n xStam s = true then (stT fr B n (advS B n s), stF fr B n (advS B n s), td)
  else if isSp B n xDeaf s = true then (deT fr B n (advS B n s), deF fr B n (advS B n s), td)
  else if isSp B n xGoes s = true then (goT fr B n (advS B n s), fr, goD fr td B n (advS B n s))
  else if isSp B n xKnow s = true then (knT fr B n (advS B n s), knG fr B n (advS B n s), td)
  else if isSp B n xSays s = true then (if fr 4 = 12 then (errS 3 s, fr, td) else (saT fr B n (advS B n s), saG fr B n (advS B n s), td))
  else if isSp B n xFoe s = true then (foT fr B n (advS B n s), foF fr B n (advS B n s), td)
  else (errS 1 s, fr, td)
/-- a line, up to its sign -/
noncomputable def linW (B : Nat → Int) (n : Nat) (fr td : Nat → Int) (s : TS) : TS × (Nat → Int) × (Nat → Int) := if fr 5 = 0 then (firT B n s, firF B n fr s, td) else linN B n fr td s
/-- a whole line -/
noncomputable def linS (B : Nat → Int) (n : Nat) (x : TS × (Nat → Int) × (Nat → Int)) : TS × (Nat → Int) × (Nat → Int) := ((if (signS (linW B n x.2.1 x.2.2 x.1).1).2.1 = 0 then advS B n (signS (linW B n x.2.1 x.2.2 x.1).1) else signS (linW B n x.2.1 x.2.2 x.1).1), updI (linW B n x.2.1 x.2.2 x.1).2.1 5 ((linW B n x.2.1 x.2.2 x.1).2.1 5 + 1), (linW B n x.2.1 x.2.2 x.1).2.2)
/-- all lines -/
noncomputable def linA (B : Nat → Int) (n : Nat) : Nat → TS × (Nat → Int) × (Nat → Int) → TS × (Nat → Int) × (Nat → Int)
  | 0, x => x
  | f + 1, x => if x.1.2.1 = 0 ∧ ¬ x.1.1.1 = 0 then linA B n f (linS B n x) else x
end XSP
end
section
section XRL
variable {l : Launch} {D : va_G} {tys : List (ClassId × FieldType)} {A : Nat → Prop} {ad : Nat → Nat} {ws : va_W}
theorem lenx_ct {ix : Int32} (hG : GOK ad tys GG ws) : CT l D tys A 106 0 0 0 [.ref (ad 16), .int ix] ws (fun r w => w = ws ∧ ∃ p : Int, r = some (.int (Int32.ofInt p)) ∧ 0 ≤ p ∧ p ≤ 7 ∧ (∀ j : Nat, j < 6 → ix = Int32.ofInt (j : Int) → rd ws 17 j = some (.int (Int32.ofInt p)))) := by
  obtain ⟨segs, hg, hs⟩ := a17
  have ib := i32b ix
  have e0 : ix = Int32.ofInt ix.toInt := (Int32.ofInt_toInt ix).symm
  rw [e0]
  have fin : ¬ (0 ≤ ix.toInt ∧ ix.toInt < 6) → V l D tys A 106 0 0 0 (fun r w => w = ws ∧ ∃ p : Int, r = some (.int (Int32.ofInt p)) ∧ 0 ≤ p ∧ p ≤ 7 ∧ (∀ j : Nat, j < 6 → Int32.ofInt ix.toInt = Int32.ofInt (j : Int) → rd ws 17 j = some (.int (Int32.ofInt p)))) 0 0 22 (lv_args 0 [.ref (ad 16), .int (Int32.ofInt ix.toInt)]) [] ws := fun q => by
    refine V_ipush mi_106_22 ?_
    exact V_retI mi_106_23 (fun h => absurd h (by decide +kernel)) ⟨rfl, 0, rfl, by omega, by omega, fun j hj e => by
      have t : (Int32.ofInt (j : Int)).toInt = (j : Int) := Int32.toInt_ofInt_of_le (by omega) (by omega)
      rw [← e, ← e0] at t
      omega⟩
  refine CT_of_V (by omega) (show (2 : Nat) ≤ mML 106 by decide +kernel) ?_
  refine V_iload (v := Int32.ofInt ix.toInt) mi_106_0 (by simp [stL, lv_args, Value.category]) ?_
  refine V_zlt mi_106_1 ib (fun q => ?_) (fun q => ?_)
  · exact fin (by omega)
  · refine V_iload (v := Int32.ofInt ix.toInt) mi_106_4 (by simp [stL, lv_args, Value.category]) ?_
    refine V_aload (v := ad 16) mi_106_5 (by simp [stL, lv_args, Value.category]) ?_
    refine V_gR mi_106_6 g16r6 (by omega) hG ?_
    refine V_lenA mi_106_9 hG hg ?_
    refine V_cge mi_106_10 ib ⟨by omega, by omega⟩ (fun q2 => ?_) (fun q2 => ?_)
    · exact fin (by omega)
    · refine V_aload (v := ad 16) mi_106_13 (by simp [stL, lv_args, Value.category]) ?_
      refine V_gR mi_106_14 g16r6 (by omega) hG ?_
      refine V_iload (v := Int32.ofInt ix.toInt) mi_106_17 (by simp [stL, lv_args, Value.category]) ?_
      obtain ⟨z, hz, z0, z7⟩ := cel hG hg (j := ix.toInt.toNat) (by omega) (hs _ (by omega))
      refine V_aldX (j := ix.toInt.toNat) mi_106_18 (by rw [Int.toNat_of_nonneg q]) hG hg (by omega) (by omega) hz ?_
      refine V_goto mi_106_19 ?_
      refine V_retI mi_106_23 (fun h => absurd h (by decide +kernel)) ⟨rfl, z, rfl, z0, z7, fun j hj e => ?_⟩
      have t : (Int32.ofInt (j : Int)).toInt = (j : Int) := Int32.toInt_ofInt_of_le (by omega) (by omega)
      rw [← e, ← e0] at t
      rw [show j = ix.toInt.toNat by omega]
      exact hz
theorem rh_17 {n : Nat} {B fr td : Nat → Int} {s : TS} {w0 w : va_W} (h : XA ad tys n B (wordS B n xHill s) w) (q : XR fr td w0 (wordS B n xHill s) w) : V l D tys A 135 6 0 0 (fun r w => r = none ∧ XA ad tys n B (firT B n s) w ∧ XR (firF B n fr s) td w0 (firT B n s) w) 0 0 17 (lv_args 0 [.ref (ad 1), .ref (ad 16)]) [] w := by
  obtain ⟨-, -, -, -, -, -, -, xe7, xe8, xe9, xe10, -⟩ := xw_eq
  refine V_aload (v := ad 1) mi_135_17 (by simp [stL, lv_args, Value.category]) ?_
  refine V_ldcS mi_135_18 ?_
  refine V_cO (As := [.ref (D.2 1000 8)]) (st := []) mi_135_20 (by omega) (by decide +kernel) (by decide +kernel) (by omega) g1o h.1 (ewx_ct (i := 8) (s := firA B n s) (by omega) (XB_word h) XMK_rf) (by omega) (show 1 = mN 144 by decide +kernel) (by simp [Value.category]) ?_
  rintro r w ⟨rfl, h, O⟩
  rw [xe8] at h
  replace q := XR_to q O h (fun g => need_wok (word_ok g))
  refine V_aload (v := ad 16) mi_135_23 (by simp [stL, lv_args, Value.category]) ?_
  refine V_aload (v := ad 1) mi_135_24 (by simp [stL, lv_args, Value.category]) ?_
  refine V_ipush mi_135_25 ?_
  refine V_ipush mi_135_26 ?_
  refine V_cO (As := [.int (Int32.ofInt (2)), .int (Int32.ofInt (9))]) (st := [.ref (ad 16)]) mi_135_28 (by omega) (by decide +kernel) (by decide +kernel) (by omega) g1o h.1 (expx_ct (lo := 2) (hi := 9) (s := needS B n xSyll (firA B n s)) ⟨by omega, by omega⟩ ⟨by omega, by omega⟩ (by omega) (XB_word h) XMK_rf) (by omega) (show 2 = mN 141 by decide +kernel) (by simp [Value.category]) ?_
  rintro r w ⟨rfl, h, O⟩
  change V l D tys A 135 6 0 0 _ 0 0 _ _ ((some (Value.int (Int32.ofInt (toldR B n xSyll 2 9 (firA B n s))))).toList ++ _) _
  replace q := XR_to q O h (fun g => need_wok (num2_ok g).1)
  have bd : toldR B n xSyll 2 9 (firA B n s) = 0 ∨ (2 ≤ toldR B n xSyll 2 9 (firA B n s) ∧ toldR B n xSyll 2 9 (firA B n s) ≤ 9) := numR_bd
  refine V_pO mi_135_31 g16f1 (by omega) (by decide +kernel) (by decide +kernel) h.1 (by rw [Int32.toInt_ofInt_of_le (by omega) (by omega)]; omega) (by rw [Int32.toInt_ofInt_of_le (by omega) (by omega)]; omega) (fun w' G1 U1 => ?_)
  replace q := XR_put (j := 0) (z := toldR B n xSyll 2 9 (firA B n s)) q (fun c i hc => upd_ne U1 (fun e => hc e.1)) (by omega) (by omega) (fun _ => ⟨⟨by omega, by omega⟩, rfl, U1, ⟨by omega, by omega⟩, fun _ => by omega⟩)
  replace h := XA_keep h G1 (fun c i hc => upd_ne U1 (by omega))
  refine V_aload (v := ad 1) mi_135_34 (by simp [stL, lv_args, Value.category]) ?_
  refine V_ldcS mi_135_35 ?_
  refine V_cO (As := [.ref (D.2 1000 9)]) (st := []) mi_135_37 (by omega) (by decide +kernel) (by decide +kernel) (by omega) g1o h.1 (ewx_ct (i := 9) (s := firB B n s) (by omega) (XB_num h) XMK_rf) (by omega) (show 1 = mN 144 by decide +kernel) (by simp [Value.category]) ?_
  rintro r w ⟨rfl, h, O⟩
  rw [xe9] at h
  replace q := XR_to q O h (fun g => numT_2ok (word_ok g))
  refine V_aload (v := ad 16) mi_135_40 (by simp [stL, lv_args, Value.category]) ?_
  refine V_aload (v := ad 1) mi_135_41 (by simp [stL, lv_args, Value.category]) ?_
  refine V_ipush mi_135_42 ?_
  refine V_ipush mi_135_43 ?_
  refine V_cO (As := [.int (Int32.ofInt (1)), .int (Int32.ofInt (4))]) (st := [.ref (ad 16)]) mi_135_44 (by omega) (by decide +kernel) (by decide +kernel) (by omega) g1o h.1 (expx_ct (lo := 1) (hi := 4) (s := needS B n xPlac (firB B n s)) ⟨by omega, by omega⟩ ⟨by omega, by omega⟩ (by omega) (XB_word h) XMK_rf) (by omega) (show 2 = mN 141 by decide +kernel) (by simp [Value.category]) ?_
  rintro r w ⟨rfl, h, O⟩
  change V l D tys A 135 6 0 0 _ 0 0 _ _ ((some (Value.int (Int32.ofInt (toldR B n xPlac 1 4 (firB B n s))))).toList ++ _) _
  replace q := XR_to q O h (fun g => need_wok (num2_ok g).1)
  have bd : toldR B n xPlac 1 4 (firB B n s) = 0 ∨ (1 ≤ toldR B n xPlac 1 4 (firB B n s) ∧ toldR B n xPlac 1 4 (firB B n s) ≤ 4) := numR_bd
  refine V_pO mi_135_47 g16f2 (by omega) (by decide +kernel) (by decide +kernel) h.1 (by rw [Int32.toInt_ofInt_of_le (by omega) (by omega)]; omega) (by rw [Int32.toInt_ofInt_of_le (by omega) (by omega)]; omega) (fun w' G1 U1 => ?_)
  replace q := XR_put (j := 1) (z := toldR B n xPlac 1 4 (firB B n s)) q (fun c i hc => upd_ne U1 (fun e => hc e.1)) (by omega) (by omega) (fun _ => ⟨⟨by omega, by omega⟩, rfl, U1, ⟨by omega, by omega⟩, fun _ => by omega⟩)
  replace h := XA_keep h G1 (fun c i hc => upd_ne U1 (by omega))
  refine V_aload (v := ad 1) mi_135_50 (by simp [stL, lv_args, Value.category]) ?_
  refine V_ldcS mi_135_51 ?_
  refine V_cO (As := [.ref (D.2 1000 10)]) (st := []) mi_135_53 (by omega) (by decide +kernel) (by decide +kernel) (by omega) g1o h.1 (ewx_ct (i := 10) (s := firC B n s) (by omega) (XB_num h) XMK_rf) (by omega) (show 1 = mN 144 by decide +kernel) (by simp [Value.category]) ?_
  rintro r w ⟨rfl, h, O⟩
  rw [xe10] at h
  replace q := XR_to q O h (fun g => numT_2ok (word_ok g))
  refine V_aload (v := ad 16) mi_135_56 (by simp [stL, lv_args, Value.category]) ?_
  refine V_aload (v := ad 1) mi_135_57 (by simp [stL, lv_args, Value.category]) ?_
  refine V_ipush mi_135_58 ?_
  refine V_ipush mi_135_59 ?_
  refine V_cO (As := [.int (Int32.ofInt (1)), .int (Int32.ofInt (24))]) (st := [.ref (ad 16)]) mi_135_61 (by omega) (by decide +kernel) (by decide +kernel) (by omega) g1o h.1 (expx_ct (lo := 1) (hi := 24) (s := needS B n xHour (firC B n s)) ⟨by omega, by omega⟩ ⟨by omega, by omega⟩ (by omega) (XB_word h) XMK_rf) (by omega) (show 2 = mN 141 by decide +kernel) (by simp [Value.category]) ?_
  rintro r w ⟨rfl, h, O⟩
  change V l D tys A 135 6 0 0 _ 0 0 _ _ ((some (Value.int (Int32.ofInt (toldR B n xHour 1 24 (firC B n s))))).toList ++ _) _
  replace q := XR_to q O h (fun g => need_wok (num2_ok g).1)
  have bd : toldR B n xHour 1 24 (firC B n s) = 0 ∨ (1 ≤ toldR B n xHour 1 24 (firC B n s) ∧ toldR B n xHour 1 24 (firC B n s) ≤ 24) := numR_bd
  refine V_pO mi_135_64 g16f3 (by omega) (by decide +kernel) (by decide +kernel) h.1 (by rw [Int32.toInt_ofInt_of_le (by omega) (by omega)]; omega) (by rw [Int32.toInt_ofInt_of_le (by omega) (by omega)]; omega) (fun w' G1 U1 => ?_)
  replace q := XR_put (j := 2) (z := toldR B n xHour 1 24 (firC B n s)) q (fun c i hc => upd_ne U1 (fun e => hc e.1)) (by omega) (by omega) (fun _ => ⟨⟨by omega, by omega⟩, rfl, U1, ⟨by omega, by omega⟩, fun _ => by omega⟩)
  replace h := XA_keep h G1 (fun c i hc => upd_ne U1 (by omega))
  refine V_aload (v := ad 1) mi_135_67 (by simp [stL, lv_args, Value.category]) ?_
  refine V_gR mi_135_68 g1r (by omega) h.1 ?_
  refine V_cO (As := []) (st := []) mi_135_71 (by omega) (by decide +kernel) (by decide +kernel) (by omega) g2o h.1 (advx_ct (s := firT B n s) (XB_num h) XMK_rf) (by omega) (show 0 = mN 188 by decide +kernel) (by simp [Value.category]) ?_
  rintro r w ⟨rfl, h, O⟩
  exact V_retV mi_135_74 ⟨rfl, h, XR_to q O h (fun g => numT_2ok g)⟩
theorem rhx_ct {n : Nat} {B fr td : Nat → Int} {s : TS} {w0 : va_W} (h : XA ad tys n B s ws) (q : XR fr td w0 s ws) : CT l D tys A 135 6 0 0 [.ref (ad 1), .ref (ad 16)] ws (fun r w => r = none ∧ XA ad tys n B (firT B n s) w ∧ XR (firF B n fr s) td w0 (firT B n s) w) := by
  obtain ⟨-, -, -, -, -, -, -, xe7, xe8, xe9, xe10, -⟩ := xw_eq
  refine CT_of_V (by omega) (show (2 : Nat) ≤ mML 135 by decide +kernel) ?_
  refine V_aload (v := ad 1) mi_135_0 (by simp [stL, lv_args, Value.category]) ?_
  refine V_gR mi_135_1 g1r (by omega) h.1 ?_
  refine V_ldcS mi_135_4 ?_
  refine V_cO (As := [.ref (D.2 1000 7)]) (st := []) mi_135_6 (by omega) (by decide +kernel) (by decide +kernel) (by omega) g2o h.1 (wordx_ct (i := 7) (by omega) h) (by omega) (show 1 = mN 191 by decide +kernel) (by simp [Value.category]) ?_
  rintro r w1 ⟨rfl, b, rfl, hb⟩
  refine V_bne mi_135_9  (fun q2 => ?_) (fun q2 => ?_)
  · have e : wordS B n xHill s = s := by
      unfold wordS
      by_cases g : s.2.1 = 0
      · rw [← xe7, ← hb g, q2, if_pos rfl]
      · rw [errS_bad g, ite_self]
    exact rh_17 (by rw [e]; exact h) (by rw [e]; exact q)
  · refine V_aload (v := ad 1) mi_135_12 (by simp [stL, lv_args, Value.category]) ?_
    refine V_ipush mi_135_13 ?_
    refine V_cO (As := [.int (Int32.ofInt (1))]) (st := []) mi_135_14 (by omega) (by decide +kernel) (by decide +kernel) (by omega) g1o h.1 (failx_ct h XMK_rf (by omega) (by omega)) (by omega) (show 1 = mN 146 by decide +kernel) (by simp [Value.category]) ?_
    rintro r w ⟨rfl, h, O⟩
    have e : wordS B n xHill s = errS 1 s := by
      unfold wordS
      by_cases g : s.2.1 = 0
      · rw [← xe7, ← hb g, q2, if_neg Bool.false_ne_true]
      · rw [errS_bad g, ite_self]
    exact rh_17 (by rw [e]; exact h) (by rw [e]; exact XR_bad (XR_of (s2 := s) q O (fun g => g)) (err_ok (by decide)))
theorem rgx_ct {n : Nat} {B fr td : Nat → Int} {s : TS} {w0 : va_W} (h : XB ad tys n B s ws) (q : XR fr td w0 s ws) : CT l D tys A 137 6 0 0 [.ref (ad 1), .ref (ad 16)] ws (fun r w => r = none ∧ XA ad tys n B (goT fr B n s) w ∧ XR fr (goD fr td B n s) w0 (goT fr B n s) w) := by
  obtain ⟨-, -, -, -, -, -, -, -, -, -, -, xe11⟩ := xw_eq
  refine CT_of_V (by omega) (show (2 : Nat) ≤ mML 137 by decide +kernel) ?_
  refine V_aload (v := ad 1) mi_137_0 (by simp [stL, lv_args, Value.category]) ?_
  refine V_aload (v := ad 16) mi_137_1 (by simp [stL, lv_args, Value.category]) ?_
  refine V_cO (As := [.ref (ad 16)]) (st := []) mi_137_2 (by omega) (by decide +kernel) (by decide +kernel) (by omega) g1o h.1 (folkx_ct h q) (by omega) (show 1 = mN 140 by decide +kernel) (by simp [Value.category]) ?_
  rintro r w ⟨rfl, h, q⟩
  refine V_istore mi_137_5 ?_
  refine V_aload (v := ad 1) mi_137_6 (by simp [stL, lv_args, Value.category]) ?_
  refine V_ipush mi_137_7 ?_
  refine V_aload (v := ad 16) mi_137_8 (by simp [stL, lv_args, Value.category]) ?_
  obtain ⟨pl, plh, pl0, pl1⟩ := celO h.1 g16f2 (by omega)
  refine V_gO mi_137_9 g16o h.1 (plh) ?_
  refine V_ipush mi_137_12 ?_
  refine V_ibin mi_137_13 (by omega) ?_
  rw [ib1]
  obtain ⟨ep1, ep2⟩ := num2_cg (lo := 0) (hi := pl - 1) (hi' := fr 1 - 1) (s := folkT B n fr s) (fun g => by rw [(XR_at (j := 1) q plh ⟨by omega, by omega⟩ (numT_2ok g) (by omega) (by omega) rfl rfl).1])
  refine V_cO (As := [.int (Int32.ofInt (0)), .int (Int32.ofInt ((pl) - (1)))]) (st := []) mi_137_14 (by omega) (by decide +kernel) (by decide +kernel) (by omega) g1o h.1 (expx_ct (s := folkT B n fr s) ⟨by omega, by omega⟩ ⟨by omega, by omega⟩ (by omega) (XB_num h) XMK_rf) (by omega) (show 2 = mN 141 by decide +kernel) (by simp [Value.category]) ?_
  rintro r w ⟨rfl, h, O⟩
  rw [ep2]
  rw [ep1] at h
  replace q := XR_to q O h (fun g => numT_2ok (num2_ok g).1)
  refine V_istore mi_137_17 ?_
  refine V_aload (v := ad 1) mi_137_18 (by simp [stL, lv_args, Value.category]) ?_
  refine V_ldcS mi_137_19 ?_
  refine V_cO (As := [.ref (D.2 1000 11)]) (st := []) mi_137_21 (by omega) (by decide +kernel) (by decide +kernel) (by omega) g1o h.1 (ewx_ct (i := 11) (s := goP fr B n s) (by omega) (XB_num h) XMK_rf) (by omega) (show 1 = mN 144 by decide +kernel) (by simp [Value.category]) ?_
  rintro r w ⟨rfl, h, O⟩
  rw [xe11] at h
  replace q := XR_to q O h (fun g => numT_2ok (word_ok g))
  refine V_aload (v := ad 1) mi_137_24 (by simp [stL, lv_args, Value.category]) ?_
  refine V_ipush mi_137_25 ?_
  refine V_aload (v := ad 16) mi_137_26 (by simp [stL, lv_args, Value.category]) ?_
  obtain ⟨ho, hoh, ho0, ho1⟩ := celO h.1 g16f3 (by omega)
  refine V_gO mi_137_27 g16o h.1 (hoh) ?_
  refine V_ipush mi_137_30 ?_
  refine V_ibin mi_137_31 (by omega) ?_
  rw [ib1]
  obtain ⟨eh1, eh2⟩ := num2_cg (lo := 0) (hi := ho - 1) (hi' := fr 2 - 1) (s := goN fr B n s) (fun g => by rw [(XR_at (j := 2) q hoh ⟨by omega, by omega⟩ (need_wok g) (by omega) (by omega) rfl rfl).1])
  refine V_cO (As := [.int (Int32.ofInt (0)), .int (Int32.ofInt ((ho) - (1)))]) (st := []) mi_137_32 (by omega) (by decide +kernel) (by decide +kernel) (by omega) g1o h.1 (expx_ct (s := goN fr B n s) ⟨by omega, by omega⟩ ⟨by omega, by omega⟩ (by omega) (XB_word h) XMK_rf) (by omega) (show 2 = mN 141 by decide +kernel) (by simp [Value.category]) ?_
  rintro r w ⟨rfl, h, O⟩
  rw [eh2]
  change V l D tys A 137 6 0 0 _ 0 0 _ _ ((some (Value.int (Int32.ofInt (hourR fr (goN fr B n s))))).toList ++ _) _
  rw [eh1] at h
  replace q := XR_to q O h (fun g => need_wok (num2_ok g).1)
  refine V_istore mi_137_35 ?_
  refine V_aload (v := ad 16) mi_137_37 (by simp [stL, lv_args, Value.category]) ?_
  refine V_gR mi_137_38 g16r11 (by omega) h.1 ?_
  refine V_iload (v := Int32.ofInt (folkR fr s)) mi_137_41 (by simp [stL, lv_args, Value.category]) ?_
  refine V_ipush mi_137_42 ?_
  refine V_ibin mi_137_44 (by omega) ?_
  rw [ib2]
  refine V_iload (v := Int32.ofInt (hourR fr (goN fr B n s))) mi_137_45 (by simp [stL, lv_args, Value.category]) ?_
  refine V_ibin mi_137_47 (by omega) ?_
  rw [ib0]
  refine V_iload (v := Int32.ofInt (numR 0 (fr 1 - 1) (folkT B n fr s))) mi_137_48 (by simp [stL, lv_args, Value.category]) ?_
  have gi : (num2 0 (fr 2 - 1) (goN fr B n s)).2.1 = 0 → (goI fr B n s < 144 ∧ folkR fr s * 24 + hourR fr (goN fr B n s) = (goI fr B n s : Int)) ∧ 0 ≤ numR 0 (fr 1 - 1) (folkT B n fr s) ∧ numR 0 (fr 1 - 1) (folkT B n fr s) ≤ 3 := fun g => by
    obtain ⟨-, d1, d2, d3, -⟩ := XR_bds h.1 q g
    obtain ⟨k1, -, k2, k3, -⟩ := num2_ok g
    obtain ⟨k4, -, -⟩ := need_ok k1
    obtain ⟨k5, -, k6, k7, -⟩ := num_ok (B := B) (n := n) (s := folkT B n fr s) k4
    obtain ⟨-, -, k8, k9, -⟩ := num_ok (B := B) (n := n) (s := s) k5
    have k3 : hourR fr (goN fr B n s) = (goN fr B n s).1.2.2.2 := k3
    have k9 : folkR fr s = s.1.2.2.2 := k9
    unfold goI
    rw [Int.toNat_of_nonneg (by omega)]
    omega
  refine V_stat (As := [.ref (ad 22), .int (Int32.ofInt (((folkR fr s) * (24)) + (hourR fr (goN fr B n s)))), .int (Int32.ofInt (numR 0 (fr 1 - 1) (folkT B n fr s)))]) (st := []) mi_137_49 (by omega) (putx_ct a22 h.1 (by omega) (i32b _).1 (i32b _).2) (by omega) (show 3 = mN 148 by decide +kernel) (by simp [Value.category]) ⟨Nat.le_refl _, Nat.le_refl _⟩ ?_
  rintro r w' ⟨rfl, G1, o, u⟩
  replace q := XR_ptd (j := goI fr B n s) (z := numR 0 (fr 1 - 1) (folkT B n fr s)) q o (fun g => ⟨(gi g).1.1, u _ (gi g).1.1 (by rw [(gi g).1.2]), by have := (gi g).2; omega, (gi g).2.2⟩)
  replace h := XA_keep h G1 (fun c i hc => o c i (by omega))
  refine V_aload (v := ad 1) mi_137_52 (by simp [stL, lv_args, Value.category]) ?_
  refine V_gR mi_137_53 g1r (by omega) h.1 ?_
  refine V_cO (As := []) (st := []) mi_137_56 (by omega) (by decide +kernel) (by decide +kernel) (by omega) g2o h.1 (advx_ct (s := goT fr B n s) (XB_num h) XMK_rf) (by omega) (show 0 = mN 188 by decide +kernel) (by simp [Value.category]) ?_
  rintro r w ⟨rfl, h, O⟩
  refine V_retV mi_137_59 ⟨rfl, h, XR_cg (XR_to q O h (fun g => numT_2ok g)) (fun g => ⟨rfl, ?_⟩)⟩
  unfold goD
  rw [if_pos g]
theorem rkx_ct {n : Nat} {B fr td : Nat → Int} {s : TS} {w0 : va_W} (h : XB ad tys n B s ws) (q : XR fr td w0 s ws) : CT l D tys A 138 3 0 0 [.ref (ad 1), .ref (ad 16)] ws (fun r w => r = none ∧ XA ad tys n B (knT fr B n s) w ∧ XR (knG fr B n s) td w0 (knT fr B n s) w) := by
  have f3 : s.2.1 = 0 → 0 ≤ fr 3 ∧ fr 3 ≤ 6 := fun g => (XR_bds h.1 q g).2.2.2.1
  have fI : ∀ t : TS, (t.2.1 = 0 → s.2.1 = 0) → I32 (numR 0 (fr 3 - 1) t) := fun t m => by
    by_cases g : t.2.1 = 0
    · have := f3 (m g)
      rcases numR_bd (lo := 0) (hi := fr 3 - 1) (s := t) with e | e <;> exact ⟨by omega, by omega⟩
    · have e : num2 0 (fr 3 - 1) t = errS 1 t := num2_K (fun q => absurd q g)
      rw [numR_bad (by rw [e]; exact err_ok (by decide))]
      exact ⟨by omega, by omega⟩
  refine CT_of_V (by omega) (show (2 : Nat) ≤ mML 138 by decide +kernel) ?_
  refine V_aload (v := ad 1) mi_138_0 (by simp [stL, lv_args, Value.category]) ?_
  refine V_aload (v := ad 16) mi_138_1 (by simp [stL, lv_args, Value.category]) ?_
  refine V_cO (As := [.ref (ad 16)]) (st := []) mi_138_2 (by omega) (by decide +kernel) (by decide +kernel) (by omega) g1o h.1 (folkx_ct h q) (by omega) (show 1 = mN 140 by decide +kernel) (by simp [Value.category]) ?_
  rintro r w ⟨rfl, h, q⟩
  change V l D tys A 138 3 0 0 _ 0 0 _ _ ((some (Value.int (Int32.ofInt (knF fr s)))).toList ++ _) _
  refine V_istore mi_138_5 ?_
  refine V_aload (v := ad 1) mi_138_6 (by simp [stL, lv_args, Value.category]) ?_
  refine V_aload (v := ad 16) mi_138_7 (by simp [stL, lv_args, Value.category]) ?_
  refine V_cO (As := [.ref (ad 16)]) (st := []) mi_138_8 (by omega) (by decide +kernel) (by decide +kernel) (by omega) g1o h.1 (folkx_ct (s := folkT B n fr s) (XB_num h) (XR_of q XMK_rf (fun g => numT_2ok g))) (by omega) (show 1 = mN 140 by decide +kernel) (by simp [Value.category]) ?_
  rintro r w ⟨rfl, h, q⟩
  refine V_istore mi_138_11 ?_
  refine V_aload (v := ad 1) mi_138_12 (by simp [stL, lv_args, Value.category]) ?_
  refine V_iload (v := Int32.ofInt (knF fr s)) mi_138_13 (by simp [stL, lv_args, Value.category]) ?_
  refine V_iload (v := Int32.ofInt (folkR fr (folkT B n fr s))) mi_138_14 (by simp [stL, lv_args, Value.category]) ?_
  refine V_cO (As := [.int (Int32.ofInt (knF fr s)), .int (Int32.ofInt (folkR fr (folkT B n fr s)))]) (st := []) mi_138_15 (by omega) (by decide +kernel) (by decide +kernel) (by omega) g1o h.1 (refx_ct (f := knF fr s) (o := folkR fr (folkT B n fr s)) (fI s (fun g => g)) (fI _ (fun g => (num_ok g).1)) h XMK_rf) (by omega) (show 2 = mN 142 by decide +kernel) (by simp [Value.category]) ?_
  rintro r w ⟨rfl, h, O⟩
  have f0 : (folkT B n fr s).2.1 = 0 → 0 ≤ knF fr s ∧ knF fr s ≤ fr 3 - 1 := fun g => by
    obtain ⟨-, -, k8, k9, -⟩ := num_ok (B := B) (n := n) (s := s) g
    have k9 : knF fr s = s.1.2.2.2 := k9
    omega
  rw [show (if knF fr s = folkR fr (folkT B n fr s) then errS 2 (num2 0 (fr 3 - 1) (folkT B n fr s)) else num2 0 (fr 3 - 1) (folkT B n fr s)) = num2 0 (fr 3 - 1) (otheP (knF fr s) (folkT B n fr s)) from oth_eq f0] at h
  replace q := XR_to q O h (fun g => (oth_ok g).1)
  have h : XA ad tys n B (num2 0 (fr 3 - 1) (otheP (knF fr s) (folkT B n fr s))) w := h
  refine V_aload (v := ad 1) mi_138_18 (by simp [stL, lv_args, Value.category]) ?_
  refine V_ipush mi_138_19 ?_
  refine V_aload (v := ad 16) mi_138_20 (by simp [stL, lv_args, Value.category]) ?_
  refine V_iload (v := Int32.ofInt (folkR fr (folkT B n fr s))) mi_138_21 (by simp [stL, lv_args, Value.category]) ?_
  refine V_cO (As := [.int (Int32.ofInt (folkR fr (folkT B n fr s)))]) (st := [.int (Int32.ofInt (0)), .ref (ad 1)]) mi_138_22 (by omega) (by decide +kernel) (by decide +kernel) (by omega) g16o h.1 (lenx_ct h.1) (by omega) (show 1 = mN 106 by decide +kernel) (by simp [Value.category]) ?_
  rintro r w1 ⟨rfl, p, rfl, p0, p7, hp⟩
  refine V_ipush mi_138_25 ?_
  refine V_ibin mi_138_26 (by omega) ?_
  rw [ib1]
  obtain ⟨-, -, -, -, -, -⟩ := xw_eq
  have gO : (knS fr B n s).2.1 = 0 → (folkR fr (folkT B n fr s) = (knO fr B n s : Int) ∧ knO fr B n s < 6) ∧ s.2.1 = 0 := fun g => by
    have g2 := numT_2ok g
    obtain ⟨o1, o2, -⟩ := oth_ok g2
    obtain ⟨-, -, o3, o4, -⟩ := num2_ok o1
    have gs : s.2.1 = 0 := (num_ok (B := B) (n := n) (num2_ok o1).1).1
    have b3 := f3 gs
    have e : knO fr B n s = (numR 0 (fr 3 - 1) (folkT B n fr s)).toNat := by
      rw [o2]
      rfl
    have o4 : folkR fr (folkT B n fr s) = (folkT B n fr s).1.2.2.2 := o4
    have e : knO fr B n s = (folkR fr (folkT B n fr s)).toNat := e
    rw [e, Int.toNat_of_nonneg (by omega)]
    exact ⟨⟨rfl, by omega⟩, gs⟩
  obtain ⟨ep1, ep2⟩ := num2_cg (lo := 0) (hi := p - 1) (hi' := fr (6 + 7 * knO fr B n s) - 1) (s := knS fr B n s) (fun g => by
    obtain ⟨⟨o1, o2⟩, -⟩ := gO g
    obtain ⟨x1, x2, x3, x4⟩ := len_hx o2
    rw [(XR_at (j := 6 + 7 * knO fr B n s) q (hp _ o2 (by rw [o1])) ⟨by omega, by omega⟩ (numT_2ok g) x1 x2 x3 x4).1])
  refine V_cO (As := [.int (Int32.ofInt (0)), .int (Int32.ofInt ((p) - (1)))]) (st := []) mi_138_27 (by omega) (by decide +kernel) (by decide +kernel) (by omega) g1o h.1 (expx_ct (s := knS fr B n s) ⟨by omega, by omega⟩ ⟨by omega, by omega⟩ (by omega) (XB_num h) XMK_rf) (by omega) (show 2 = mN 141 by decide +kernel) (by simp [Value.category]) ?_
  rintro r w ⟨rfl, h, O⟩
  rw [ep2]
  change V l D tys A 138 3 0 0 _ 0 0 _ _ ((some (Value.int (Int32.ofInt (knI fr B n s)))).toList ++ _) _
  rw [ep1] at h
  replace q := XR_to q O h (fun g => numT_2ok (num2_ok g).1)
  refine V_istore mi_138_30 ?_
  refine V_iload (v := Int32.ofInt (knF fr s)) mi_138_32 (by simp [stL, lv_args, Value.category]) ?_
  refine V_ipush mi_138_33 ?_
  refine V_ibin mi_138_35 (by omega) ?_
  rw [ib2]
  refine V_iload (v := Int32.ofInt (folkR fr (folkT B n fr s))) mi_138_36 (by simp [stL, lv_args, Value.category]) ?_
  refine V_ibin mi_138_37 (by omega) ?_
  rw [ib0]
  refine V_istore mi_138_38 ?_
  refine V_aload (v := ad 16) mi_138_40 (by simp [stL, lv_args, Value.category]) ?_
  refine V_gR mi_138_41 g16r12 (by omega) h.1 ?_
  refine V_iload (v := Int32.ofInt (((knF fr s) * (6)) + (folkR fr (folkT B n fr s)))) mi_138_44 (by simp [stL, lv_args, Value.category]) ?_
  refine V_aload (v := ad 16) mi_138_46 (by simp [stL, lv_args, Value.category]) ?_
  refine V_gR mi_138_47 g16r12 (by omega) h.1 ?_
  refine V_iload (v := Int32.ofInt (((knF fr s) * (6)) + (folkR fr (folkT B n fr s)))) mi_138_50 (by simp [stL, lv_args, Value.category]) ?_
  refine V_stat (As := [.ref (ad 23), .int (Int32.ofInt (((knF fr s) * (6)) + (folkR fr (folkT B n fr s))))]) (st := [.int (Int32.ofInt (((knF fr s) * (6)) + (folkR fr (folkT B n fr s)))), .ref (ad 23)]) mi_138_52 (by omega) (atx_ct a23 h.1 (by omega)) (by omega) (show 2 = mN 147 by decide +kernel) (by simp [Value.category]) ⟨Nat.le_refl _, Nat.le_refl _⟩ ?_
  rintro r w1 ⟨rfl, v, rfl, hv⟩
  refine V_ipush mi_138_55 ?_
  refine V_iload (v := Int32.ofInt (knI fr B n s)) mi_138_56 (by simp [stL, lv_args, Value.category]) ?_
  refine V_ibin mi_138_58 (by omega) ?_
  refine V_ibin mi_138_59 (by omega) ?_
  refine V_stat (As := [.ref (ad 23), .int (Int32.ofInt (((knF fr s) * (6)) + (folkR fr (folkT B n fr s)))), .int (ibF 6 (v) (ibF 8 (Int32.ofInt (1)) (Int32.ofInt (knI fr B n s))))]) (st := []) mi_138_60 (by omega) (putx_ct a23 h.1 (by omega) (i32b _).1 (i32b _).2) (by omega) (show 3 = mN 148 by decide +kernel) (by simp [Value.category]) ⟨Nat.le_refl _, Nat.le_refl _⟩ ?_
  rintro r w' ⟨rfl, G1, o, u⟩
  have gi : (num2 0 (fr (6 + 7 * knO fr B n s) - 1) (knS fr B n s)).2.1 = 0 → (knJ fr B n s < 294 ∧ ¬ (102 ≤ knJ fr B n s ∧ knJ fr B n s < 246)) ∧ 23 = 16 + hxC (knJ fr B n s) ∧ Upd1 w1 w' 23 (hxI (knJ fr B n s)) (.int (Int32.ofInt (bitO (fr (knJ fr B n s)) (knI fr B n s)))) ∧ (0 ≤ bitO (fr (knJ fr B n s)) (knI fr B n s) ∧ bitO (fr (knJ fr B n s)) (knI fr B n s) ≤ 4095) ∧ (60 ≤ knJ fr B n s ∧ knJ fr B n s < 102 → bitO (fr (knJ fr B n s)) (knI fr B n s) ≤ 127) := fun g => by
    obtain ⟨k1, -, k2, k3, -⟩ := num2_ok g
    have k3 : knI fr B n s = (knS fr B n s).1.2.2.2 := k3
    obtain ⟨⟨o1, o2⟩, gs⟩ := gO k1
    have bd := XR_bds h.1 q g
    have b3 := bd.2.2.2.1
    have b7 := bd.2.2.2.2.2 _ o2
    obtain ⟨-, -, o3, o4, -⟩ := num_ok (B := B) (n := n) (lo := 0) (hi := fr 3 - 1) (s := s) (num2_ok (oth_ok (numT_2ok k1)).1).1
    have o4 : knF fr s = s.1.2.2.2 := o4
    have J : knJ fr B n s = 66 + (6 * (knF fr s).toNat + knO fr B n s) := by unfold knJ; omega
    have j36 : 6 * (knF fr s).toNat + knO fr B n s < 36 := by omega
    have e1 : hxC (knJ fr B n s) = 7 := by
      unfold hxC
      rw [if_neg (by omega), if_neg (by omega), if_neg (by omega), if_neg (by omega), if_neg (by omega), if_pos (by omega)]
    have e2 : hxI (knJ fr B n s) = 6 * (knF fr s).toNat + knO fr B n s := by
      unfold hxI
      rw [if_neg (by omega), if_neg (by omega), if_neg (by omega), if_neg (by omega), if_neg (by omega), if_pos (by omega)]
      omega
    have ei : knF fr s * 6 + folkR fr (folkT B n fr s) = ((6 * (knF fr s).toNat + knO fr B n s : Nat) : Int) := by omega
    have hv := hv _ j36 (by rw [ei])
    obtain ⟨ve, v0, v1⟩ := XR_at (p := v.toInt) (j := knJ fr B n s) q (by rw [Int32.ofInt_toInt]; exact hv) (i32b v) g (by omega) (by omega) (by omega) e2.symm
    have U := u _ j36 (by rw [ei])
    rw [← e2, show v = Int32.ofInt (fr (knJ fr B n s)) by rw [← ve, Int32.ofInt_toInt], show ibF 6 (Int32.ofInt (fr (knJ fr B n s))) (ibF 8 (Int32.ofInt 1) (Int32.ofInt (knI fr B n s))) = Int32.ofInt (bitO (fr (knJ fr B n s)) (knI fr B n s)) by unfold bitO; rw [Int32.ofInt_toInt]] at U
    have bb := bitO_b2 (a := fr (knJ fr B n s)) (i := knI fr B n s) v0 (XR_bit q g (by omega)) (by omega) (by omega)
    exact ⟨⟨by omega, by omega⟩, by omega, U, ⟨bb.1, by omega⟩, fun _ => bb.2⟩
  replace q := XR_put (j := knJ fr B n s) q o (by omega) (by omega) gi
  replace h := XA_keep h G1 (fun c i hc => o c i (by omega))
  refine V_aload (v := ad 1) mi_138_63 (by simp [stL, lv_args, Value.category]) ?_
  refine V_gR mi_138_64 g1r (by omega) h.1 ?_
  refine V_cO (As := []) (st := []) mi_138_67 (by omega) (by decide +kernel) (by decide +kernel) (by omega) g2o h.1 (advx_ct (s := knT fr B n s) (XB_num h) XMK_rf) (by omega) (show 0 = mN 188 by decide +kernel) (by simp [Value.category]) ?_
  rintro r w ⟨rfl, h, O⟩
  refine V_retV mi_138_70 ⟨rfl, h, XR_cg (XR_to q O h (fun g => numT_2ok g)) (fun g => ⟨?_, rfl⟩)⟩
  unfold knG
  rw [if_pos g]
theorem say_hx {k r : Nat} (hk : k < 12) (hr : r < 4) : (246 + 4 * k + r < 294 ∧ ¬ (102 ≤ 246 + 4 * k + r ∧ 246 + 4 * k + r < 246)) ∧ 24 + r = 16 + hxC (246 + 4 * k + r) ∧ k = hxI (246 + 4 * k + r) := by
  have e1 : hxC (246 + 4 * k + r) = 8 + r := by
    unfold hxC
    rw [if_neg (by omega), if_neg (by omega), if_neg (by omega), if_neg (by omega), if_neg (by omega), if_neg (by omega), if_neg (by omega)]
    omega
  have e2 : hxI (246 + 4 * k + r) = k := by
    unfold hxI
    rw [if_neg (by omega), if_neg (by omega), if_neg (by omega), if_neg (by omega), if_neg (by omega), if_neg (by omega), if_neg (by omega)]
    omega
  exact ⟨⟨by omega, by omega⟩, by omega, by omega⟩
theorem addx_ct {n : Nat} {B fr td : Nat → Int} {s : TS} {w0 : va_W} {a b c e : Int} (bd : s.2.1 = 0 → fr 4 < 12 ∧ (0 ≤ a ∧ a ≤ 99) ∧ (0 ≤ b ∧ b ≤ 99) ∧ (0 ≤ c ∧ c ≤ 99) ∧ (0 ≤ e ∧ e ≤ 99)) (h : XA ad tys n B s ws) (q : XR fr td w0 s ws) : CT l D tys A 112 1 0 0 [.ref (ad 16), .int (Int32.ofInt (a)), .int (Int32.ofInt (b)), .int (Int32.ofInt (c)), .int (Int32.ofInt (e))] ws (fun r w => r = none ∧ XA ad tys n B s w ∧ XR (updI (updI (updI (updI (updI fr (saK fr + 0) a) (saK fr + 1) b) (saK fr + 2) c) (saK fr + 3) e) 4 (fr 4 + 1)) td w0 s w) := by
  obtain ⟨k, hk, k0, k12⟩ := celO h.1 g16f5 (by omega)
  have kf : s.2.1 = 0 → k = fr 4 := fun g => (XR_at (j := 4) q hk ⟨by omega, by omega⟩ g (by omega) (by omega) rfl rfl).1
  refine CT_of_V (by omega) (show (5 : Nat) ≤ mML 112 by decide +kernel) ?_
  refine V_aload (v := ad 16) mi_112_0 (by simp [stL, lv_args, Value.category]) ?_
  refine V_gO mi_112_1 g16o h.1 (hk) ?_
  refine V_ipush mi_112_4 ?_
  refine V_cge mi_112_6 ⟨by omega, by omega⟩ ⟨by omega, by omega⟩ (fun q12 => ?_) (fun q12 => ?_)
  · exact V_retV mi_112_68 ⟨rfl, h, XR_bad q (fun g => by have := kf g; have := bd g; omega)⟩
  · have gk : s.2.1 = 0 → k = fr 4 ∧ saK fr = 246 + 4 * k.toNat := fun g => by
      have := kf g
      refine ⟨this, ?_⟩
      unfold saK
      rw [this]
    refine V_aload (v := ad 16) mi_112_9 (by simp [stL, lv_args, Value.category]) ?_
    refine V_gR mi_112_10 g16r13 (by omega) h.1 ?_
    refine V_aload (v := ad 16) mi_112_13 (by simp [stL, lv_args, Value.category]) ?_
    refine V_gO mi_112_14 g16o h.1 (hk) ?_
    refine V_iload (v := Int32.ofInt (a)) mi_112_17 (by simp [stL, lv_args, Value.category]) ?_
    refine V_stat (As := [.ref (ad 24), .int (Int32.ofInt (k)), .int (Int32.ofInt (a))]) (st := []) mi_112_18 (by omega) (putx_ct a24 h.1 (by omega) (i32b _).1 (i32b _).2) (by omega) (show 3 = mN 148 by decide +kernel) (by simp [Value.category]) ⟨Nat.le_refl _, Nat.le_refl _⟩ ?_
    rintro r w0 ⟨rfl, G0, o0, u0⟩
    replace q := XR_put (j := saK fr + 0) (z := a) q o0 (by omega) (by omega) (fun g => by
      obtain ⟨e1, e2⟩ := gk g
      have b := bd g
      have hx := say_hx (k := k.toNat) (r := 0) (by omega) (by omega)
      rw [e2]
      refine ⟨hx.1, hx.2.1, ?_, by omega, fun _ => by omega⟩
      rw [← hx.2.2]
      exact u0 _ (by omega) (by rw [Int.toNat_of_nonneg (by omega)]))
    replace h := XA_keep h G0 (fun c i hc => o0 c i (by omega))
    have hk0 := (o0 16 5 (by omega)).trans hk
    refine V_aload (v := ad 16) mi_112_21 (by simp [stL, lv_args, Value.category]) ?_
    refine V_gR mi_112_22 g16r14 (by omega) h.1 ?_
    refine V_aload (v := ad 16) mi_112_25 (by simp [stL, lv_args, Value.category]) ?_
    refine V_gO mi_112_26 g16o h.1 (hk0) ?_
    refine V_iload (v := Int32.ofInt (b)) mi_112_29 (by simp [stL, lv_args, Value.category]) ?_
    refine V_stat (As := [.ref (ad 25), .int (Int32.ofInt (k)), .int (Int32.ofInt (b))]) (st := []) mi_112_30 (by omega) (putx_ct a25 h.1 (by omega) (i32b _).1 (i32b _).2) (by omega) (show 3 = mN 148 by decide +kernel) (by simp [Value.category]) ⟨Nat.le_refl _, Nat.le_refl _⟩ ?_
    rintro r w1 ⟨rfl, G1, o1, u1⟩
    replace q := XR_put (j := saK fr + 1) (z := b) q o1 (by omega) (by omega) (fun g => by
      obtain ⟨e1, e2⟩ := gk g
      have b := bd g
      have hx := say_hx (k := k.toNat) (r := 1) (by omega) (by omega)
      rw [e2]
      refine ⟨hx.1, hx.2.1, ?_, by omega, fun _ => by omega⟩
      rw [← hx.2.2]
      exact u1 _ (by omega) (by rw [Int.toNat_of_nonneg (by omega)]))
    replace h := XA_keep h G1 (fun c i hc => o1 c i (by omega))
    have hk1 := (o1 16 5 (by omega)).trans hk0
    refine V_aload (v := ad 16) mi_112_33 (by simp [stL, lv_args, Value.category]) ?_
    refine V_gR mi_112_34 g16r15 (by omega) h.1 ?_
    refine V_aload (v := ad 16) mi_112_37 (by simp [stL, lv_args, Value.category]) ?_
    refine V_gO mi_112_38 g16o h.1 (hk1) ?_
    refine V_iload (v := Int32.ofInt (c)) mi_112_41 (by simp [stL, lv_args, Value.category]) ?_
    refine V_stat (As := [.ref (ad 26), .int (Int32.ofInt (k)), .int (Int32.ofInt (c))]) (st := []) mi_112_42 (by omega) (putx_ct a26 h.1 (by omega) (i32b _).1 (i32b _).2) (by omega) (show 3 = mN 148 by decide +kernel) (by simp [Value.category]) ⟨Nat.le_refl _, Nat.le_refl _⟩ ?_
    rintro r w2 ⟨rfl, G2, o2, u2⟩
    replace q := XR_put (j := saK fr + 2) (z := c) q o2 (by omega) (by omega) (fun g => by
      obtain ⟨e1, e2⟩ := gk g
      have b := bd g
      have hx := say_hx (k := k.toNat) (r := 2) (by omega) (by omega)
      rw [e2]
      refine ⟨hx.1, hx.2.1, ?_, by omega, fun _ => by omega⟩
      rw [← hx.2.2]
      exact u2 _ (by omega) (by rw [Int.toNat_of_nonneg (by omega)]))
    replace h := XA_keep h G2 (fun c i hc => o2 c i (by omega))
    have hk2 := (o2 16 5 (by omega)).trans hk1
    refine V_aload (v := ad 16) mi_112_45 (by simp [stL, lv_args, Value.category]) ?_
    refine V_gR mi_112_46 g16r16 (by omega) h.1 ?_
    refine V_aload (v := ad 16) mi_112_49 (by simp [stL, lv_args, Value.category]) ?_
    refine V_gO mi_112_50 g16o h.1 (hk2) ?_
    refine V_iload (v := Int32.ofInt (e)) mi_112_53 (by simp [stL, lv_args, Value.category]) ?_
    refine V_stat (As := [.ref (ad 27), .int (Int32.ofInt (k)), .int (Int32.ofInt (e))]) (st := []) mi_112_55 (by omega) (putx_ct a27 h.1 (by omega) (i32b _).1 (i32b _).2) (by omega) (show 3 = mN 148 by decide +kernel) (by simp [Value.category]) ⟨Nat.le_refl _, Nat.le_refl _⟩ ?_
    rintro r w3 ⟨rfl, G3, o3, u3⟩
    replace q := XR_put (j := saK fr + 3) (z := e) q o3 (by omega) (by omega) (fun g => by
      obtain ⟨e1, e2⟩ := gk g
      have b := bd g
      have hx := say_hx (k := k.toNat) (r := 3) (by omega) (by omega)
      rw [e2]
      refine ⟨hx.1, hx.2.1, ?_, by omega, fun _ => by omega⟩
      rw [← hx.2.2]
      exact u3 _ (by omega) (by rw [Int.toNat_of_nonneg (by omega)]))
    replace h := XA_keep h G3 (fun c i hc => o3 c i (by omega))
    have hk3 := (o3 16 5 (by omega)).trans hk2
    refine V_aload (v := ad 16) mi_112_58 (by simp [stL, lv_args, Value.category]) ?_
    refine V_dup mi_112_59 (by simp [Value.category]) ?_
    refine V_gO mi_112_60 g16o h.1 (hk3) ?_
    refine V_ipush mi_112_63 ?_
    refine V_ibin mi_112_64 (by omega) ?_
    rw [ib0]
    refine V_pO mi_112_65 g16f5 (by omega) (by decide +kernel) (by decide +kernel) h.1 (by rw [Int32.toInt_ofInt_of_le (by omega) (by omega)]; omega) (by rw [Int32.toInt_ofInt_of_le (by omega) (by omega)]; omega) (fun w' G5 U5 => ?_)
    replace q := XR_put (j := 4) (z := fr 4 + 1) q (fun c i hc => upd_ne U5 (fun e => hc e.1)) (by omega) (by omega) (fun g => by
      obtain ⟨e1, e2⟩ := gk g
      have b := bd g
      rw [← e1]
      exact ⟨⟨by omega, by omega⟩, rfl, U5, by omega, fun _ => by omega⟩)
    replace h := XA_keep h G5 (fun c i hc => upd_ne U5 (by omega))
    exact V_retV mi_112_68 ⟨rfl, h, q⟩
theorem rsf_ct {n : Nat} {B fr td : Nat → Int} {s : TS} {w0 : va_W} (g : s.2.1 = 0) (e4 : fr 4 = 12) (h : XA ad tys n B s ws) (q : XR fr td w0 s ws) : CT l D tys A 139 6 0 0 [.ref (ad 1), .ref (ad 16)] ws (fun r w => r = none ∧ XA ad tys n B (errS 3 s) w ∧ XR fr td w0 (errS 3 s) w) := by
  obtain ⟨k, hk, k0, k12⟩ := celO h.1 g16f5 (by omega)
  have kf : k = fr 4 := (XR_at (j := 4) q hk ⟨by omega, by omega⟩ g (by omega) (by omega) rfl rfl).1
  refine CT_of_V (by omega) (show (2 : Nat) ≤ mML 139 by decide +kernel) ?_
  refine V_aload (v := ad 16) mi_139_0 (by simp [stL, lv_args, Value.category]) ?_
  refine V_gO mi_139_1 g16o h.1 (hk) ?_
  refine V_ipush mi_139_4 ?_
  refine V_clt mi_139_6 ⟨by omega, by omega⟩ ⟨by omega, by omega⟩ (fun q2 => ?_) (fun q2 => ?_)
  · exact absurd q2 (by have := kf; omega)
  · refine V_aload (v := ad 1) mi_139_9 (by simp [stL, lv_args, Value.category]) ?_
    refine V_ipush mi_139_10 ?_
    refine V_cO (As := [.int (Int32.ofInt (3))]) (st := []) mi_139_11 (by omega) (by decide +kernel) (by decide +kernel) (by omega) g1o h.1 (failx_ct h XMK_rf (by omega) (by omega)) (by omega) (show 1 = mN 146 by decide +kernel) (by simp [Value.category]) ?_
    rintro r w ⟨rfl, h, O⟩
    exact V_retV mi_139_14 ⟨rfl, h, XR_bad (XR_of (s2 := s) q O (fun g => g)) (err_ok (by decide))⟩
theorem rsx_ct {n : Nat} {B fr td : Nat → Int} {s : TS} {w0 : va_W} (g : s.2.1 = 0) (e4 : fr 4 < 12) (h : XA ad tys n B s ws) (q : XR fr td w0 s ws) : CT l D tys A 139 6 0 0 [.ref (ad 1), .ref (ad 16)] ws (fun r w => r = none ∧ XA ad tys n B (saT fr B n (advS B n s)) w ∧ XR (saG fr B n (advS B n s)) td w0 (saT fr B n (advS B n s)) w) := by
  obtain ⟨k, hk, k0, k12⟩ := celO h.1 g16f5 (by omega)
  have kf : k = fr 4 := (XR_at (j := 4) q hk ⟨by omega, by omega⟩ g (by omega) (by omega) rfl rfl).1
  obtain ⟨-, -, -, -, -, -, -, -, -, -, -, xe11⟩ := xw_eq
  refine CT_of_V (by omega) (show (2 : Nat) ≤ mML 139 by decide +kernel) ?_
  refine V_aload (v := ad 16) mi_139_0 (by simp [stL, lv_args, Value.category]) ?_
  refine V_gO mi_139_1 g16o h.1 (hk) ?_
  refine V_ipush mi_139_4 ?_
  refine V_clt mi_139_6 ⟨by omega, by omega⟩ ⟨by omega, by omega⟩ (fun q2 => ?_) (fun q2 => ?_)
  · have q : XR fr td w0 (advS B n s) ws := XR_of q XMK_rf (fun g => g)
    have h := XB_adv h
    generalize advS B n s = s at h q
    have f3 : s.2.1 = 0 → 0 ≤ fr 3 ∧ fr 3 ≤ 6 := fun g => (XR_bds h.1 q g).2.2.2.1
    refine V_aload (v := ad 1) mi_139_15 (by simp [stL, lv_args, Value.category]) ?_
    refine V_aload (v := ad 16) mi_139_16 (by simp [stL, lv_args, Value.category]) ?_
    refine V_cO (As := [.ref (ad 16)]) (st := []) mi_139_17 (by omega) (by decide +kernel) (by decide +kernel) (by omega) g1o h.1 (folkx_ct h q) (by omega) (show 1 = mN 140 by decide +kernel) (by simp [Value.category]) ?_
    rintro r w ⟨rfl, h, q⟩
    change V l D tys A 139 6 0 0 _ 0 0 _ _ ((some (Value.int (Int32.ofInt (saF fr s)))).toList ++ _) _
    refine V_istore mi_139_20 ?_
    refine V_aload (v := ad 1) mi_139_21 (by simp [stL, lv_args, Value.category]) ?_
    refine V_aload (v := ad 16) mi_139_22 (by simp [stL, lv_args, Value.category]) ?_
    refine V_cO (As := [.ref (ad 16)]) (st := []) mi_139_23 (by omega) (by decide +kernel) (by decide +kernel) (by omega) g1o h.1 (folkx_ct (s := saA fr B n s) (XB_num h) (XR_of q XMK_rf (fun g => numT_2ok g))) (by omega) (show 1 = mN 140 by decide +kernel) (by simp [Value.category]) ?_
    rintro r w ⟨rfl, h, q⟩
    refine V_istore mi_139_26 ?_
    refine V_aload (v := ad 1) mi_139_27 (by simp [stL, lv_args, Value.category]) ?_
    refine V_ipush mi_139_28 ?_
    refine V_aload (v := ad 16) mi_139_29 (by simp [stL, lv_args, Value.category]) ?_
    refine V_iload (v := Int32.ofInt (folkR fr (saA fr B n s))) mi_139_30 (by simp [stL, lv_args, Value.category]) ?_
    refine V_cO (As := [.int (Int32.ofInt (folkR fr (saA fr B n s)))]) (st := [.int (Int32.ofInt (0)), .ref (ad 1)]) mi_139_31 (by omega) (by decide +kernel) (by decide +kernel) (by omega) g16o h.1 (lenx_ct h.1) (by omega) (show 1 = mN 106 by decide +kernel) (by simp [Value.category]) ?_
    rintro r w1 ⟨rfl, p, rfl, p0, p7, hp⟩
    refine V_ipush mi_139_34 ?_
    refine V_ibin mi_139_35 (by omega) ?_
    rw [ib1]
    have gO : (saB fr B n s).2.1 = 0 → (folkR fr (saA fr B n s) = (saO fr B n s : Int) ∧ saO fr B n s < 6) ∧ s.2.1 = 0 := fun g => by
      obtain ⟨k1, -, k2, k3, -⟩ := num_ok (B := B) (n := n) (s := saA fr B n s) g
      have gs : s.2.1 = 0 := (num_ok (B := B) (n := n) (s := s) k1).1
      have b3 := f3 gs
      have k3 : folkR fr (saA fr B n s) = (saA fr B n s).1.2.2.2 := k3
      have e : saO fr B n s = (folkR fr (saA fr B n s)).toNat := rfl
      rw [e, Int.toNat_of_nonneg (by omega)]
      exact ⟨⟨rfl, by omega⟩, gs⟩
    obtain ⟨ep1, ep2⟩ := num2_cg (lo := 0) (hi := p - 1) (hi' := fr (6 + 7 * saO fr B n s) - 1) (s := saB fr B n s) (fun g => by
      obtain ⟨⟨o1, o2⟩, -⟩ := gO g
      obtain ⟨x1, x2, x3, x4⟩ := len_hx o2
      rw [(XR_at (j := 6 + 7 * saO fr B n s) q (hp _ o2 (by rw [o1])) ⟨by omega, by omega⟩ (numT_2ok g) x1 x2 x3 x4).1])
    refine V_cO (As := [.int (Int32.ofInt (0)), .int (Int32.ofInt ((p) - (1)))]) (st := []) mi_139_36 (by omega) (by decide +kernel) (by decide +kernel) (by omega) g1o h.1 (expx_ct (s := saB fr B n s) ⟨by omega, by omega⟩ ⟨by omega, by omega⟩ (by omega) (XB_num h) XMK_rf) (by omega) (show 2 = mN 141 by decide +kernel) (by simp [Value.category]) ?_
    rintro r w ⟨rfl, h, O⟩
    rw [ep2]
    change V l D tys A 139 6 0 0 _ 0 0 _ _ ((some (Value.int (Int32.ofInt (saI fr B n s)))).toList ++ _) _
    rw [ep1] at h
    replace q := XR_to q O h (fun g => numT_2ok (num2_ok g).1)
    refine V_istore mi_139_39 ?_
    refine V_aload (v := ad 1) mi_139_41 (by simp [stL, lv_args, Value.category]) ?_
    refine V_ldcS mi_139_42 ?_
    refine V_cO (As := [.ref (D.2 1000 11)]) (st := []) mi_139_44 (by omega) (by decide +kernel) (by decide +kernel) (by omega) g1o h.1 (ewx_ct (i := 11) (s := saC fr B n s) (by omega) (XB_num h) XMK_rf) (by omega) (show 1 = mN 144 by decide +kernel) (by simp [Value.category]) ?_
    rintro r w ⟨rfl, h, O⟩
    rw [xe11] at h
    replace q := XR_to q O h (fun g => numT_2ok (word_ok g))
    refine V_aload (v := ad 1) mi_139_47 (by simp [stL, lv_args, Value.category]) ?_
    refine V_ipush mi_139_48 ?_
    refine V_aload (v := ad 16) mi_139_49 (by simp [stL, lv_args, Value.category]) ?_
    obtain ⟨ho, hoh, ho0, ho1⟩ := celO h.1 g16f3 (by omega)
    refine V_gO mi_139_50 g16o h.1 (hoh) ?_
    refine V_ipush mi_139_53 ?_
    refine V_ibin mi_139_54 (by omega) ?_
    rw [ib1]
    obtain ⟨eh1, eh2⟩ := num2_cg (lo := 0) (hi := ho - 1) (hi' := fr 2 - 1) (s := saN fr B n s) (fun g => by rw [(XR_at (j := 2) q hoh ⟨by omega, by omega⟩ (need_wok g) (by omega) (by omega) rfl rfl).1])
    refine V_cO (As := [.int (Int32.ofInt (0)), .int (Int32.ofInt ((ho) - (1)))]) (st := []) mi_139_55 (by omega) (by decide +kernel) (by decide +kernel) (by omega) g1o h.1 (expx_ct (s := saN fr B n s) ⟨by omega, by omega⟩ ⟨by omega, by omega⟩ (by omega) (XB_word h) XMK_rf) (by omega) (show 2 = mN 141 by decide +kernel) (by simp [Value.category]) ?_
    rintro r w ⟨rfl, h, O⟩
    rw [eh2]
    change V l D tys A 139 6 0 0 _ 0 0 _ _ ((some (Value.int (Int32.ofInt (saH fr B n s)))).toList ++ _) _
    rw [eh1] at h
    replace q := XR_to q O h (fun g => need_wok (num2_ok g).1)
    refine V_istore mi_139_58 ?_
    refine V_aload (v := ad 16) mi_139_60 (by simp [stL, lv_args, Value.category]) ?_
    refine V_iload (v := Int32.ofInt (saF fr s)) mi_139_61 (by simp [stL, lv_args, Value.category]) ?_
    refine V_iload (v := Int32.ofInt (folkR fr (saA fr B n s))) mi_139_62 (by simp [stL, lv_args, Value.category]) ?_
    refine V_iload (v := Int32.ofInt (saI fr B n s)) mi_139_63 (by simp [stL, lv_args, Value.category]) ?_
    refine V_iload (v := Int32.ofInt (saH fr B n s)) mi_139_65 (by simp [stL, lv_args, Value.category]) ?_
    have bd : (num2 0 (fr 2 - 1) (saN fr B n s)).2.1 = 0 → fr 4 < 12 ∧ (0 ≤ saF fr s ∧ saF fr s ≤ 99) ∧ (0 ≤ folkR fr (saA fr B n s) ∧ folkR fr (saA fr B n s) ≤ 99) ∧ (0 ≤ saI fr B n s ∧ saI fr B n s ≤ 99) ∧ (0 ≤ saH fr B n s ∧ saH fr B n s ≤ 99) := fun g => by
      obtain ⟨-, d1, d2, d3, -, d5⟩ := XR_bds h.1 q g
      obtain ⟨k1, -, k2, k3, -⟩ := num2_ok g
      obtain ⟨k4, -, -⟩ := need_ok k1
      obtain ⟨k5, -, k6, k7, -⟩ := num_ok (B := B) (n := n) (s := saB fr B n s) k4
      obtain ⟨⟨o1, o2⟩, gs⟩ := gO k5
      obtain ⟨-, -, k8, k9, -⟩ := num_ok (B := B) (n := n) (s := s) (num_ok (B := B) (n := n) (s := saA fr B n s) k5).1
      have k3 : saH fr B n s = (saN fr B n s).1.2.2.2 := k3
      have k7 : saI fr B n s = (saB fr B n s).1.2.2.2 := k7
      have k9 : saF fr s = s.1.2.2.2 := k9
      have := d5 _ o2
      omega
    refine V_cO (As := [.int (Int32.ofInt (saF fr s)), .int (Int32.ofInt (folkR fr (saA fr B n s))), .int (Int32.ofInt (saI fr B n s)), .int (Int32.ofInt (saH fr B n s))]) (st := []) mi_139_67 (by omega) (by decide +kernel) (by decide +kernel) (by omega) g16o h.1 (addx_ct bd h q) (by omega) (show 4 = mN 112 by decide +kernel) (by simp [Value.category]) ?_
    rintro r w ⟨rfl, h, q⟩
    refine V_aload (v := ad 1) mi_139_70 (by simp [stL, lv_args, Value.category]) ?_
    refine V_gR mi_139_71 g1r (by omega) h.1 ?_
    refine V_cO (As := []) (st := []) mi_139_74 (by omega) (by decide +kernel) (by decide +kernel) (by omega) g2o h.1 (advx_ct (s := saT fr B n s) (XB_num h) XMK_rf) (by omega) (show 0 = mN 188 by decide +kernel) (by simp [Value.category]) ?_
    rintro r w ⟨rfl, h, O⟩
    refine V_retV mi_139_77 ⟨rfl, h, XR_cg (XR_to q O h (fun g => numT_2ok g)) (fun g => ⟨?_, rfl⟩)⟩
    unfold saG
    rw [if_pos g, (gO (num_ok (B := B) (n := n) (s := saB fr B n s) (need_ok (num2_ok (numT_2ok g)).1).1).1).1.1]
    rfl
  · exact absurd q2 (by have := kf; omega)
theorem XA_of_bad {n : Nat} {B : Nat → Int} {s : TS} {w : va_W} (h : XB ad tys n B s w) (hb : ¬ s.2.1 = 0) : XA ad tys n B s w := by
  obtain ⟨G, T, ok, F, K, S, E, N, W, t⟩ := h
  exact ⟨G, T, ok, F, K, S, E, N, W, fun q => absurd q hb⟩
theorem XA_pos {n : Nat} {B : Nat → Int} {s : TS} {w : va_W} (h : XA ad tys n B s w) (g : s.2.1 = 0) (k : s.1.1 = 2) : 0 ≤ s.1.2.2.2 := by
  obtain ⟨G, T, ok, F, K, S, E, N, W, t⟩ := h
  obtain ⟨t1, t2, t3, t4⟩ := t g
  obtain ⟨t5, t6⟩ := t4 (t1.trans k)
  omega
theorem n6_eq {y : Int} {s : TS} (h : s.2.1 = 0 → s.1.1 = 2 → 0 ≤ s.1.2.2.2) : errS 3 (num2 0 (y - 1) s) = num2 0 (y - 1) (nam1 y 6 s) := by
  by_cases g : s.2.1 = 0
  · by_cases k : s.1.1 = 2
    · have v0 := h g k
      by_cases v : s.1.2.2.2 < y
      · have e : num2 0 (y - 1) s = s := num2_G (fun _ => ⟨k, by omega, by omega⟩)
        have o : nam1 y 6 s = errS 3 s := by unfold nam1; rw [if_pos ⟨g, k, rfl, v⟩]
        have b : ¬ (errS 3 s).2.1 = 0 := err_ok (by decide)
        rw [e, o, num2_K (fun q => absurd q b), errS_bad b]
      · have o : nam1 y 6 s = s := by unfold nam1; rw [if_neg (fun q => v q.2.2.2)]
        have e : num2 0 (y - 1) s = errS 2 s := num2_R (fun _ => ⟨k, by omega⟩)
        rw [o, e]
        exact errS_bad (err_ok (by decide))
    · have o : nam1 y 6 s = s := by unfold nam1; rw [if_neg (fun q => k q.2.1)]
      have e : num2 0 (y - 1) s = errS 1 s := num2_K (fun _ => k)
      rw [o, e]
      exact errS_bad (err_ok (by decide))
  · have o : nam1 y 6 s = s := by unfold nam1; rw [if_neg (fun q => g q.1)]
    have e : num2 0 (y - 1) s = errS 1 s := num2_K (fun q => absurd q g)
    rw [o, e]
    exact errS_bad (err_ok (by decide))
theorem nam1_k {y : Int} {k : Nat} {s : TS} (h : k ≠ 6) : nam1 y k s = s := by
  unfold nam1
  rw [if_neg (fun q => h q.2.2.1)]
theorem nam1_ok {y : Int} {k : Nat} {s : TS} (h : (nam1 y k s).2.1 = 0) : s.2.1 = 0 := by
  unfold nam1 at h
  split at h
  · exact absurd h (err_ok (by decide))
  · exact h
/-- the class's draft while a name is read -/
noncomputable def xk (F : Nat) (g : Nat → Int) (k : Nat) : Nat → Int := if k = 0 then updI (updI g 3 ((F : Int) + 1)) (48 + F) 1 else updI (updI (updI g 3 ((F : Int) + 1)) (48 + F) 1) (6 + 7 * F) (k : Int)
theorem xk_step {F k : Nat} {g : Nat → Int} {r : Int} (hF : F < 6) (hk : k < 6) : updI (updI (xk F g k) (7 + 7 * F + k) r) (6 + 7 * F) ((k : Int) + 1) = xk F (updI g (7 + 7 * F + k) r) (k + 1) := by
  funext i
  show updI (updI (if k = 0 then _ else _) (7 + 7 * F + k) r) (6 + 7 * F) ((k : Int) + 1) i = (if k + 1 = 0 then _ else updI (updI (updI (updI g (7 + 7 * F + k) r) 3 ((F : Int) + 1)) (48 + F) 1) (6 + 7 * F) ((k + 1 : Nat) : Int)) i
  rw [if_neg (show ¬ k + 1 = 0 by omega)]
  split
  · show (if i = 6 + 7 * F then _ else if i = 7 + 7 * F + k then r else if i = 48 + F then 1 else if i = 3 then _ else g i) = (if i = 6 + 7 * F then _ else if i = 48 + F then 1 else if i = 3 then _ else if i = 7 + 7 * F + k then r else g i)
    by_cases e1 : i = 6 + 7 * F
    · rw [if_pos e1, if_pos e1]; omega
    · rw [if_neg e1, if_neg e1]
      by_cases e2 : i = 7 + 7 * F + k
      · rw [if_pos e2, if_neg (by omega), if_neg (by omega), if_pos e2]
      · rw [if_neg e2, if_neg e2]
  · show (if i = 6 + 7 * F then _ else if i = 7 + 7 * F + k then r else if i = 6 + 7 * F then _ else if i = 48 + F then 1 else if i = 3 then _ else g i) = (if i = 6 + 7 * F then _ else if i = 48 + F then 1 else if i = 3 then _ else if i = 7 + 7 * F + k then r else g i)
    by_cases e1 : i = 6 + 7 * F
    · rw [if_pos e1, if_pos e1]; omega
    · rw [if_neg e1, if_neg e1, if_neg e1]
      by_cases e2 : i = 7 + 7 * F + k
      · rw [if_pos e2, if_neg (by omega), if_neg (by omega), if_pos e2]
      · rw [if_neg e2, if_neg e2]
theorem xk_end {F k : Nat} {g : Nat → Int} (hF : F < 6) (hk : 1 ≤ k) : xk F g k = updI (updI (updI g (6 + 7 * F) (k : Int)) (48 + F) 1) 3 ((F : Int) + 1) := by
  funext i
  unfold xk
  rw [if_neg (by omega)]
  show (if i = 6 + 7 * F then _ else if i = 48 + F then 1 else if i = 3 then _ else g i) = (if i = 3 then _ else if i = 48 + F then 1 else if i = 6 + 7 * F then _ else g i)
  by_cases e1 : i = 6 + 7 * F
  · rw [if_pos e1, if_neg (by omega), if_neg (by omega), if_pos e1]
  · rw [if_neg e1, if_neg e1]
    by_cases e2 : i = 48 + F
    · rw [if_pos e2, if_neg (by omega), if_pos e2]
    · rw [if_neg e2, if_neg e2]
theorem xk_0 {F k : Nat} {g : Nat → Int} : xk F g k 0 = g 0 := by
  unfold xk
  split
  · show (if 0 = 48 + F then _ else if 0 = 3 then _ else g 0) = _
    rw [if_neg (by omega), if_neg (by omega)]
  · show (if 0 = 6 + 7 * F then _ else if 0 = 48 + F then _ else if 0 = 3 then _ else g 0) = _
    rw [if_neg (by omega), if_neg (by omega), if_neg (by omega)]
theorem nam_hx {F k : Nat} (hF : F < 6) (hk : k < 6) : (7 + 7 * F + k < 294 ∧ ¬ (102 ≤ 7 + 7 * F + k ∧ 7 + 7 * F + k < 246)) ∧ 18 = 16 + hxC (7 + 7 * F + k) ∧ 6 * F + k = hxI (7 + 7 * F + k) := by
  have e1 : hxC (7 + 7 * F + k) = 2 := by
    unfold hxC
    rw [if_neg (by omega), if_pos (by omega), if_neg (by omega)]
  have e2 : hxI (7 + 7 * F + k) = 6 * F + k := by
    unfold hxI
    rw [if_neg (by omega), if_pos (by omega), if_neg (by omega)]
    omega
  exact ⟨⟨by omega, by omega⟩, by omega, by omega⟩
theorem st_hx {F : Nat} (hF : F < 6) : (48 + F < 294 ∧ ¬ (102 ≤ 48 + F ∧ 48 + F < 246)) ∧ 19 = 16 + hxC (48 + F) ∧ F = hxI (48 + F) := by
  have e1 : hxC (48 + F) = 3 := by
    unfold hxC
    rw [if_neg (by omega), if_neg (by omega), if_pos (by omega)]
  have e2 : hxI (48 + F) = F := by
    unfold hxI
    rw [if_neg (by omega), if_neg (by omega), if_pos (by omega)]
    omega
  exact ⟨⟨by omega, by omega⟩, by omega, by omega⟩
theorem rnl_bad {n F k : Nat} {B g g2 td : Nat → Int} {s : TS} {w0 w : va_W} (hk : k ≤ 7) (hb : ¬ s.2.1 = 0) (h : XB ad tys n B s w) (q : XR g td w0 s w) : V l D tys A 136 3 0 0 (fun r w => r = none ∧ XA ad tys n B s w ∧ XR g2 td w0 s w) 0 0 41 [(0, .ref (ad 1)), (1, .ref (ad 16)), (2, .int (Int32.ofInt (F : Int))), (3, .int (Int32.ofInt (k : Int)))] [] w := by
  obtain ⟨G, T, ok, F0, K, S, E, N, W, t⟩ := id h
  have F3 := F0.2.2
  refine V_iload (v := Int32.ofInt ((k : Int))) mi_136_41 (by simp [stL, lv_args, Value.category]) ?_
  refine V_ipush mi_136_42 ?_
  refine V_cgt mi_136_44 ⟨by omega, by omega⟩ ⟨by omega, by omega⟩ (fun q2 => ?_) (fun q2 => ?_)
  · exact V_retV mi_136_133 ⟨rfl, XA_of_bad h hb, XR_bad q hb⟩
  · refine V_aload (v := ad 1) mi_136_47 (by simp [stL, lv_args, Value.category]) ?_
    refine V_gO mi_136_48 g1o h.1 (F0.1) ?_
    refine V_zne mi_136_51 ⟨by omega, by omega⟩ (fun q3 => ?_) (fun q3 => ?_)
    · exact V_retV mi_136_133 ⟨rfl, XA_of_bad h hb, XR_bad q hb⟩
    · exact absurd q3 hb
noncomputable def xWr (B : Nat → Int) (n : Nat) (y : Int) (F f k : Nat) (s : TS) (g : Nat → Int) : TS × Nat × (Nat → Int) := if 1 ≤ k ∧ s.1.1 = 3 then (s, k, g) else namW B n y F f k s g
theorem rn_77 {n F f k : Nat} {B g td : Nat → Int} {s : TS} {w0 w : va_W} {y : Int} (hF : F < 6) (hk : k ≤ 6) (hf7 : k + (f + 1) = 7) (g0 : xk F g k 0 = y) (g00 : g 0 = y) (hs : s.2.1 = 0) (hn : ¬ (1 ≤ k ∧ s.1.1 = 3)) (kk : ∀ (k : Nat) (s : TS) (g : Nat → Int) (w : va_W), k ≤ 6 → k + f = 7 → g 0 = y → s.2.1 = 0 → XB ad tys n B s w → XR (xk F g k) td w0 s w → V l D tys A 136 3 0 0 (fun r w => r = none ∧ XA ad tys n B (xWr B n y F f k s g).1 w ∧ XR (namZ F (xWr B n y F f k s g)) td w0 (xWr B n y F f k s g).1 w) 0 0 41 [(0, .ref (ad 1)), (1, .ref (ad 16)), (2, .int (Int32.ofInt (F : Int))), (3, .int (Int32.ofInt (k : Int)))] [] w) (h : XA ad tys n B s w) (q : XR (xk F g k) td w0 s w) : V l D tys A 136 3 0 0 (fun r w => r = none ∧ XA ad tys n B (xWr B n y F (f + 1) k s g).1 w ∧ XR (namZ F (xWr B n y F (f + 1) k s g)) td w0 (xWr B n y F (f + 1) k s g).1 w) 0 0 77 [(0, .ref (ad 1)), (1, .ref (ad 16)), (2, .int (Int32.ofInt (F : Int))), (3, .int (Int32.ofInt (k : Int)))] [] w := by
  refine V_aload (v := ad 1) mi_136_77 (by simp [stL, lv_args, Value.category]) ?_
  refine V_ipush mi_136_78 ?_
  refine V_aload (v := ad 16) mi_136_79 (by simp [stL, lv_args, Value.category]) ?_
  obtain ⟨sy, syh, sy0, sy1⟩ := celO h.1 g16f1 (by omega)
  refine V_gO mi_136_80 g16o h.1 (syh) ?_
  have sye : sy = y := by
    have := (XR_at (j := 0) q syh ⟨by omega, by omega⟩ hs (by omega) (by omega) rfl rfl).1
    rw [this]
    exact g0
  subst sye
  refine V_ipush mi_136_83 ?_
  refine V_ibin mi_136_84 (by omega) ?_
  rw [ib1]
  refine V_cO (As := [.int (Int32.ofInt (0)), .int (Int32.ofInt ((sy) - (1)))]) (st := []) mi_136_85 (by omega) (by decide +kernel) (by decide +kernel) (by omega) g1o h.1 (numx_ct ⟨by omega, by omega⟩ ⟨by omega, by omega⟩ (by omega) h XMK_rf) (by omega) (show 2 = mN 143 by decide +kernel) (by simp [Value.category]) ?_
  rintro r w ⟨rfl, h2, O⟩
  refine V_istore mi_136_88 ?_
  have tail : ∀ w2 : va_W, XA ad tys n B (num2 0 (sy - 1) (nam1 sy k s)) w2 → XR (xk F g k) td w0 (num2 0 (sy - 1) (nam1 sy k s)) w2 → V l D tys A 136 3 0 0 (fun r w => r = none ∧ XA ad tys n B (xWr B n sy F (f + 1) k s g).1 w ∧ XR (namZ F (xWr B n sy F (f + 1) k s g)) td w0 (xWr B n sy F (f + 1) k s g).1 w) 0 0 101 (stL 4 (.int (Int32.ofInt (numR 0 (sy - 1) s))) [(0, .ref (ad 1)), (1, .ref (ad 16)), (2, .int (Int32.ofInt (F : Int))), (3, .int (Int32.ofInt (k : Int)))]) [] w2 := by
    intro w h q
    refine V_aload (v := ad 16) mi_136_101 (by simp [stL, lv_args, Value.category]) ?_
    refine V_gR mi_136_102 g16r7 (by omega) h.1 ?_
    refine V_iload (v := Int32.ofInt ((F : Int))) mi_136_105 (by simp [stL, lv_args, Value.category]) ?_
    refine V_ipush mi_136_106 ?_
    refine V_ibin mi_136_108 (by omega) ?_
    rw [ib2]
    refine V_iload (v := Int32.ofInt ((k : Int))) mi_136_109 (by simp [stL, lv_args, Value.category]) ?_
    refine V_ibin mi_136_110 (by omega) ?_
    rw [ib0]
    refine V_iload (v := Int32.ofInt (numR 0 (sy - 1) s)) mi_136_111 (by simp [stL, lv_args, Value.category]) ?_
    refine V_stat (As := [.ref (ad 18), .int (Int32.ofInt ((((F : Int)) * (6)) + ((k : Int)))), .int (Int32.ofInt (numR 0 (sy - 1) s))]) (st := []) mi_136_113 (by omega) (putx_ct a18 h.1 (by omega) (i32b _).1 (i32b _).2) (by omega) (show 3 = mN 148 by decide +kernel) (by simp [Value.category]) ⟨Nat.le_refl _, Nat.le_refl _⟩ ?_
    rintro r w1 ⟨rfl, G1, o1, u1⟩
    have gk : (num2 0 (sy - 1) (nam1 sy k s)).2.1 = 0 → k < 6 ∧ nam1 sy k s = s ∧ 0 ≤ numR 0 (sy - 1) s ∧ numR 0 (sy - 1) s ≤ 99 := fun g2 => by
      have k6 : k ≠ 6 := fun e => by
        subst e
        have := nam_6 (B := B) (n := n) (y := sy) (s := s)
        unfold namN at this
        rw [numT_2, if_pos g2] at this
        exact this g2
      have e := nam1_k (y := sy) (s := s) k6
      rw [e] at g2
      obtain ⟨-, -, c1, c2, -⟩ := num2_ok g2
      exact ⟨by omega, e, by omega, by omega⟩
    replace q := XR_put (j := 7 + 7 * F + k) (z := numR 0 (sy - 1) s) q o1 (by omega) (by omega) (fun g2 => by
      obtain ⟨k6, -, r0, r9⟩ := gk g2
      have hx := nam_hx hF k6
      refine ⟨hx.1, hx.2.1, ?_, ⟨by omega, by omega⟩, fun _ => by omega⟩
      rw [← hx.2.2]
      exact u1 _ (by omega) (by rw [show (F : Int) * 6 + (k : Int) = ((6 * F + k : Nat) : Int) by omega]))
    replace h := XA_keep h G1 (fun c i hc => o1 c i (by omega))
    refine V_aload (v := ad 16) mi_136_116 (by simp [stL, lv_args, Value.category]) ?_
    refine V_gR mi_136_117 g16r6 (by omega) h.1 ?_
    refine V_iload (v := Int32.ofInt ((F : Int))) mi_136_120 (by simp [stL, lv_args, Value.category]) ?_
    refine V_iload (v := Int32.ofInt ((k : Int))) mi_136_121 (by simp [stL, lv_args, Value.category]) ?_
    refine V_ipush mi_136_122 ?_
    refine V_ibin mi_136_123 (by omega) ?_
    rw [ib0]
    have tk1 : (Int32.ofInt ((k : Int) + 1)).toInt = (k : Int) + 1 := Int32.toInt_ofInt_of_le (by omega) (by omega)
    refine V_stat (As := [.ref (ad 17), .int (Int32.ofInt ((F : Int))), .int (Int32.ofInt (((k : Int)) + (1)))]) (st := []) mi_136_124 (by omega) (putx_ct a17 h.1 (by omega) (by rw [tk1]; omega) (by rw [tk1]; omega)) (by omega) (show 3 = mN 148 by decide +kernel) (by simp [Value.category]) ⟨Nat.le_refl _, Nat.le_refl _⟩ ?_
    rintro r w2 ⟨rfl, G2, o2, u2⟩
    replace q := XR_put (j := 6 + 7 * F) (z := (k : Int) + 1) q o2 (by omega) (by omega) (fun g2 => by
      obtain ⟨k6, -, r0, r9⟩ := gk g2
      obtain ⟨x1, x2, x3, x4⟩ := len_hx hF
      refine ⟨⟨x1, x2⟩, x3, ?_, ⟨by omega, by omega⟩, fun _ => by omega⟩
      rw [← x4]
      exact u2 _ hF rfl)
    replace h := XA_keep h G2 (fun c i hc => o2 c i (by omega))
    refine V_iinc (v := Int32.ofInt ((k : Int))) mi_136_127 (by simp [stL, lv_args, Value.category]) ?_
    rw [ia2]
    refine V_goto mi_136_130 ?_
    refine V_sub (lv' := [(0, .ref (ad 1)), (1, .ref (ad 16)), (2, .int (Int32.ofInt (F : Int))), (3, .int (Int32.ofInt ((k + 1 : Nat) : Int)))]) (fun q hq => ?_) ?_
    · simp only [List.mem_cons, List.not_mem_nil, or_false] at hq
      rcases hq with rfl | rfl | rfl | rfl <;> simp [stL, lv_args, Value.category]
    have hx : XB ad tys n B (namN B n sy k s) w2 := XB_num h
    have ex : xWr B n sy F (f + 1) k s g = namW B n sy F (f + 1) k s g := by
      unfold xWr
      rw [if_neg hn]
    rw [ex]
    unfold namW
    by_cases hf : (namN B n sy k s).2.1 = 0
    · rw [if_pos hf]
      obtain ⟨k6, e, -, -⟩ := gk (numT_2ok hf)
      have er : numR 0 (sy - 1) s = namR sy k s := by unfold namR; rw [e]
      rw [er, xk_step hF k6] at q
      have ew : (if (namN B n sy k s).1.1 = 3 then (namN B n sy k s, k + 1, updI g (7 + 7 * F + k) (namR sy k s)) else namW B n sy F f (k + 1) (namN B n sy k s) (updI g (7 + 7 * F + k) (namR sy k s))) = xWr B n sy F f (k + 1) (namN B n sy k s) (updI g (7 + 7 * F + k) (namR sy k s)) := by
        unfold xWr
        by_cases e3 : (namN B n sy k s).1.1 = 3
        · rw [if_pos e3, if_pos ⟨by omega, e3⟩]
        · rw [if_neg e3, if_neg (fun q => e3 q.2)]
      rw [ew]
      exact kk (k + 1) (namN B n sy k s) (updI g (7 + 7 * F + k) (namR sy k s)) w2 (by omega) (by omega) (by show (if 0 = 7 + 7 * F + k then _ else g 0) = _; rw [if_neg (by omega)]; exact g00) hf hx (XR_of q XMK_rf (fun g => numT_2ok g))
    · rw [if_neg hf]
      exact rnl_bad (by omega) hf hx (XR_of q XMK_rf (fun g => numT_2ok g))
  refine V_iload (v := Int32.ofInt ((k : Int))) mi_136_90 (by simp [stL, lv_args, Value.category]) ?_
  refine V_ipush mi_136_91 ?_
  refine V_cne mi_136_93 ⟨by omega, by omega⟩ ⟨by omega, by omega⟩ (fun q6 => ?_) (fun q6 => ?_)
  · have e : nam1 sy k s = s := nam1_k (fun e => q6 (by omega))
    exact tail _ (by rw [e]; exact h2) (by rw [e]; exact XR_to q O h2 (fun g => (num2_ok g).1))
  · refine V_aload (v := ad 1) mi_136_96 (by simp [stL, lv_args, Value.category]) ?_
    refine V_ipush mi_136_97 ?_
    refine V_cO (As := [.int (Int32.ofInt (3))]) (st := []) mi_136_98 (by omega) (by decide +kernel) (by decide +kernel) (by omega) g1o h2.1 (failx_ct h2 O (by omega) (by omega)) (by omega) (show 1 = mN 146 by decide +kernel) (by simp [Value.category]) ?_
    rintro r w1 ⟨rfl, h3, O3⟩
    have e6 : k = 6 := by omega
    subst e6
    have e := n6_eq (y := sy) (s := s) (fun g2 k2 => XA_pos h g2 k2)
    rw [e] at h3
    exact tail _ h3 (XR_to q O3 h3 (fun g => nam1_ok (num2_ok g).1))
theorem rn_41 {n F : Nat} {B td : Nat → Int} {w0 : va_W} {y : Int} (hF : F < 6) : ∀ (f k : Nat) (s : TS) (g : Nat → Int) (w : va_W), k ≤ 6 → k + f = 7 → g 0 = y → s.2.1 = 0 → XB ad tys n B s w → XR (xk F g k) td w0 s w → V l D tys A 136 3 0 0 (fun r w => r = none ∧ XA ad tys n B (xWr B n y F f k s g).1 w ∧ XR (namZ F (xWr B n y F f k s g)) td w0 (xWr B n y F f k s g).1 w) 0 0 41 [(0, .ref (ad 1)), (1, .ref (ad 16)), (2, .int (Int32.ofInt (F : Int))), (3, .int (Int32.ofInt (k : Int)))] [] w
  | 0, k, s, g, w, hk, hf7, _, _, _, _ => by omega
  | f0 + 1, k, s, g, w, hk, hf7, g0, hs, h, q => by
    obtain ⟨G, T, ok, F0, K0, S0, E0, N0, W0, t0⟩ := id h
    refine V_iload (v := Int32.ofInt ((k : Int))) mi_136_41 (by simp [stL, lv_args, Value.category]) ?_
    refine V_ipush mi_136_42 ?_
    refine V_cgt mi_136_44 ⟨by omega, by omega⟩ ⟨by omega, by omega⟩ (fun q1 => ?_) (fun q1 => ?_)
    · exact absurd q1 (by omega)
    · refine V_aload (v := ad 1) mi_136_47 (by simp [stL, lv_args, Value.category]) ?_
      refine V_gO mi_136_48 g1o h.1 (F0.1) ?_
      refine V_zne mi_136_51 ⟨by omega, by omega⟩ (fun q2 => ?_) (fun q2 => ?_)
      · exact absurd hs q2
      · refine V_aload (v := ad 1) mi_136_54 (by simp [stL, lv_args, Value.category]) ?_
        refine V_gR mi_136_55 g1r (by omega) h.1 ?_
        refine V_cO (As := []) (st := []) mi_136_58 (by omega) (by decide +kernel) (by decide +kernel) (by omega) g2o h.1 (advx_ct h XMK_rf) (by omega) (show 0 = mN 188 by decide +kernel) (by simp [Value.category]) ?_
        rintro r w ⟨rfl, h, O⟩
        replace q := XR_to q O h (fun g => g)
        refine V_iload (v := Int32.ofInt ((k : Int))) mi_136_61 (by simp [stL, lv_args, Value.category]) ?_
        refine V_zle mi_136_62 ⟨by omega, by omega⟩ (fun q3 => ?_) (fun q3 => ?_)
        · exact rn_77 hF hk hf7 (xk_0.trans g0) g0 hs (fun e => by omega) (fun k s g w a b c d e f => rn_41 hF f0 k s g w a b c d e f) h q
        · refine V_aload (v := ad 1) mi_136_65 (by simp [stL, lv_args, Value.category]) ?_
          refine V_gR mi_136_66 g1r (by omega) h.1 ?_
          obtain ⟨G1, T1, ok1, F1, K, S, E, N, ⟨⟨w2, w3, w4, w5⟩, wk, we, wn⟩, t⟩ := id h
          have K3 : K = s.1.1 := (t hs).1
          refine V_gO mi_136_69 g2o h.1 (w2) ?_
          refine V_ipush mi_136_72 ?_
          refine V_cne mi_136_73 ⟨by omega, by omega⟩ ⟨by omega, by omega⟩ (fun q4 => ?_) (fun q4 => ?_)
          · exact rn_77 hF hk hf7 (xk_0.trans g0) g0 hs (fun e => q4 (by rw [K3]; exact e.2)) (fun k s g w a b c d e f => rn_41 hF f0 k s g w a b c d e f) h q
          · have ex : xWr B n y F (f0 + 1) k s g = (s, k, g) := by
              unfold xWr
              rw [if_pos ⟨by omega, by rw [← K3]; exact q4⟩]
            rw [ex]
            refine V_retV mi_136_76 ⟨rfl, h, ?_⟩
            have ez : namZ F (s, k, g) = xk F g k := by
              rw [xk_end hF (by omega)]
              unfold namZ
              rw [if_pos hs]
            rw [ez]
            exact q
theorem rnf_ct {n : Nat} {B fr td : Nat → Int} {s : TS} {w0 : va_W} (g : s.2.1 = 0) (e3 : fr 3 = 6) (h : XA ad tys n B s ws) (q : XR fr td w0 s ws) : CT l D tys A 136 3 0 0 [.ref (ad 1), .ref (ad 16)] ws (fun r w => r = none ∧ XA ad tys n B (errS 3 s) w ∧ XR fr td w0 (errS 3 s) w) := by
  obtain ⟨k, hk, k0, k6⟩ := celO h.1 g16f4 (by omega)
  have kf : k = fr 3 := (XR_at (j := 3) q hk ⟨by omega, by omega⟩ g (by omega) (by omega) rfl rfl).1
  refine CT_of_V (by omega) (show (2 : Nat) ≤ mML 136 by decide +kernel) ?_
  refine V_aload (v := ad 16) mi_136_0 (by simp [stL, lv_args, Value.category]) ?_
  refine V_gO mi_136_1 g16o h.1 (hk) ?_
  refine V_ipush mi_136_4 ?_
  refine V_clt mi_136_6 ⟨by omega, by omega⟩ ⟨by omega, by omega⟩ (fun q2 => ?_) (fun q2 => ?_)
  · exact absurd q2 (by have := kf; omega)
  · refine V_aload (v := ad 1) mi_136_9 (by simp [stL, lv_args, Value.category]) ?_
    refine V_ipush mi_136_10 ?_
    refine V_cO (As := [.int (Int32.ofInt (3))]) (st := []) mi_136_11 (by omega) (by decide +kernel) (by decide +kernel) (by omega) g1o h.1 (failx_ct h XMK_rf (by omega) (by omega)) (by omega) (show 1 = mN 146 by decide +kernel) (by simp [Value.category]) ?_
    rintro r w ⟨rfl, h, O⟩
    exact V_retV mi_136_14 ⟨rfl, h, XR_bad (XR_of (s2 := s) q O (fun g => g)) (err_ok (by decide))⟩
theorem rnx_ct {n : Nat} {B fr td : Nat → Int} {s : TS} {w0 : va_W} {F : Nat} (hF : F < 6) (g : s.2.1 = 0) (e3 : fr 3 = (F : Int)) (h : XA ad tys n B s ws) (q : XR fr td w0 s ws) : CT l D tys A 136 3 0 0 [.ref (ad 1), .ref (ad 16)] ws (fun r w => r = none ∧ XA ad tys n B (namW B n (fr 0) F 7 0 (advS B n s) fr).1 w ∧ XR (namZ F (namW B n (fr 0) F 7 0 (advS B n s) fr)) td w0 (namW B n (fr 0) F 7 0 (advS B n s) fr).1 w) := by
  obtain ⟨k, hk, k0, k6⟩ := celO h.1 g16f4 (by omega)
  have kf : k = fr 3 := (XR_at (j := 3) q hk ⟨by omega, by omega⟩ g (by omega) (by omega) rfl rfl).1
  rw [kf, e3] at hk
  refine CT_of_V (by omega) (show (2 : Nat) ≤ mML 136 by decide +kernel) ?_
  refine V_aload (v := ad 16) mi_136_0 (by simp [stL, lv_args, Value.category]) ?_
  refine V_gO mi_136_1 g16o h.1 (hk) ?_
  refine V_ipush mi_136_4 ?_
  refine V_clt mi_136_6 ⟨by omega, by omega⟩ ⟨by omega, by omega⟩ (fun q2 => ?_) (fun q2 => ?_)
  · refine V_aload (v := ad 16) mi_136_15 (by simp [stL, lv_args, Value.category]) ?_
    refine V_gO mi_136_16 g16o h.1 (hk) ?_
    refine V_istore mi_136_19 ?_
    refine V_aload (v := ad 16) mi_136_20 (by simp [stL, lv_args, Value.category]) ?_
    refine V_dup mi_136_21 (by simp [Value.category]) ?_
    refine V_gO mi_136_22 g16o h.1 (hk) ?_
    refine V_ipush mi_136_25 ?_
    refine V_ibin mi_136_26 (by omega) ?_
    rw [ib0]
    refine V_pO mi_136_27 g16f4 (by omega) (by decide +kernel) (by decide +kernel) h.1 (by rw [Int32.toInt_ofInt_of_le (by omega) (by omega)]; omega) (by rw [Int32.toInt_ofInt_of_le (by omega) (by omega)]; omega) (fun w' G1 U1 => ?_)
    replace q := XR_put (j := 3) (z := (F : Int) + 1) q (fun c i hc => upd_ne U1 (fun e => hc e.1)) (by omega) (by omega) (fun _ => ⟨⟨by omega, by omega⟩, rfl, U1, ⟨by omega, by omega⟩, fun _ => by omega⟩)
    replace h := XA_keep h G1 (fun c i hc => upd_ne U1 (by omega))
    refine V_aload (v := ad 16) mi_136_30 (by simp [stL, lv_args, Value.category]) ?_
    refine V_gR mi_136_31 g16r8 (by omega) h.1 ?_
    refine V_iload (v := Int32.ofInt ((F : Int))) mi_136_34 (by simp [stL, lv_args, Value.category]) ?_
    refine V_ipush mi_136_35 ?_
    refine V_stat (As := [.ref (ad 19), .int (Int32.ofInt ((F : Int))), .int (Int32.ofInt (1))]) (st := []) mi_136_36 (by omega) (putx_ct a19 h.1 (by omega) (i32b _).1 (i32b _).2) (by omega) (show 3 = mN 148 by decide +kernel) (by simp [Value.category]) ⟨Nat.le_refl _, Nat.le_refl _⟩ ?_
    rintro r w1 ⟨rfl, G2, o2, u2⟩
    replace q := XR_put (j := 48 + F) (z := 1) q o2 (by omega) (by omega) (fun g2 => by
      have hx := st_hx (F := F) hF
      refine ⟨hx.1, hx.2.1, ?_, ⟨by omega, by omega⟩, fun _ => by omega⟩
      rw [← hx.2.2]
      exact u2 _ hF rfl)
    replace h := XA_keep h G2 (fun c i hc => o2 c i (by omega))
    refine V_ipush mi_136_39 ?_
    refine V_istore mi_136_40 ?_
    refine V_sub (lv' := [(0, .ref (ad 1)), (1, .ref (ad 16)), (2, .int (Int32.ofInt (F : Int))), (3, .int (Int32.ofInt ((0 : Nat) : Int)))]) (fun q hq => ?_) ?_
    · simp only [List.mem_cons, List.not_mem_nil, or_false] at hq
      rcases hq with rfl | rfl | rfl | rfl <;> simp [stL, lv_args, Value.category]
    refine V_post (fun r w hp => ?_) (rn_41 (y := fr 0) (n := n) (B := B) hF 7 0 (advS B n s) fr w1 (by omega) (by omega) rfl g (XB_adv h) (XR_of q XMK_rf (fun g => g)))
    have ex : xWr B n (fr 0) F 7 0 (advS B n s) fr = namW B n (fr 0) F 7 0 (advS B n s) fr := by
      unfold xWr
      rw [if_neg (fun e => by omega)]
    rw [ex] at hp
    exact hp
  · exact absurd q2 (by omega)
end XRL
end
