theorem mi_52_0 : mI 52 0 = (3, 0, 2, 0, 0) := by decide +kernel
theorem mi_52_1 : mI 52 1 = (1, 1, 0, 0, 0) := by decide +kernel
theorem mi_52_2 : mI 52 2 = (15, 9, 2, 11, 0) := by decide +kernel
theorem mi_52_5 : mI 52 5 = (3, 0, 2, 0, 0) := by decide +kernel
theorem mi_52_6 : mI 52 6 = (1, 6, 1, 0, 0) := by decide +kernel
theorem mi_52_8 : mI 52 8 = (15, 6, 5, 14, 0) := by decide +kernel
theorem mi_52_11 : mI 52 11 = (1, (-2), 1, 0, 0) := by decide +kernel
theorem mi_52_13 : mI 52 13 = (27, 0, 0, 0, 0) := by decide +kernel
theorem mi_52_14 : mI 52 14 = (5, 0, 0, 0, 0) := by decide +kernel
theorem mi_52_15 : mI 52 15 = (3, 0, 1, 0, 0) := by decide +kernel
theorem mi_52_16 : mI 52 16 = (26, 975, 300, 53, 0) := by decide +kernel
theorem mi_52_19 : mI 52 19 = (6, 0, 3, 0, 0) := by decide +kernel
theorem mi_52_20 : mI 52 20 = (3, 0, 3, 0, 0) := by decide +kernel
theorem mi_52_21 : mI 52 21 = (14, 7, 0, 28, 0) := by decide +kernel
theorem mi_52_24 : mI 52 24 = (3, 0, 3, 0, 0) := by decide +kernel
theorem mi_52_25 : mI 52 25 = (16, 20, 0, 45, 0) := by decide +kernel
theorem mi_52_28 : mI 52 28 = (5, 0, 0, 0, 0) := by decide +kernel
theorem mi_52_29 : mI 52 29 = (17, 306, 69, 10, 9) := by decide +kernel
theorem mi_52_32 : mI 52 32 = (5, 0, 0, 0, 0) := by decide +kernel
theorem mi_52_33 : mI 52 33 = (17, 299, 24, 10, 2) := by decide +kernel
theorem mi_52_36 : mI 52 36 = (5, 0, 0, 0, 0) := by decide +kernel
theorem mi_52_37 : mI 52 37 = (17, 304, 55, 10, 7) := by decide +kernel
theorem mi_52_40 : mI 52 40 = (3, 0, 1, 0, 0) := by decide +kernel
theorem mi_52_41 : mI 52 41 = (3, 0, 2, 0, 0) := by decide +kernel
theorem mi_52_42 : mI 52 42 = (26, 994, 307, 118, 0) := by decide +kernel
theorem mi_52_45 : mI 52 45 = (27, 0, 0, 0, 0) := by decide +kernel
theorem mi_118_0 : mI 118 0 = (5, 0, 2, 0, 0) := by decide +kernel
theorem mi_118_1 : mI 118 1 = (3, 0, 3, 0, 0) := by decide +kernel
theorem mi_118_2 : mI 118 2 = (26, 986, 28, 162, 0) := by decide +kernel
theorem mi_118_5 : mI 118 5 = (6, 0, 5, 1, 0) := by decide +kernel
theorem mi_118_7 : mI 118 7 = (3, 0, 5, 1, 0) := by decide +kernel
theorem mi_118_9 : mI 118 9 = (3, 0, 4, 1, 0) := by decide +kernel
theorem mi_118_11 : mI 118 11 = (15, 5, 5, 16, 0) := by decide +kernel
theorem mi_118_14 : mI 118 14 = (1, 0, 0, 0, 0) := by decide +kernel
theorem mi_118_15 : mI 118 15 = (27, 0, 0, 0, 0) := by decide +kernel
theorem mi_118_16 : mI 118 16 = (5, 0, 0, 0, 0) := by decide +kernel
theorem mi_118_17 : mI 118 17 = (17, 275, 9, 3, 0) := by decide +kernel
theorem mi_118_20 : mI 118 20 = (1, 0, 0, 0, 0) := by decide +kernel
theorem mi_118_21 : mI 118 21 = (26, 998, 45, 149, 1) := by decide +kernel
theorem mi_118_24 : mI 118 24 = (5, 0, 0, 0, 0) := by decide +kernel
theorem mi_118_25 : mI 118 25 = (17, 275, 9, 3, 0) := by decide +kernel
theorem mi_118_28 : mI 118 28 = (1, 0, 0, 0, 0) := by decide +kernel
theorem mi_118_29 : mI 118 29 = (1, 1, 0, 0, 0) := by decide +kernel
theorem mi_118_30 : mI 118 30 = (26, 999, 51, 148, 1) := by decide +kernel
theorem mi_118_33 : mI 118 33 = (1, 0, 0, 0, 0) := by decide +kernel
theorem mi_118_34 : mI 118 34 = (6, 0, 6, 1, 0) := by decide +kernel
theorem mi_118_36 : mI 118 36 = (3, 0, 6, 1, 0) := by decide +kernel
theorem mi_118_38 : mI 118 38 = (3, 0, 4, 1, 0) := by decide +kernel
theorem mi_118_40 : mI 118 40 = (15, 113, 3, 153, 0) := by decide +kernel
theorem mi_118_43 : mI 118 43 = (5, 0, 0, 0, 0) := by decide +kernel
theorem mi_118_44 : mI 118 44 = (17, 276, 15, 3, 1) := by decide +kernel
theorem mi_118_47 : mI 118 47 = (1, 0, 0, 0, 0) := by decide +kernel
theorem mi_118_48 : mI 118 48 = (26, 998, 45, 149, 1) := by decide +kernel
theorem mi_118_51 : mI 118 51 = (1, 0, 0, 0, 0) := by decide +kernel
theorem mi_118_52 : mI 118 52 = (6, 0, 7, 1, 0) := by decide +kernel
theorem mi_118_54 : mI 118 54 = (3, 0, 7, 1, 0) := by decide +kernel
theorem mi_118_56 : mI 118 56 = (3, 0, 5, 1, 0) := by decide +kernel
theorem mi_118_58 : mI 118 58 = (15, 78, 4, 136, 0) := by decide +kernel
theorem mi_118_61 : mI 118 61 = (1, 0, 0, 0, 0) := by decide +kernel
theorem mi_118_62 : mI 118 62 = (6, 0, 8, 1, 0) := by decide +kernel
theorem mi_118_64 : mI 118 64 = (3, 0, 8, 1, 0) := by decide +kernel
theorem mi_118_66 : mI 118 66 = (5, 0, 1, 0, 0) := by decide +kernel
theorem mi_118_67 : mI 118 67 = (17, 89, 55, 2, 1) := by decide +kernel
theorem mi_118_70 : mI 118 70 = (15, 60, 3, 130, 0) := by decide +kernel
theorem mi_118_73 : mI 118 73 = (3, 0, 7, 1, 0) := by decide +kernel
theorem mi_118_75 : mI 118 75 = (3, 0, 5, 1, 0) := by decide +kernel
theorem mi_118_77 : mI 118 77 = (15, 8, 1, 85, 0) := by decide +kernel
theorem mi_118_80 : mI 118 80 = (3, 0, 5, 1, 0) := by decide +kernel
theorem mi_118_82 : mI 118 82 = (16, 12, 0, 94, 0) := by decide +kernel
theorem mi_118_85 : mI 118 85 = (5, 0, 2, 0, 0) := by decide +kernel
theorem mi_118_86 : mI 118 86 = (3, 0, 3, 0, 0) := by decide +kernel
theorem mi_118_87 : mI 118 87 = (3, 0, 7, 1, 0) := by decide +kernel
theorem mi_118_89 : mI 118 89 = (3, 0, 8, 1, 0) := by decide +kernel
theorem mi_118_91 : mI 118 91 = (26, 1000, 58, 119, 1) := by decide +kernel
theorem mi_118_94 : mI 118 94 = (6, 0, 9, 1, 0) := by decide +kernel
theorem mi_118_96 : mI 118 96 = (5, 0, 0, 0, 0) := by decide +kernel
theorem mi_118_97 : mI 118 97 = (17, 276, 15, 3, 1) := by decide +kernel
theorem mi_118_100 : mI 118 100 = (3, 0, 9, 1, 0) := by decide +kernel
theorem mi_118_102 : mI 118 102 = (5, 0, 0, 0, 0) := by decide +kernel
theorem mi_118_103 : mI 118 103 = (17, 276, 15, 3, 1) := by decide +kernel
theorem mi_118_106 : mI 118 106 = (3, 0, 9, 1, 0) := by decide +kernel
theorem mi_118_108 : mI 118 108 = (26, 1003, 62, 147, 1) := by decide +kernel
theorem mi_118_111 : mI 118 111 = (5, 0, 0, 0, 0) := by decide +kernel
theorem mi_118_112 : mI 118 112 = (17, 275, 9, 3, 0) := by decide +kernel
theorem mi_118_115 : mI 118 115 = (3, 0, 7, 1, 0) := by decide +kernel
theorem mi_118_117 : mI 118 117 = (26, 1003, 62, 147, 1) := by decide +kernel
theorem mi_118_120 : mI 118 120 = (10, 0, 0, 0, 0) := by decide +kernel
theorem mi_118_121 : mI 118 121 = (26, 999, 51, 148, 1) := by decide +kernel
theorem mi_118_124 : mI 118 124 = (9, 1, 8, 0, 0) := by decide +kernel
theorem mi_118_127 : mI 118 127 = (16, (-63), 0, 64, 0) := by decide +kernel
theorem mi_118_130 : mI 118 130 = (9, 1, 7, 0, 0) := by decide +kernel
theorem mi_118_133 : mI 118 133 = (16, (-79), 0, 54, 0) := by decide +kernel
theorem mi_118_136 : mI 118 136 = (5, 0, 0, 0, 0) := by decide +kernel
theorem mi_118_137 : mI 118 137 = (17, 276, 15, 3, 1) := by decide +kernel
theorem mi_118_140 : mI 118 140 = (5, 0, 0, 0, 0) := by decide +kernel
theorem mi_118_141 : mI 118 141 = (17, 275, 9, 3, 0) := by decide +kernel
theorem mi_118_144 : mI 118 144 = (26, 1004, 66, 150, 1) := by decide +kernel
theorem mi_118_147 : mI 118 147 = (9, 1, 6, 0, 0) := by decide +kernel
theorem mi_118_150 : mI 118 150 = (16, (-114), 0, 36, 0) := by decide +kernel
theorem mi_118_153 : mI 118 153 = (5, 0, 0, 0, 0) := by decide +kernel
theorem mi_118_154 : mI 118 154 = (17, 275, 9, 3, 0) := by decide +kernel
theorem mi_118_157 : mI 118 157 = (3, 0, 5, 1, 0) := by decide +kernel
theorem mi_118_159 : mI 118 159 = (26, 1003, 62, 147, 1) := by decide +kernel
theorem mi_118_162 : mI 118 162 = (27, 0, 0, 0, 0) := by decide +kernel
theorem mi_119_0 : mI 119 0 = (3, 0, 2, 0, 0) := by decide +kernel
theorem mi_119_1 : mI 119 1 = (1, 1, 0, 0, 0) := by decide +kernel
theorem mi_119_2 : mI 119 2 = (10, 0, 0, 0, 0) := by decide +kernel
theorem mi_119_3 : mI 119 3 = (6, 0, 4, 1, 0) := by decide +kernel
theorem mi_119_5 : mI 119 5 = (3, 0, 4, 1, 0) := by decide +kernel
theorem mi_119_7 : mI 119 7 = (14, 92, 5, 99, 0) := by decide +kernel
theorem mi_119_10 : mI 119 10 = (5, 0, 0, 0, 0) := by decide +kernel
theorem mi_119_11 : mI 119 11 = (3, 0, 1, 0, 0) := by decide +kernel
theorem mi_119_12 : mI 119 12 = (3, 0, 4, 1, 0) := by decide +kernel
theorem mi_119_14 : mI 119 14 = (1, 1, 0, 0, 0) := by decide +kernel
theorem mi_119_15 : mI 119 15 = (10, 0, 1, 0, 0) := by decide +kernel
theorem mi_119_16 : mI 119 16 = (26, 989, 41, 164, 0) := by decide +kernel
theorem mi_119_19 : mI 119 19 = (3, 0, 3, 0, 0) := by decide +kernel
theorem mi_119_20 : mI 119 20 = (12, 0, 1, 0, 0) := by decide +kernel
theorem mi_119_21 : mI 119 21 = (13, 0, 0, 0, 0) := by decide +kernel
theorem mi_119_22 : mI 119 22 = (14, 7, 1, 29, 0) := by decide +kernel
theorem mi_119_25 : mI 119 25 = (1, 1, 0, 0, 0) := by decide +kernel
theorem mi_119_26 : mI 119 26 = (16, 4, 0, 30, 0) := by decide +kernel
theorem mi_119_29 : mI 119 29 = (1, 0, 0, 0, 0) := by decide +kernel
theorem mi_119_30 : mI 119 30 = (6, 0, 5, 1, 0) := by decide +kernel
theorem mi_119_32 : mI 119 32 = (1, 0, 0, 0, 0) := by decide +kernel
theorem mi_119_33 : mI 119 33 = (6, 0, 6, 1, 0) := by decide +kernel
theorem mi_119_35 : mI 119 35 = (3, 0, 6, 1, 0) := by decide +kernel
theorem mi_119_37 : mI 119 37 = (3, 0, 4, 1, 0) := by decide +kernel
theorem mi_119_39 : mI 119 39 = (1, 1, 0, 0, 0) := by decide +kernel
theorem mi_119_40 : mI 119 40 = (10, 0, 1, 0, 0) := by decide +kernel
theorem mi_119_41 : mI 119 41 = (15, 44, 3, 85, 0) := by decide +kernel
theorem mi_119_44 : mI 119 44 = (3, 0, 5, 1, 0) := by decide +kernel
theorem mi_119_46 : mI 119 46 = (5, 0, 0, 0, 0) := by decide +kernel
theorem mi_119_47 : mI 119 47 = (3, 0, 1, 0, 0) := by decide +kernel
theorem mi_119_48 : mI 119 48 = (3, 0, 6, 1, 0) := by decide +kernel
theorem mi_119_50 : mI 119 50 = (26, 989, 41, 164, 0) := by decide +kernel
theorem mi_119_53 : mI 119 53 = (5, 0, 0, 0, 0) := by decide +kernel
theorem mi_119_54 : mI 119 54 = (3, 0, 1, 0, 0) := by decide +kernel
theorem mi_119_55 : mI 119 55 = (3, 0, 2, 0, 0) := by decide +kernel
theorem mi_119_56 : mI 119 56 = (3, 0, 4, 1, 0) := by decide +kernel
theorem mi_119_58 : mI 119 58 = (1, 1, 0, 0, 0) := by decide +kernel
theorem mi_119_59 : mI 119 59 = (10, 0, 1, 0, 0) := by decide +kernel
theorem mi_119_60 : mI 119 60 = (10, 0, 1, 0, 0) := by decide +kernel
theorem mi_119_61 : mI 119 61 = (3, 0, 6, 1, 0) := by decide +kernel
theorem mi_119_63 : mI 119 63 = (10, 0, 0, 0, 0) := by decide +kernel
theorem mi_119_64 : mI 119 64 = (26, 989, 41, 164, 0) := by decide +kernel
theorem mi_119_67 : mI 119 67 = (13, 0, 0, 0, 0) := by decide +kernel
theorem mi_119_68 : mI 119 68 = (14, 7, 1, 75, 0) := by decide +kernel
theorem mi_119_71 : mI 119 71 = (1, 1, 0, 0, 0) := by decide +kernel
theorem mi_119_72 : mI 119 72 = (16, 4, 0, 76, 0) := by decide +kernel
theorem mi_119_75 : mI 119 75 = (1, 0, 0, 0, 0) := by decide +kernel
theorem mi_119_76 : mI 119 76 = (10, 0, 5, 0, 0) := by decide +kernel
theorem mi_119_77 : mI 119 77 = (6, 0, 5, 1, 0) := by decide +kernel
theorem mi_119_79 : mI 119 79 = (9, 1, 6, 0, 0) := by decide +kernel
theorem mi_119_82 : mI 119 82 = (16, (-47), 0, 35, 0) := by decide +kernel
theorem mi_119_85 : mI 119 85 = (3, 0, 5, 1, 0) := by decide +kernel
theorem mi_119_87 : mI 119 87 = (14, 6, 0, 93, 0) := by decide +kernel
theorem mi_119_90 : mI 119 90 = (3, 0, 4, 1, 0) := by decide +kernel
theorem mi_119_92 : mI 119 92 = (27, 0, 0, 0, 0) := by decide +kernel
theorem mi_119_93 : mI 119 93 = (9, (-1), 4, 0, 0) := by decide +kernel
theorem mi_119_96 : mI 119 96 = (16, (-91), 0, 5, 0) := by decide +kernel
theorem mi_119_99 : mI 119 99 = (1, 0, 0, 0, 0) := by decide +kernel
theorem mi_119_100 : mI 119 100 = (27, 0, 0, 0, 0) := by decide +kernel
theorem mi_309_0 : mI 309 0 = (1, 1, 0, 0, 0) := by decide +kernel
theorem mi_309_1 : mI 309 1 = (6, 0, 2, 0, 0) := by decide +kernel
theorem mi_309_2 : mI 309 2 = (1, 0, 0, 0, 0) := by decide +kernel
theorem mi_309_3 : mI 309 3 = (6, 0, 3, 0, 0) := by decide +kernel
theorem mi_309_4 : mI 309 4 = (3, 0, 3, 0, 0) := by decide +kernel
theorem mi_309_5 : mI 309 5 = (3, 0, 1, 0, 0) := by decide +kernel
theorem mi_309_6 : mI 309 6 = (15, 18, 3, 24, 0) := by decide +kernel
theorem mi_309_9 : mI 309 9 = (3, 0, 2, 0, 0) := by decide +kernel
theorem mi_309_10 : mI 309 10 = (5, 0, 0, 0, 0) := by decide +kernel
theorem mi_309_11 : mI 309 11 = (17, 1207, 9, 11, 1) := by decide +kernel
theorem mi_309_14 : mI 309 14 = (1, 0, 0, 0, 0) := by decide +kernel
theorem mi_309_15 : mI 309 15 = (19, 0, 0, 0, 0) := by decide +kernel
theorem mi_309_16 : mI 309 16 = (10, 0, 2, 0, 0) := by decide +kernel
theorem mi_309_17 : mI 309 17 = (6, 0, 2, 0, 0) := by decide +kernel
theorem mi_309_18 : mI 309 18 = (9, 1, 3, 0, 0) := by decide +kernel
theorem mi_309_21 : mI 309 21 = (16, (-17), 0, 4, 0) := by decide +kernel
theorem mi_309_24 : mI 309 24 = (3, 0, 2, 0, 0) := by decide +kernel
theorem mi_309_25 : mI 309 25 = (27, 0, 0, 0, 0) := by decide +kernel
theorem mi_310_0 : mI 310 0 = (5, 0, 0, 0, 0) := by decide +kernel
theorem mi_310_1 : mI 310 1 = (3, 0, 2, 0, 0) := by decide +kernel
theorem mi_310_2 : mI 310 2 = (18, 1236, 393, 11, 30) := by decide +kernel
theorem mi_310_5 : mI 310 5 = (3, 0, 1, 0, 0) := by decide +kernel
theorem mi_310_6 : mI 310 6 = (6, 0, 3, 0, 0) := by decide +kernel
theorem mi_310_7 : mI 310 7 = (3, 0, 2, 0, 0) := by decide +kernel
theorem mi_310_8 : mI 310 8 = (1, 1, 0, 0, 0) := by decide +kernel
theorem mi_310_9 : mI 310 9 = (10, 0, 1, 0, 0) := by decide +kernel
theorem mi_310_10 : mI 310 10 = (6, 0, 4, 1, 0) := by decide +kernel
theorem mi_310_12 : mI 310 12 = (3, 0, 4, 1, 0) := by decide +kernel
theorem mi_310_14 : mI 310 14 = (14, 33, 2, 47, 0) := by decide +kernel
theorem mi_310_17 : mI 310 17 = (5, 0, 0, 0, 0) := by decide +kernel
theorem mi_310_18 : mI 310 18 = (17, 1235, 61, 11, 29) := by decide +kernel
theorem mi_310_21 : mI 310 21 = (3, 0, 4, 1, 0) := by decide +kernel
theorem mi_310_23 : mI 310 23 = (3, 0, 3, 0, 0) := by decide +kernel
theorem mi_310_24 : mI 310 24 = (5, 0, 0, 0, 0) := by decide +kernel
theorem mi_310_25 : mI 310 25 = (17, 1207, 9, 11, 1) := by decide +kernel
theorem mi_310_28 : mI 310 28 = (1, 0, 0, 0, 0) := by decide +kernel
theorem mi_310_29 : mI 310 29 = (19, 0, 0, 0, 0) := by decide +kernel
theorem mi_310_30 : mI 310 30 = (10, 0, 4, 0, 0) := by decide +kernel
theorem mi_310_31 : mI 310 31 = (20, 0, 0, 0, 0) := by decide +kernel
theorem mi_310_32 : mI 310 32 = (3, 0, 3, 0, 0) := by decide +kernel
theorem mi_310_33 : mI 310 33 = (5, 0, 0, 0, 0) := by decide +kernel
theorem mi_310_34 : mI 310 34 = (17, 1207, 9, 11, 1) := by decide +kernel
theorem mi_310_37 : mI 310 37 = (1, 0, 0, 0, 0) := by decide +kernel
theorem mi_310_38 : mI 310 38 = (19, 0, 0, 0, 0) := by decide +kernel
theorem mi_310_39 : mI 310 39 = (10, 0, 3, 0, 0) := by decide +kernel
theorem mi_310_40 : mI 310 40 = (6, 0, 3, 0, 0) := by decide +kernel
theorem mi_310_41 : mI 310 41 = (9, (-1), 4, 0, 0) := by decide +kernel
theorem mi_310_44 : mI 310 44 = (16, (-32), 0, 12, 0) := by decide +kernel
theorem mi_310_47 : mI 310 47 = (27, 0, 2, 0, 0) := by decide +kernel
theorem mi_311_0 : mI 311 0 = (5, 0, 0, 0, 0) := by decide +kernel
theorem mi_311_1 : mI 311 1 = (3, 0, 1, 0, 0) := by decide +kernel
theorem mi_311_2 : mI 311 2 = (3, 0, 2, 0, 0) := by decide +kernel
theorem mi_311_3 : mI 311 3 = (12, 0, 1, 0, 0) := by decide +kernel
theorem mi_311_4 : mI 311 4 = (2, 1, 0, 0, 0) := by decide +kernel
theorem mi_311_5 : mI 311 5 = (2, 6, 1, 374, 1776) := by decide +kernel
theorem mi_311_8 : mI 311 8 = (26, 1321, 85, 193, 1) := by decide +kernel
theorem mi_311_11 : mI 311 11 = (26, 1794, 396, 305, 0) := by decide +kernel
theorem mi_311_14 : mI 311 14 = (6, 0, 3, 0, 0) := by decide +kernel
theorem mi_311_15 : mI 311 15 = (3, 0, 3, 0, 0) := by decide +kernel
theorem mi_311_16 : mI 311 16 = (14, 5, 3, 21, 0) := by decide +kernel
theorem mi_311_19 : mI 311 19 = (3, 0, 3, 0, 0) := by decide +kernel
theorem mi_311_20 : mI 311 20 = (27, 0, 0, 0, 0) := by decide +kernel
theorem mi_311_21 : mI 311 21 = (1, 0, 0, 0, 0) := by decide +kernel
theorem mi_311_22 : mI 311 22 = (6, 0, 4, 1, 0) := by decide +kernel
theorem mi_311_24 : mI 311 24 = (1, 0, 0, 0, 0) := by decide +kernel
theorem mi_311_25 : mI 311 25 = (6, 0, 5, 1, 0) := by decide +kernel
theorem mi_311_27 : mI 311 27 = (3, 0, 5, 1, 0) := by decide +kernel
theorem mi_311_29 : mI 311 29 = (5, 0, 0, 0, 0) := by decide +kernel
theorem mi_311_30 : mI 311 30 = (3, 0, 2, 0, 0) := by decide +kernel
theorem mi_311_31 : mI 311 31 = (26, 1814, 406, 309, 0) := by decide +kernel
theorem mi_311_34 : mI 311 34 = (15, 34, 3, 68, 0) := by decide +kernel
theorem mi_311_37 : mI 311 37 = (5, 0, 0, 0, 0) := by decide +kernel
theorem mi_311_38 : mI 311 38 = (3, 0, 5, 1, 0) := by decide +kernel
theorem mi_311_40 : mI 311 40 = (3, 0, 2, 0, 0) := by decide +kernel
theorem mi_311_41 : mI 311 41 = (26, 1818, 409, 310, 0) := by decide +kernel
theorem mi_311_44 : mI 311 44 = (3, 0, 4, 1, 0) := by decide +kernel
theorem mi_311_46 : mI 311 46 = (5, 0, 0, 0, 0) := by decide +kernel
theorem mi_311_47 : mI 311 47 = (3, 0, 1, 0, 0) := by decide +kernel
theorem mi_311_48 : mI 311 48 = (26, 1806, 403, 307, 0) := by decide +kernel
theorem mi_311_51 : mI 311 51 = (14, 7, 0, 58, 0) := by decide +kernel
theorem mi_311_54 : mI 311 54 = (1, 1, 0, 0, 0) := by decide +kernel
theorem mi_311_55 : mI 311 55 = (16, 4, 0, 59, 0) := by decide +kernel
theorem mi_311_58 : mI 311 58 = (1, 0, 0, 0, 0) := by decide +kernel
theorem mi_311_59 : mI 311 59 = (10, 0, 0, 0, 0) := by decide +kernel
theorem mi_311_60 : mI 311 60 = (6, 0, 4, 1, 0) := by decide +kernel
theorem mi_311_62 : mI 311 62 = (9, 1, 5, 0, 0) := by decide +kernel
theorem mi_311_65 : mI 311 65 = (16, (-38), 0, 27, 0) := by decide +kernel
theorem mi_311_68 : mI 311 68 = (3, 0, 4, 1, 0) := by decide +kernel
theorem mi_311_70 : mI 311 70 = (27, 0, 0, 0, 0) := by decide +kernel
section XYA
variable {l : Launch} {D : va_G} {tys : List (ClassId × FieldType)} {A : Nat → Prop} {ad : Nat → Nat} {ws : va_W}
theorem dgC_lt {S n c i : Nat} (hS : 0 < S) : dgC S n c i < S := Nat.mod_lt _ hS
theorem dvN {a b : Nat} (ha : a ≤ 2147483647) (hb : 0 < b) (b9 : b ≤ 2147483647) : ibF 3 (Int32.ofInt (a : Int)) (Int32.ofInt (b : Int)) = Int32.ofInt ((a / b : Nat) : Int) := by
  show Int32.ofInt (a : Int) / Int32.ofInt (b : Int) = _
  rw [div32 (by omega) (by omega) (by omega) (by omega)]
  rfl
theorem mdN {a b : Nat} (ha : a ≤ 2147483647) (hb : 0 < b) (b9 : b ≤ 2147483647) : ibF 4 (Int32.ofInt (a : Int)) (Int32.ofInt (b : Int)) = Int32.ofInt ((a % b : Nat) : Int) := by
  show Int32.ofInt (a : Int) - Int32.ofInt (a : Int) / Int32.ofInt (b : Int) * Int32.ofInt (b : Int) = _
  rw [div32 (by omega) (by omega) (by omega) (by omega), ← Int32.ofInt_mul, ← Int32.ofInt_sub]
  have k : a / b * b + a % b = a := by
    rw [Nat.mul_comm]
    exact Nat.div_add_mod a b
  have k2 : (a : Int).tdiv (b : Int) * (b : Int) = ((a / b * b : Nat) : Int) := rfl
  rw [k2, show (a : Int) - ((a / b * b : Nat) : Int) = ((a % b : Nat) : Int) by omega]
theorem nzN {b : Nat} (hb : 0 < b) (b9 : b ≤ 2147483647) : ¬ Int32.ofInt (b : Int) = 0 := fun z => by
  have := ofI (a := (b : Int)) (b := 0) ⟨by omega, by omega⟩ ⟨by omega, by omega⟩ z
  omega
noncomputable def O5M (w0 w : va_W) : Prop := ∀ c p, c ≠ 105 → ¬ (c = 90 ∧ p = 30) → rd w c p = rd w0 c p
/-- the code is spelt -/
noncomputable def SPC (S n c : Nat) (w : va_W) : Prop := rd w 90 30 = some (.int (Int32.ofInt (n : Int))) ∧ ∀ i, i < n → rd w 105 i = some (.int (Int32.ofInt ((dgC S n c i : Nat) : Int)))
theorem pow_6 {S n : Nat} (S9 : S ≤ 9) (n6 : n ≤ 6) : S ^ n ≤ 531441 := by
  have l1 : S ^ n ≤ 9 ^ n := Nat.pow_le_pow_left S9 n
  have l2 : 9 ^ n ≤ 9 ^ 6 := Nat.pow_le_pow_right (by omega) n6
  have l3 : (9 : Nat) ^ 6 = 531441 := by decide
  omega
theorem nmm_4 {G : Nat → Int} {S : Nat} (hG : GOK ad tys GG ws) (hW : W91 G ws) (hB : HB G) (eS : G 0 = (S : Int)) {n : Nat} (n6 : n ≤ 6) {post : Option Value → va_W → Prop} : ∀ (k i : Nat), i + k = n → post (some (.int (Int32.ofInt ((S ^ n : Nat) : Int)))) ws → V l D tys A 309 0 0 0 post 0 0 4 [(0, .ref (ad 90)), (1, .int (Int32.ofInt ((n : Int)))), (2, .int (Int32.ofInt (((S ^ i : Nat) : Int)))), (3, .int (Int32.ofInt ((i : Int))))] [] ws
  | 0, i, hi, kk => by
    refine V_iload (v := Int32.ofInt ((i : Int))) mi_309_4 (by simp [stL, stL2, lv_args, Value.category]) ?_
    refine V_iload (v := Int32.ofInt ((n : Int))) mi_309_5 (by simp [stL, stL2, lv_args, Value.category]) ?_
    refine V_cge mi_309_6 ⟨by omega, by omega⟩ ⟨by omega, by omega⟩ (fun q => ?_) (fun q => ?_)
    · refine V_iload (v := Int32.ofInt (((S ^ i : Nat) : Int))) mi_309_24 (by simp [stL, stL2, lv_args, Value.category]) ?_
      exact V_retI mi_309_25 (fun h => absurd h (by decide +kernel)) (by rw [show i = n by omega]; exact kk)
    · exact absurd q (by omega)
  | k + 1, i, hi, kk => by
    obtain ⟨s91, e91, -⟩ := g91s
    refine V_iload (v := Int32.ofInt ((i : Int))) mi_309_4 (by simp [stL, stL2, lv_args, Value.category]) ?_
    refine V_iload (v := Int32.ofInt ((n : Int))) mi_309_5 (by simp [stL, stL2, lv_args, Value.category]) ?_
    refine V_cge mi_309_6 ⟨by omega, by omega⟩ ⟨by omega, by omega⟩ (fun q => ?_) (fun q => ?_)
    · exact absurd q (by omega)
    · refine V_iload (v := Int32.ofInt (((S ^ i : Nat) : Int))) mi_309_9 (by simp [stL, stL2, lv_args, Value.category]) ?_
      refine V_aload (v := ad 90) mi_309_10 (by simp [stL, stL2, lv_args, Value.category]) ?_
      refine V_getI mi_309_11 hG (rref gr1m (by omega) hG) ?_
      refine V_ipush mi_309_14 ?_
      refine V_aldX (j := 0) mi_309_15 rfl hG e91 (by omega) (by omega) (hW _ (by omega)) ?_
      rw [eS]
      refine V_ibin mi_309_16 (by omega) ?_
      rw [ib2]
      rw [show ((S ^ i : Nat) : Int) * (S : Int) = ((S ^ (i + 1) : Nat) : Int) by rw [Nat.pow_succ]; rfl]
      refine V_istore mi_309_17 ?_
      refine V_iinc (v := Int32.ofInt ((i : Int))) mi_309_18 (by simp [stL, stL2, lv_args, Value.category]) ?_
      rw [ia2]
      refine V_goto mi_309_21 ?_
      refine V_sub (lv' := [(0, .ref (ad 90)), (1, .int (Int32.ofInt ((n : Int)))), (2, .int (Int32.ofInt (((S ^ (i + 1) : Nat) : Int)))), (3, .int (Int32.ofInt (((i + 1 : Nat) : Int))))]) (fun q hq => ?_) ?_
      · simp only [List.mem_cons, List.not_mem_nil, or_false] at hq
        rcases hq with rfl | rfl | rfl | rfl <;> simp [stL, stL2, lv_args, Value.category]
      exact nmm_4 hG hW hB eS n6 k (i + 1) (by omega) kk
theorem nmm_ct {G : Nat → Int} {S : Nat} (hG : GOK ad tys GG ws) (hW : W91 G ws) (hB : HB G) (eS : G 0 = (S : Int)) {n : Nat} (n6 : n ≤ 6) : CT l D tys A 309 0 0 0 [.ref (ad 90), .int (Int32.ofInt ((n : Int)))] ws (fun r w => w = ws ∧ r = some (.int (Int32.ofInt ((S ^ n : Nat) : Int)))) := by
  refine CT_of_V (by omega) (show (2 : Nat) ≤ mML 309 by decide +kernel) ?_
  refine V_ipush mi_309_0 ?_
  refine V_istore mi_309_1 ?_
  refine V_ipush mi_309_2 ?_
  refine V_istore mi_309_3 ?_
  refine V_sub (lv' := [(0, .ref (ad 90)), (1, .int (Int32.ofInt ((n : Int)))), (2, .int (Int32.ofInt (((S ^ 0 : Nat) : Int)))), (3, .int (Int32.ofInt (((0 : Nat) : Int))))]) (fun q hq => ?_) ?_
  · simp only [List.mem_cons, List.not_mem_nil, or_false] at hq
    rcases hq with rfl | rfl | rfl | rfl <;> simp [stL, stL2, lv_args, Value.category]
  exact nmm_4 hG hW hB eS n6 n 0 (by omega) ⟨rfl, rfl⟩
theorem spc_12 {G : Nat → Int} {S n c : Nat} {w0 : va_W} (hW0 : W91 G w0) (hB : HB G) (eS : G 0 = (S : Int)) (hS : 0 < S) (S9 : S ≤ 9) (n6 : n ≤ 6) (hc : c < 1000000) {post : Option Value → va_W → Prop} : ∀ (r : Nat) (ws : va_W), r ≤ n → GOK ad tys GG ws → O5M w0 ws → rd ws 90 30 = some (.int (Int32.ofInt (n : Int))) → (∀ i, r ≤ i → i < n → rd ws 105 i = some (.int (Int32.ofInt ((dgC S n c i : Nat) : Int)))) → (∀ w : va_W, GOK ad tys GG w → O5M w0 w → SPC S n c w → post none w) → V l D tys A 310 0 0 0 post 0 0 12 [(0, .ref (ad 90)), (1, .int (Int32.ofInt ((c : Int)))), (2, .int (Int32.ofInt ((n : Int)))), (3, .int (Int32.ofInt (((c / S ^ (n - r) : Nat) : Int)))), (4, .int (Int32.ofInt ((r : Int) - 1)))] [] ws
  | 0, ws, hr, hG, hO, hn, hd, kk => by
    refine V_iload (v := Int32.ofInt (((0 : Nat) : Int) - 1)) mi_310_12 (by simp [stL, stL2, lv_args, Value.category]) ?_
    refine V_zlt mi_310_14 ⟨by omega, by omega⟩ (fun q => ?_) (fun q => ?_)
    · exact V_retV mi_310_47 (kk ws hG hO ⟨hn, fun i hi => hd i (by omega) hi⟩)
    · exact absurd q (by omega)
  | r + 1, ws, hr, hG, hO, hn, hd, kk => by
    obtain ⟨s91, e91, -⟩ := g91s
    obtain ⟨s105, e105, f105⟩ := a105
    have hW : W91 G ws := fun j hj => (hO 91 j (by omega) (by omega)).trans (hW0 j hj)
    have le : c / S ^ (n - (r + 1)) ≤ c := Nat.div_le_self _ _
    rw [show ((r + 1 : Nat) : Int) - 1 = (r : Int) by omega]
    refine V_iload (v := Int32.ofInt ((r : Int))) mi_310_12 (by simp [stL, stL2, lv_args, Value.category]) ?_
    refine V_zlt mi_310_14 ⟨by omega, by omega⟩ (fun q => ?_) (fun q => ?_)
    · exact absurd q (by omega)
    · refine V_aload (v := ad 90) mi_310_17 (by simp [stL, stL2, lv_args, Value.category]) ?_
      refine V_getI mi_310_18 hG (rref gr29 (by omega) hG) ?_
      refine V_iload (v := Int32.ofInt ((r : Int))) mi_310_21 (by simp [stL, stL2, lv_args, Value.category]) ?_
      refine V_iload (v := Int32.ofInt (((c / S ^ (n - (r + 1)) : Nat) : Int))) mi_310_23 (by simp [stL, stL2, lv_args, Value.category]) ?_
      refine V_aload (v := ad 90) mi_310_24 (by simp [stL, stL2, lv_args, Value.category]) ?_
      refine V_getI mi_310_25 hG (rref gr1m (by omega) hG) ?_
      refine V_ipush mi_310_28 ?_
      refine V_aldX (j := 0) mi_310_29 rfl hG e91 (by omega) (by omega) (hW _ (by omega)) ?_
      rw [eS]
      refine V_ibin mi_310_30 (fun _ => nzN hS (by omega)) ?_
      rw [mdN (by omega) hS (by omega), show c / S ^ (n - (r + 1)) % S = dgC S n c r by unfold dgC; rw [show n - 1 - r = n - (r + 1) by omega]]
      have dl := dgC_lt (S := S) (n := n) (c := c) (i := r) hS
      refine V_astX (j := r) mi_310_31 rfl hG e105 (by omega) (by omega) (f105 _ (by omega)) (i32b _).1 (i32b _).2 (fun w1 G1 U1 => ?_)
      have O1 : O5M w0 w1 := fun c j h1 h2 => (upd_ne U1 (by omega)).trans (hO c j h1 h2)
      have hW1 : W91 G w1 := fun j hj => (O1 91 j (by omega) (by omega)).trans (hW0 j hj)
      refine V_iload (v := Int32.ofInt (((c / S ^ (n - (r + 1)) : Nat) : Int))) mi_310_32 (by simp [stL, stL2, lv_args, Value.category]) ?_
      refine V_aload (v := ad 90) mi_310_33 (by simp [stL, stL2, lv_args, Value.category]) ?_
      refine V_getI mi_310_34 G1 (rref gr1m (by omega) G1) ?_
      refine V_ipush mi_310_37 ?_
      refine V_aldX (j := 0) mi_310_38 rfl G1 e91 (by omega) (by omega) (hW1 _ (by omega)) ?_
      rw [eS]
      refine V_ibin mi_310_39 (fun _ => nzN hS (by omega)) ?_
      rw [dvN (by omega) hS (by omega), show c / S ^ (n - (r + 1)) / S = c / S ^ (n - r) by rw [Nat.div_div_eq_div_mul, ← Nat.pow_succ, show (n - (r + 1)).succ = n - r by omega]]
      refine V_istore mi_310_40 ?_
      refine V_iinc (v := Int32.ofInt ((r : Int))) mi_310_41 (by simp [stL, stL2, lv_args, Value.category]) ?_
      rw [ia2]
      rw [show (r : Int) + (-1) = (r : Int) - 1 by omega]
      refine V_goto mi_310_44 ?_
      refine V_sub (lv' := [(0, .ref (ad 90)), (1, .int (Int32.ofInt ((c : Int)))), (2, .int (Int32.ofInt ((n : Int)))), (3, .int (Int32.ofInt (((c / S ^ (n - r) : Nat) : Int)))), (4, .int (Int32.ofInt ((r : Int) - 1)))]) (fun q hq => ?_) ?_
      · simp only [List.mem_cons, List.not_mem_nil, or_false] at hq
        rcases hq with rfl | rfl | rfl | rfl | rfl <;> simp [stL, stL2, lv_args, Value.category]
      refine spc_12 hW0 hB eS hS S9 n6 hc r w1 (by omega) G1 O1 ((upd_ne U1 (by omega)).trans hn) (fun i h1 h2 => ?_) kk
      by_cases e : i = r
      · rw [e]
        exact upd_eq U1
      · exact (upd_ne U1 (by omega)).trans (hd i (by omega) h2)
theorem spc_ct {G : Nat → Int} {S n c : Nat} (hG : GOK ad tys GG ws) (hW : W91 G ws) (hB : HB G) (eS : G 0 = (S : Int)) (hS : 0 < S) (S9 : S ≤ 9) (n6 : n ≤ 6) (hc : c < 1000000) : CT l D tys A 310 0 0 0 [.ref (ad 90), .int (Int32.ofInt ((c : Int))), .int (Int32.ofInt ((n : Int)))] ws (fun r w => r = none ∧ GOK ad tys GG w ∧ O5M ws w ∧ SPC S n c w) := by
  refine CT_of_V (by omega) (show (3 : Nat) ≤ mML 310 by decide +kernel) ?_
  refine V_aload (v := ad 90) mi_310_0 (by simp [stL, stL2, lv_args, Value.category]) ?_
  refine V_iload (v := Int32.ofInt ((n : Int))) mi_310_1 (by simp [stL, stL2, lv_args, Value.category]) ?_
  refine V_putI mi_310_2 hG f30m (by omega) rfl (by decide +kernel) (by rw [Int32.toInt_ofInt_of_le (by omega) (by omega)]; omega) (by rw [Int32.toInt_ofInt_of_le (by omega) (by omega)]; omega) (fun w1 G1 U1 => ?_)
  refine V_iload (v := Int32.ofInt ((c : Int))) mi_310_5 (by simp [stL, stL2, lv_args, Value.category]) ?_
  refine V_istore mi_310_6 ?_
  refine V_iload (v := Int32.ofInt ((n : Int))) mi_310_7 (by simp [stL, stL2, lv_args, Value.category]) ?_
  refine V_ipush mi_310_8 ?_
  refine V_ibin mi_310_9 (by omega) ?_
  rw [ib1]
  refine V_istore mi_310_10 ?_
  refine V_sub (lv' := [(0, .ref (ad 90)), (1, .int (Int32.ofInt ((c : Int)))), (2, .int (Int32.ofInt ((n : Int)))), (3, .int (Int32.ofInt (((c / S ^ (n - n) : Nat) : Int)))), (4, .int (Int32.ofInt ((n : Int) - 1)))]) (fun q hq => ?_) ?_
  · simp only [List.mem_cons, List.not_mem_nil, or_false] at hq
    rcases hq with rfl | rfl | rfl | rfl | rfl <;> simp [stL, stL2, lv_args, Value.category]
  exact spc_12 (w0 := ws) hW hB eS hS S9 n6 hc n w1 (Nat.le_refl _) G1 (fun c j h1 h2 => upd_ne U1 (by omega)) (upd_eq U1) (fun i h1 h2 => absurd h1 (by omega)) (fun w g o s => ⟨rfl, g, o, s⟩)
end XYA
section XYB
theorem smN_app {f : Nat → Int} (a : Nat) : ∀ n : Nat, smN f (a + n) = smN f a + smN (fun r => f (a + r)) n
  | 0 => (Int.add_zero _).symm
  | n + 1 => by
    show smN f (a + n) + f (a + n) = smN f a + (smN (fun r => f (a + r)) n + f (a + n))
    rw [smN_app a n]
    omega
theorem smN_mul {f : Nat → Int} (n : Nat) : ∀ m : Nat, smN f (m * n) = smN (fun u => smN (fun r => f (u * n + r)) n) m
  | 0 => by
    rw [Nat.zero_mul]
    rfl
  | m + 1 => by
    rw [Nat.add_mul, Nat.one_mul, smN_app, smN_mul n m]
    rfl
theorem smN_ite {u : Nat → Nat} {h : Nat} {w : Int} : ∀ n : Nat, smN (fun e => if u e = h then w else 0) n = w * smN (fun e => if u e = h then 1 else 0) n
  | 0 => (Int.mul_zero _).symm
  | n + 1 => by
    show smN (fun e => if u e = h then w else 0) n + (if u n = h then w else 0) = w * (smN (fun e => if u e = h then 1 else 0) n + (if u n = h then 1 else 0))
    rw [smN_ite n, Int.mul_add]
    by_cases c : u n = h
    · rw [if_pos c, if_pos c, Int.mul_one]
    · rw [if_neg c, if_neg c, Int.mul_zero]
theorem smN_pick {g : Nat → Int} {s : Nat} : ∀ m : Nat, s < m → smN (fun a => if s = a then g a else 0) m = g s
  | 0, h => absurd h (Nat.not_lt_zero s)
  | m + 1, h => by
    show smN (fun a => if s = a then g a else 0) m + (if s = m then g m else 0) = g s
    by_cases e : s = m
    · rw [if_pos e, smN_cg (b := fun _ => 0) m (fun c hc => if_neg (by omega)), smN_0, e]
      omega
    · rw [if_neg e, smN_pick m (by omega)]
      omega
/-- the first r + 1 of the fragment stand at the end of its first had ones and d; as far as k -/
noncomputable def fiB (P : Nat → Int) (had : Nat) (d : Int) (r : Nat) : Nat → Bool
  | 0 => decide (P r = d)
  | k + 1 => fiB P had d r k && decide (P k = P (had - r + k))
theorem fiB_i {P : Nat → Int} {had r : Nat} {d : Int} : ∀ k : Nat, fiB P had d r k = true ↔ P r = d ∧ ∀ i, i < k → P i = P (had - r + i)
  | 0 => by
    show decide (P r = d) = true ↔ _
    rw [decide_eq_true_iff]
    exact ⟨fun h => ⟨h, fun i hi => absurd hi (Nat.not_lt_zero i)⟩, fun h => h.1⟩
  | k + 1 => by
    show (fiB P had d r k && decide (P k = P (had - r + k))) = true ↔ _
    rw [Bool.and_eq_true, fiB_i k, decide_eq_true_iff]
    constructor
    · rintro ⟨⟨h1, h2⟩, h3⟩
      refine ⟨h1, fun i hi => ?_⟩
      by_cases e : i = k
      · rw [e]
        exact h3
      · exact h2 i (by omega)
    · rintro ⟨h1, h2⟩
      exact ⟨⟨h1, fun i hi => h2 i (by omega)⟩, h2 k (by omega)⟩
noncomputable def edS (P : Nat → Int) (had : Nat) (d : Int) : Nat → Nat
  | 0 => 0
  | r + 1 => if fiB P had d r r = true then r + 1 else edS P had d r
theorem edS_y {P : Nat → Int} {had r : Nat} {d : Int} (h : fiB P had d r r = true) : edS P had d (r + 1) = r + 1 := if_pos h
theorem edS_n {P : Nat → Int} {had r : Nat} {d : Int} (h : fiB P had d r r = false) : edS P had d (r + 1) = edS P had d r := if_neg (by rw [h]; exact Bool.false_ne_true)
theorem edS_ok {P : Nat → Int} {had : Nat} {d : Int} : ∀ m : Nat, edS P had d m ≤ m ∧ (∀ r, edS P had d m = r + 1 → fiB P had d r r = true) ∧ ∀ r, edS P had d m ≤ r → r < m → fiB P had d r r = false
  | 0 => ⟨Nat.le_refl _, fun r h => absurd (show 0 = r + 1 from h) (by omega), fun r _ h => absurd h (Nat.not_lt_zero r)⟩
  | m + 1 => by
    obtain ⟨a, b, c⟩ := edS_ok (P := P) (had := had) (d := d) m
    cases h : fiB P had d m m with
    | true =>
      rw [edS_y h]
      refine ⟨Nat.le_refl _, fun r e => ?_, fun r h1 h2 => absurd h1 (by omega)⟩
      rw [← (show m = r by omega)]
      exact h
    | false =>
      rw [edS_n h]
      refine ⟨by omega, b, fun r h1 h2 => ?_⟩
      by_cases e : r = m
      · rw [e]
        exact h
      · exact c r h1 (by omega)
/-- how much of it stands at the end, a syllable later -/
noncomputable def dlt (P : Nat → Int) (z had d : Nat) : Nat := if had = z then z else edS P had (d : Int) (had + 1)
theorem dlt_y {P : Nat → Int} {z had d : Nat} (h : had = z) : dlt P z had d = z := if_pos h
theorem dlt_n {P : Nat → Int} {z had d : Nat} (h : ¬ had = z) : dlt P z had d = edS P had (d : Int) (had + 1) := if_neg h
theorem dlt_le {P : Nat → Int} {z had d : Nat} (h : had ≤ z) : dlt P z had d ≤ z := by
  by_cases e : had = z
  · rw [dlt_y e]
    exact Nat.le_refl _
  · rw [dlt_n e]
    have := (edS_ok (P := P) (had := had) (d := (d : Int)) (had + 1)).1
    omega
noncomputable def sttC (P : Nat → Int) (S z : Nat) : Nat → Nat → Nat
  | 0, _ => 0
  | i + 1, c => dlt P z (sttC P S z i (c / S)) (c % S)
theorem sttC_le {P : Nat → Int} {S z : Nat} : ∀ i c : Nat, sttC P S z i c ≤ z
  | 0, _ => Nat.zero_le z
  | i + 1, c => dlt_le (sttC_le i (c / S))
/-- how many ways lead there -/
noncomputable def wyN (P : Nat → Int) (S z i h : Nat) : Int := smN (fun c => if sttC P S z i c = h then 1 else 0) (S ^ i)
noncomputable def woN (P : Nat → Int) (S z : Nat) (W : Nat → Int) (had d h : Nat) : Int := smN (fun a => smN (fun e => if dlt P z a e = h then W a else 0) S) had + smN (fun e => if dlt P z had e = h then W had else 0) d
theorem woN_d {P : Nat → Int} {S z : Nat} {W : Nat → Int} {had d h : Nat} : woN P S z W had (d + 1) h = woN P S z W had d h + (if dlt P z had d = h then W had else 0) := by
  unfold woN
  show smN (fun a => smN (fun e => if dlt P z a e = h then W a else 0) S) had + (smN (fun e => if dlt P z had e = h then W had else 0) d + (if dlt P z had d = h then W had else 0)) = _
  rw [Int.add_assoc]
theorem woN_h {P : Nat → Int} {S z : Nat} {W : Nat → Int} {had h : Nat} : woN P S z W had S h = woN P S z W (had + 1) 0 h := (Int.add_zero _).symm
theorem wy_0 {P : Nat → Int} {S z h : Nat} : wyN P S z 0 h = if 0 = h then 1 else 0 := by
  show smN (fun c => if sttC P S z 0 c = h then 1 else 0) (S ^ 0) = _
  rw [Nat.pow_zero]
  show 0 + (if 0 = h then (1 : Int) else 0) = _
  exact Int.zero_add _
theorem wy_s {P : Nat → Int} {S z i h : Nat} : woN P S z (wyN P S z i) (z + 1) 0 h = wyN P S z (i + 1) h := by
  have e1 : wyN P S z (i + 1) h = smN (fun u => smN (fun r => if dlt P z (sttC P S z i u) r = h then 1 else 0) S) (S ^ i) := by
    show smN (fun c => if dlt P z (sttC P S z i (c / S)) (c % S) = h then 1 else 0) (S ^ (i + 1)) = _
    rw [Nat.pow_succ, smN_mul]
    refine smN_cg _ (fun u _ => smN_cg _ (fun r hr => ?_))
    rw [show (u * S + r) / S = u by rw [Nat.mul_comm, Nat.mul_add_div (by omega), Nat.div_eq_of_lt hr, Nat.add_zero], show (u * S + r) % S = r by rw [Nat.mul_comm, Nat.mul_add_mod, Nat.mod_eq_of_lt hr]]
  have e2 : ∀ a, smN (fun e => if dlt P z a e = h then wyN P S z i a else 0) S = smN (fun c => if sttC P S z i c = a then smN (fun e => if dlt P z a e = h then 1 else 0) S else 0) (S ^ i) := fun a => by
    rw [smN_ite (u := fun e => dlt P z a e) (h := h) (w := wyN P S z i a) S, smN_ite (u := fun c => sttC P S z i c) (h := a) (w := smN (fun e => if dlt P z a e = h then 1 else 0) S) (S ^ i), Int.mul_comm]
    rfl
  show smN (fun a => smN (fun e => if dlt P z a e = h then wyN P S z i a else 0) S) (z + 1) + 0 = _
  rw [Int.add_zero, smN_cg (z + 1) (fun a _ => e2 a), ← smN_swap (g := fun a c => if sttC P S z i c = a then smN (fun e => if dlt P z a e = h then 1 else 0) S else 0) (z + 1) (S ^ i), e1]
  refine smN_cg _ (fun c _ => ?_)
  exact smN_pick (g := fun a => smN (fun e => if dlt P z a e = h then 1 else 0) S) (z + 1) (by have := sttC_le (P := P) (S := S) (z := z) i c; omega)
theorem dg_old {S i c k : Nat} (hk : k < i) : dgC S (i + 1) c k = dgC S i (c / S) k := by
  unfold dgC
  rw [Nat.div_div_eq_div_mul, show i + 1 - 1 - k = (i - 1 - k) + 1 by omega, Nat.pow_succ, Nat.mul_comm S]
theorem dg_new {S i c : Nat} : dgC S (i + 1) c i = c % S := by
  unfold dgC
  rw [show i + 1 - 1 - i = 0 by omega, Nat.pow_zero, Nat.div_one]
/-- the fragment's first s stand at the end of the name -/
noncomputable def sfx (P : Nat → Int) (S i c s : Nat) : Prop := ∀ k, k < s → ((dgC S i c (i - s + k) : Nat) : Int) = P k
/-- it stands somewhere -/
noncomputable def occ (P : Nat → Int) (S z i c : Nat) : Prop := ∃ t, t + z ≤ i ∧ ∀ k, k < z → ((dgC S i c (t + k) : Nat) : Int) = P k
theorem st_inv {P : Nat → Int} {S z : Nat} : ∀ i c : Nat, (sttC P S z i c = z ∧ occ P S z i c) ∨ (sttC P S z i c < z ∧ sttC P S z i c ≤ i ∧ sfx P S i c (sttC P S z i c) ∧ (∀ s, s ≤ z → s ≤ i → sfx P S i c s → s ≤ sttC P S z i c) ∧ ¬ occ P S z i c)
  | 0, c => by
    show (0 = z ∧ occ P S z 0 c) ∨ (0 < z ∧ 0 ≤ 0 ∧ sfx P S 0 c 0 ∧ (∀ s, s ≤ z → s ≤ 0 → sfx P S 0 c s → s ≤ 0) ∧ ¬ occ P S z 0 c)
    by_cases h : z = 0
    · exact Or.inl ⟨h.symm, 0, by omega, fun k hk => absurd hk (by omega)⟩
    · exact Or.inr ⟨by omega, Nat.le_refl _, fun k hk => absurd hk (Nat.not_lt_zero k), fun s _ hs _ => hs, fun ⟨t, ht, _⟩ => by omega⟩
  | i + 1, c => by
    have e : sttC P S z (i + 1) c = dlt P z (sttC P S z i (c / S)) (c % S) := rfl
    rcases st_inv i (c / S) with ⟨h1, h2⟩ | ⟨h1, h2, h3, h4, h5⟩
    · refine Or.inl ⟨by rw [e]; exact dlt_y h1, ?_⟩
      obtain ⟨t, ht, hk⟩ := h2
      exact ⟨t, by omega, fun k hk' => by rw [dg_old (by omega)]; exact hk k hk'⟩
    · rw [dlt_n (by omega)] at e
      rw [e]
      generalize sttC P S z i (c / S) = h0 at h1 h2 h3 h4 ⊢
      obtain ⟨b1, b2, b3⟩ := edS_ok (P := P) (had := h0) (d := ((c % S : Nat) : Int)) (h0 + 1)
      have F : ∀ r, r ≤ h0 → (fiB P h0 ((c % S : Nat) : Int) r r = true ↔ sfx P S (i + 1) c (r + 1)) := fun r hr => by
        rw [fiB_i]
        have mid : ∀ k, k < r → ((dgC S (i + 1) c (i + 1 - (r + 1) + k) : Nat) : Int) = P (h0 - r + k) := fun k hk => by
          rw [dg_old (by omega), show i + 1 - (r + 1) + k = i - h0 + (h0 - r + k) by omega]
          exact h3 (h0 - r + k) (by omega)
        have lst : dgC S (i + 1) c (i + 1 - (r + 1) + r) = c % S := by
          rw [show i + 1 - (r + 1) + r = i by omega]
          exact dg_new
        constructor
        · rintro ⟨a, b⟩ k hk
          by_cases ek : k = r
          · rw [ek, lst]
            exact a.symm
          · rw [mid k (by omega)]
            exact (b k (by omega)).symm
        · intro s
          refine ⟨?_, fun k hk => ?_⟩
          · rw [← s r (by omega), lst]
          · rw [← mid k hk]
            exact (s k (by omega)).symm
      generalize edS P h0 ((c % S : Nat) : Int) (h0 + 1) = E at b1 b2 b3 ⊢
      have Mx : ∀ s, s ≤ z → s ≤ i + 1 → sfx P S (i + 1) c s → s ≤ E := fun s hs hi hf => by
        cases s with
        | zero => exact Nat.zero_le E
        | succ r =>
          have rl : r ≤ h0 := h4 r (by omega) (by omega) (fun k hk => by
            have q := hf k (by omega)
            rw [dg_old (by omega), show i + 1 - (r + 1) + k = i - r + k by omega] at q
            exact q)
          apply Classical.byContradiction
          intro n
          have q := b3 r (by omega) (by omega)
          rw [(F r rl).mpr hf] at q
          exact Bool.false_ne_true q.symm
      have sE : sfx P S (i + 1) c E := by
        cases E with
        | zero => exact fun k hk => absurd hk (Nat.not_lt_zero k)
        | succ r => exact (F r (by omega)).mp (b2 r rfl)
      by_cases q : E = z
      · refine Or.inl ⟨q, i + 1 - z, by omega, fun k hk => ?_⟩
        rw [← q]
        exact sE k (by omega)
      · refine Or.inr ⟨by omega, by omega, sE, Mx, ?_⟩
        rintro ⟨t, ht, hk⟩
        by_cases tl : t + z ≤ i
        · exact h5 ⟨t, tl, fun k hk' => by rw [← dg_old (c := c) (show t + k < i by omega)]; exact hk k hk'⟩
        · have := Mx z (Nat.le_refl z) (by omega) (fun k hk' => by
            rw [show i + 1 - z + k = t + k by omega]
            exact hk k hk')
          omega
theorem st_occ {P : Nat → Int} {S z n c : Nat} : sttC P S z n c = z ↔ occ P S z n c := by
  rcases st_inv (P := P) (S := S) (z := z) n c with ⟨h1, h2⟩ | ⟨h1, _, _, _, h5⟩
  · exact ⟨fun _ => h2, fun _ => h1⟩
  · exact ⟨fun h => absurd h (by omega), fun h => absurd h h5⟩
theorem alB_i {P : Nat → Bool} : ∀ n : Nat, alB P n = true ↔ ∀ i, i < n → P i = true
  | 0 => ⟨fun _ i hi => absurd hi (Nat.not_lt_zero i), fun _ => rfl⟩
  | n + 1 => by
    show (alB P n && P n) = true ↔ _
    rw [Bool.and_eq_true, alB_i n]
    constructor
    · intro h i hi
      by_cases e : i = n
      · rw [e]
        exact h.2
      · exact h.1 i (by omega)
    · intro h
      exact ⟨fun i hi => h i (by omega), h n (by omega)⟩
theorem exB_i {P : Nat → Bool} : ∀ n : Nat, exsB P n = true ↔ ∃ i, i < n ∧ P i = true
  | 0 => ⟨fun h => absurd (show false = true from h) Bool.false_ne_true, fun ⟨i, hi, _⟩ => absurd hi (Nat.not_lt_zero i)⟩
  | n + 1 => by
    show (exsB P n || P n) = true ↔ _
    rw [Bool.or_eq_true, exB_i n]
    constructor
    · rintro (⟨i, hi, h⟩ | h)
      · exact ⟨i, by omega, h⟩
      · exact ⟨n, by omega, h⟩
    · rintro ⟨i, hi, h⟩
      by_cases e : i = n
      · rw [e] at h
        exact Or.inr h
      · exact Or.inl ⟨i, by omega, h⟩
/-- a hill whose first name is the code's -/
noncomputable def gcN (G : Nat → Int) (S n c j : Nat) : Int := if j = 6 then (n : Int) else if 7 ≤ j ∧ j < 13 then ((dgC S n c (j - 7) : Nat) : Int) else G j
theorem gc_ne {G : Nat → Int} {S n c j : Nat} (h : j < 6 ∨ 13 ≤ j) : gcN G S n c j = G j := by
  unfold gcN
  rw [if_neg (by omega), if_neg (by omega)]
theorem gc_6 {G : Nat → Int} {S n c : Nat} : gcN G S n c (6 + 7 * 0) = (n : Int) := if_pos rfl
theorem gc_7 {G : Nat → Int} {S n c i : Nat} (h : i < 6) : gcN G S n c (7 + 7 * 0 + i) = ((dgC S n c i : Nat) : Int) := by
  unfold gcN
  rw [if_neg (by omega), if_pos (by omega), show 7 + 7 * 0 + i - 7 = i by omega]
theorem gc_hb {G : Nat → Int} {S n c : Nat} (hg : HB G) (hS : 0 < S) (S9 : S ≤ 9) (n6 : n ≤ 6) : HB (gcN G S n c) := by
  refine ⟨by rw [gc_ne (by omega)]; exact hg.b0, by rw [gc_ne (by omega)]; exact hg.b1, by rw [gc_ne (by omega)]; exact hg.b2, by rw [gc_ne (by omega)]; exact hg.b3, by rw [gc_ne (by omega)]; exact hg.b4, by rw [gc_ne (by omega)]; exact hg.b5, fun f hf => ?_, fun f hf k hk => ?_, fun f hf => by rw [gc_ne (by omega)]; exact hg.bs f hf, fun f hf => by rw [gc_ne (by omega)]; exact hg.bd f hf, fun f hf => by rw [gc_ne (by omega)]; exact hg.bf f hf, fun j hj => by rw [gc_ne (by omega)]; exact hg.bt j hj, fun j hj => by rw [gc_ne (by omega)]; exact hg.bp j hj, fun k hk => by rw [gc_ne (by omega), gc_ne (by omega), gc_ne (by omega), gc_ne (by omega)]; exact hg.by_ k hk⟩
  · by_cases e : f = 0
    · rw [e, gc_6]
      omega
    · rw [gc_ne (by omega)]
      exact hg.bl f hf
  · by_cases e : f = 0
    · have := dgC_lt (S := S) (n := n) (c := c) (i := k) hS
      rw [e, gc_7 hk]
      omega
    · rw [gc_ne (by omega)]
      exact hg.bn f hf k hk
theorem st_B {G : Nat → Int} {nm : Nat → Int64} {S n c j z : Nat} (n6 : n ≤ 6) : stB (gcN G S n c) nm j z 0 = true ↔ occ (nv nm j) S z n c := by
  unfold stB
  rw [exB_i, gc_6, Int.toNat_natCast]
  constructor
  · rintro ⟨t, ht, h⟩
    by_cases z0 : z = 0
    · exact ⟨0, by omega, fun k hk => absurd hk (by omega)⟩
    · refine ⟨t, by omega, fun k hk => ?_⟩
      have q : gcN G S n c (7 + 7 * 0 + (t + k)) = nv nm j k := of_decide_eq_true ((alB_i _).mp h k hk)
      rw [gc_7 (by omega)] at q
      exact q
  · rintro ⟨t, ht, h⟩
    refine ⟨t, by omega, (alB_i _).mpr (fun k hk => decide_eq_true ?_)⟩
    rw [gc_7 (by omega)]
    exact h k hk
end XYB
