theorem mi_67_0 : mI 67 0 = (5, 0, 0, 0, 0) := by decide +kernel
theorem mi_67_1 : mI 67 1 = (3, 0, 1, 0, 0) := by decide +kernel
theorem mi_67_2 : mI 67 2 = (26, 1155, 379, 69, 0) := by decide +kernel
theorem mi_67_5 : mI 67 5 = (8, 0, 2, 0, 0) := by decide +kernel
theorem mi_67_6 : mI 67 6 = (5, 0, 2, 0, 0) := by decide +kernel
theorem mi_67_7 : mI 67 7 = (30, 6, 1, 13, 0) := by decide +kernel
theorem mi_67_10 : mI 67 10 = (1, (-2), 1, 0, 0) := by decide +kernel
theorem mi_67_12 : mI 67 12 = (27, 0, 0, 0, 0) := by decide +kernel
theorem mi_67_13 : mI 67 13 = (5, 0, 2, 0, 0) := by decide +kernel
theorem mi_67_14 : mI 67 14 = (5, 0, 0, 0, 0) := by decide +kernel
theorem mi_67_15 : mI 67 15 = (17, 299, 24, 10, 2) := by decide +kernel
theorem mi_67_18 : mI 67 18 = (26, 521, 101, 100, 0) := by decide +kernel
theorem mi_67_21 : mI 67 21 = (5, 0, 0, 0, 0) := by decide +kernel
theorem mi_67_22 : mI 67 22 = (22, 0, 0, 0, 0) := by decide +kernel
theorem mi_67_23 : mI 67 23 = (17, 309, 383, 10, 12) := by decide +kernel
theorem mi_67_26 : mI 67 26 = (1, 1, 0, 0, 0) := by decide +kernel
theorem mi_67_27 : mI 67 27 = (3, 0, 1, 0, 0) := by decide +kernel
theorem mi_67_28 : mI 67 28 = (10, 0, 8, 0, 0) := by decide +kernel
theorem mi_67_29 : mI 67 29 = (10, 0, 6, 0, 0) := by decide +kernel
theorem mi_67_30 : mI 67 30 = (18, 309, 383, 10, 12) := by decide +kernel
theorem mi_67_33 : mI 67 33 = (1, 0, 0, 0, 0) := by decide +kernel
theorem mi_67_34 : mI 67 34 = (27, 0, 0, 0, 0) := by decide +kernel
theorem mi_68_0 : mI 68 0 = (5, 0, 0, 0, 0) := by decide +kernel
theorem mi_68_1 : mI 68 1 = (3, 0, 1, 0, 0) := by decide +kernel
theorem mi_68_2 : mI 68 2 = (26, 1155, 379, 69, 0) := by decide +kernel
theorem mi_68_5 : mI 68 5 = (8, 0, 2, 0, 0) := by decide +kernel
theorem mi_68_6 : mI 68 6 = (5, 0, 2, 0, 0) := by decide +kernel
theorem mi_68_7 : mI 68 7 = (30, 6, 1, 13, 0) := by decide +kernel
theorem mi_68_10 : mI 68 10 = (1, (-2), 1, 0, 0) := by decide +kernel
theorem mi_68_12 : mI 68 12 = (27, 0, 0, 0, 0) := by decide +kernel
theorem mi_68_13 : mI 68 13 = (5, 0, 0, 0, 0) := by decide +kernel
theorem mi_68_14 : mI 68 14 = (17, 309, 383, 10, 12) := by decide +kernel
theorem mi_68_17 : mI 68 17 = (3, 0, 1, 0, 0) := by decide +kernel
theorem mi_68_18 : mI 68 18 = (10, 0, 9, 0, 0) := by decide +kernel
theorem mi_68_19 : mI 68 19 = (1, 1, 0, 0, 0) := by decide +kernel
theorem mi_68_20 : mI 68 20 = (10, 0, 5, 0, 0) := by decide +kernel
theorem mi_68_21 : mI 68 21 = (14, 6, 1, 27, 0) := by decide +kernel
theorem mi_68_24 : mI 68 24 = (1, (-6), 1, 0, 0) := by decide +kernel
theorem mi_68_26 : mI 68 26 = (27, 0, 0, 0, 0) := by decide +kernel
theorem mi_68_27 : mI 68 27 = (5, 0, 0, 0, 0) := by decide +kernel
theorem mi_68_28 : mI 68 28 = (17, 299, 24, 10, 2) := by decide +kernel
theorem mi_68_31 : mI 68 31 = (5, 0, 2, 0, 0) := by decide +kernel
theorem mi_68_32 : mI 68 32 = (26, 521, 101, 100, 0) := by decide +kernel
theorem mi_68_35 : mI 68 35 = (5, 0, 0, 0, 0) := by decide +kernel
theorem mi_68_36 : mI 68 36 = (26, 528, 104, 73, 0) := by decide +kernel
theorem mi_68_39 : mI 68 39 = (1, 0, 0, 0, 0) := by decide +kernel
theorem mi_68_40 : mI 68 40 = (27, 0, 0, 0, 0) := by decide +kernel
theorem mi_72_0 : mI 72 0 = (5, 0, 0, 0, 0) := by decide +kernel
theorem mi_72_1 : mI 72 1 = (17, 304, 55, 10, 7) := by decide +kernel
theorem mi_72_4 : mI 72 4 = (3, 0, 1, 0, 0) := by decide +kernel
theorem mi_72_5 : mI 72 5 = (26, 914, 287, 160, 0) := by decide +kernel
theorem mi_72_8 : mI 72 8 = (14, 14, 0, 22, 0) := by decide +kernel
theorem mi_72_11 : mI 72 11 = (5, 0, 0, 0, 0) := by decide +kernel
theorem mi_72_12 : mI 72 12 = (17, 304, 55, 10, 7) := by decide +kernel
theorem mi_72_15 : mI 72 15 = (3, 0, 3, 0, 0) := by decide +kernel
theorem mi_72_16 : mI 72 16 = (26, 914, 287, 160, 0) := by decide +kernel
theorem mi_72_19 : mI 72 19 = (14, 6, 1, 25, 0) := by decide +kernel
theorem mi_72_22 : mI 72 22 = (1, (-2), 1, 0, 0) := by decide +kernel
theorem mi_72_24 : mI 72 24 = (27, 0, 0, 0, 0) := by decide +kernel
theorem mi_72_25 : mI 72 25 = (5, 0, 0, 0, 0) := by decide +kernel
theorem mi_72_26 : mI 72 26 = (17, 304, 55, 10, 7) := by decide +kernel
theorem mi_72_29 : mI 72 29 = (3, 0, 1, 0, 0) := by decide +kernel
theorem mi_72_30 : mI 72 30 = (26, 924, 293, 161, 0) := by decide +kernel
theorem mi_72_33 : mI 72 33 = (14, 14, 1, 47, 0) := by decide +kernel
theorem mi_72_36 : mI 72 36 = (5, 0, 0, 0, 0) := by decide +kernel
theorem mi_72_37 : mI 72 37 = (17, 304, 55, 10, 7) := by decide +kernel
theorem mi_72_40 : mI 72 40 = (3, 0, 3, 0, 0) := by decide +kernel
theorem mi_72_41 : mI 72 41 = (26, 924, 293, 161, 0) := by decide +kernel
theorem mi_72_44 : mI 72 44 = (14, 6, 0, 50, 0) := by decide +kernel
theorem mi_72_47 : mI 72 47 = (1, (-6), 1, 0, 0) := by decide +kernel
theorem mi_72_49 : mI 72 49 = (27, 0, 0, 0, 0) := by decide +kernel
theorem mi_72_50 : mI 72 50 = (5, 0, 0, 0, 0) := by decide +kernel
theorem mi_72_51 : mI 72 51 = (17, 304, 55, 10, 7) := by decide +kernel
theorem mi_72_54 : mI 72 54 = (3, 0, 1, 0, 0) := by decide +kernel
theorem mi_72_55 : mI 72 55 = (26, 1192, 394, 163, 0) := by decide +kernel
theorem mi_72_58 : mI 72 58 = (5, 0, 0, 0, 0) := by decide +kernel
theorem mi_72_59 : mI 72 59 = (17, 304, 55, 10, 7) := by decide +kernel
theorem mi_72_62 : mI 72 62 = (3, 0, 3, 0, 0) := by decide +kernel
theorem mi_72_63 : mI 72 63 = (26, 1192, 394, 163, 0) := by decide +kernel
theorem mi_72_66 : mI 72 66 = (15, 6, 0, 72, 0) := by decide +kernel
theorem mi_72_69 : mI 72 69 = (1, (-8), 1, 0, 0) := by decide +kernel
theorem mi_72_71 : mI 72 71 = (27, 0, 0, 0, 0) := by decide +kernel
theorem mi_72_72 : mI 72 72 = (5, 0, 0, 0, 0) := by decide +kernel
theorem mi_72_73 : mI 72 73 = (17, 304, 55, 10, 7) := by decide +kernel
theorem mi_72_76 : mI 72 76 = (3, 0, 1, 0, 0) := by decide +kernel
theorem mi_72_77 : mI 72 77 = (3, 0, 2, 0, 0) := by decide +kernel
theorem mi_72_78 : mI 72 78 = (3, 0, 5, 1, 0) := by decide +kernel
theorem mi_72_80 : mI 72 80 = (26, 1193, 397, 168, 0) := by decide +kernel
theorem mi_72_83 : mI 72 83 = (14, 18, 0, 101, 0) := by decide +kernel
theorem mi_72_86 : mI 72 86 = (5, 0, 0, 0, 0) := by decide +kernel
theorem mi_72_87 : mI 72 87 = (17, 304, 55, 10, 7) := by decide +kernel
theorem mi_72_90 : mI 72 90 = (3, 0, 3, 0, 0) := by decide +kernel
theorem mi_72_91 : mI 72 91 = (3, 0, 4, 1, 0) := by decide +kernel
theorem mi_72_93 : mI 72 93 = (3, 0, 5, 1, 0) := by decide +kernel
theorem mi_72_95 : mI 72 95 = (26, 1193, 397, 168, 0) := by decide +kernel
theorem mi_72_98 : mI 72 98 = (14, 6, 1, 104, 0) := by decide +kernel
theorem mi_72_101 : mI 72 101 = (1, (-7), 1, 0, 0) := by decide +kernel
theorem mi_72_103 : mI 72 103 = (27, 0, 0, 0, 0) := by decide +kernel
theorem mi_72_104 : mI 72 104 = (5, 0, 0, 0, 0) := by decide +kernel
theorem mi_72_105 : mI 72 105 = (17, 304, 55, 10, 7) := by decide +kernel
theorem mi_72_108 : mI 72 108 = (3, 0, 1, 0, 0) := by decide +kernel
theorem mi_72_109 : mI 72 109 = (3, 0, 2, 0, 0) := by decide +kernel
theorem mi_72_110 : mI 72 110 = (3, 0, 3, 0, 0) := by decide +kernel
theorem mi_72_111 : mI 72 111 = (3, 0, 4, 1, 0) := by decide +kernel
theorem mi_72_113 : mI 72 113 = (3, 0, 5, 1, 0) := by decide +kernel
theorem mi_72_115 : mI 72 115 = (26, 1197, 400, 169, 0) := by decide +kernel
theorem mi_72_118 : mI 72 118 = (1, 0, 0, 0, 0) := by decide +kernel
theorem mi_72_119 : mI 72 119 = (27, 0, 0, 0, 0) := by decide +kernel
theorem mi_147_0 : mI 147 0 = (3, 0, 1, 0, 0) := by decide +kernel
theorem mi_147_1 : mI 147 1 = (14, 15, 2, 16, 0) := by decide +kernel
theorem mi_147_4 : mI 147 4 = (3, 0, 1, 0, 0) := by decide +kernel
theorem mi_147_5 : mI 147 5 = (5, 0, 0, 0, 0) := by decide +kernel
theorem mi_147_6 : mI 147 6 = (21, 0, 0, 0, 0) := by decide +kernel
theorem mi_147_7 : mI 147 7 = (15, 9, 3, 16, 0) := by decide +kernel
theorem mi_147_10 : mI 147 10 = (5, 0, 0, 0, 0) := by decide +kernel
theorem mi_147_11 : mI 147 11 = (3, 0, 1, 0, 0) := by decide +kernel
theorem mi_147_12 : mI 147 12 = (19, 0, 0, 0, 0) := by decide +kernel
theorem mi_147_13 : mI 147 13 = (16, 4, 0, 17, 0) := by decide +kernel
theorem mi_147_16 : mI 147 16 = (1, 0, 0, 0, 0) := by decide +kernel
theorem mi_147_17 : mI 147 17 = (27, 0, 0, 0, 0) := by decide +kernel
theorem mi_148_0 : mI 148 0 = (3, 0, 1, 0, 0) := by decide +kernel
theorem mi_148_1 : mI 148 1 = (14, 13, 2, 14, 0) := by decide +kernel
theorem mi_148_4 : mI 148 4 = (3, 0, 1, 0, 0) := by decide +kernel
theorem mi_148_5 : mI 148 5 = (5, 0, 0, 0, 0) := by decide +kernel
theorem mi_148_6 : mI 148 6 = (21, 0, 0, 0, 0) := by decide +kernel
theorem mi_148_7 : mI 148 7 = (15, 7, 3, 14, 0) := by decide +kernel
theorem mi_148_10 : mI 148 10 = (5, 0, 0, 0, 0) := by decide +kernel
theorem mi_148_11 : mI 148 11 = (3, 0, 1, 0, 0) := by decide +kernel
theorem mi_148_12 : mI 148 12 = (3, 0, 2, 0, 0) := by decide +kernel
theorem mi_148_13 : mI 148 13 = (20, 0, 0, 0, 0) := by decide +kernel
theorem mi_148_14 : mI 148 14 = (27, 0, 2, 0, 0) := by decide +kernel
theorem mi_160_0 : mI 160 0 = (3, 0, 1, 0, 0) := by decide +kernel
theorem mi_160_1 : mI 160 1 = (14, 12, 2, 13, 0) := by decide +kernel
theorem mi_160_4 : mI 160 4 = (3, 0, 1, 0, 0) := by decide +kernel
theorem mi_160_5 : mI 160 5 = (1, 4, 0, 0, 0) := by decide +kernel
theorem mi_160_6 : mI 160 6 = (15, 7, 3, 13, 0) := by decide +kernel
theorem mi_160_9 : mI 160 9 = (1, 1, 0, 0, 0) := by decide +kernel
theorem mi_160_10 : mI 160 10 = (16, 4, 0, 14, 0) := by decide +kernel
theorem mi_160_13 : mI 160 13 = (1, 0, 0, 0, 0) := by decide +kernel
theorem mi_160_14 : mI 160 14 = (27, 0, 0, 0, 0) := by decide +kernel
theorem mi_161_0 : mI 161 0 = (5, 0, 0, 0, 0) := by decide +kernel
theorem mi_161_1 : mI 161 1 = (3, 0, 1, 0, 0) := by decide +kernel
theorem mi_161_2 : mI 161 2 = (26, 928, 22, 162, 0) := by decide +kernel
theorem mi_161_5 : mI 161 5 = (14, 7, 3, 12, 0) := by decide +kernel
theorem mi_161_8 : mI 161 8 = (1, 1, 0, 0, 0) := by decide +kernel
theorem mi_161_9 : mI 161 9 = (16, 4, 0, 13, 0) := by decide +kernel
theorem mi_161_12 : mI 161 12 = (1, 0, 0, 0, 0) := by decide +kernel
theorem mi_161_13 : mI 161 13 = (27, 0, 0, 0, 0) := by decide +kernel
theorem mi_162_0 : mI 162 0 = (5, 0, 0, 0, 0) := by decide +kernel
theorem mi_162_1 : mI 162 1 = (3, 0, 1, 0, 0) := by decide +kernel
theorem mi_162_2 : mI 162 2 = (26, 922, 26, 160, 0) := by decide +kernel
theorem mi_162_5 : mI 162 5 = (14, 14, 0, 19, 0) := by decide +kernel
theorem mi_162_8 : mI 162 8 = (5, 0, 0, 0, 0) := by decide +kernel
theorem mi_162_9 : mI 162 9 = (17, 243, 19, 7, 2) := by decide +kernel
theorem mi_162_12 : mI 162 12 = (3, 0, 1, 0, 0) := by decide +kernel
theorem mi_162_13 : mI 162 13 = (26, 923, 30, 147, 1) := by decide +kernel
theorem mi_162_16 : mI 162 16 = (16, 4, 0, 20, 0) := by decide +kernel
theorem mi_162_20 : mI 162 20 = (27, 0, 0, 0, 0) := by decide +kernel
theorem mi_163_0 : mI 163 0 = (5, 0, 0, 0, 0) := by decide +kernel
theorem mi_163_1 : mI 163 1 = (17, 242, 15, 7, 1) := by decide +kernel
theorem mi_163_4 : mI 163 4 = (3, 0, 1, 0, 0) := by decide +kernel
theorem mi_163_5 : mI 163 5 = (26, 923, 30, 147, 1) := by decide +kernel
theorem mi_163_8 : mI 163 8 = (27, 0, 0, 0, 0) := by decide +kernel
theorem mi_168_0 : mI 168 0 = (3, 0, 2, 0, 0) := by decide +kernel
theorem mi_168_1 : mI 168 1 = (14, 26, 2, 27, 0) := by decide +kernel
theorem mi_168_4 : mI 168 4 = (3, 0, 3, 0, 0) := by decide +kernel
theorem mi_168_5 : mI 168 5 = (14, 22, 2, 27, 0) := by decide +kernel
theorem mi_168_8 : mI 168 8 = (3, 0, 2, 0, 0) := by decide +kernel
theorem mi_168_9 : mI 168 9 = (12, 0, 1, 0, 0) := by decide +kernel
theorem mi_168_10 : mI 168 10 = (3, 0, 3, 0, 0) := by decide +kernel
theorem mi_168_11 : mI 168 11 = (12, 0, 1, 0, 0) := by decide +kernel
theorem mi_168_12 : mI 168 12 = (11, 0, 0, 0, 0) := by decide +kernel
theorem mi_168_13 : mI 168 13 = (5, 0, 0, 0, 0) := by decide +kernel
theorem mi_168_14 : mI 168 14 = (3, 0, 1, 0, 0) := by decide +kernel
theorem mi_168_15 : mI 168 15 = (26, 928, 22, 162, 0) := by decide +kernel
theorem mi_168_18 : mI 168 18 = (12, 0, 1, 0, 0) := by decide +kernel
theorem mi_168_19 : mI 168 19 = (13, 0, 0, 0, 0) := by decide +kernel
theorem mi_168_20 : mI 168 20 = (14, 7, 4, 27, 0) := by decide +kernel
theorem mi_168_23 : mI 168 23 = (1, 1, 0, 0, 0) := by decide +kernel
theorem mi_168_24 : mI 168 24 = (16, 4, 0, 28, 0) := by decide +kernel
theorem mi_168_27 : mI 168 27 = (1, 0, 0, 0, 0) := by decide +kernel
theorem mi_168_28 : mI 168 28 = (27, 0, 0, 0, 0) := by decide +kernel
theorem mi_196_0 : mI 196 0 = (3, 0, 1, 0, 0) := by decide +kernel
theorem mi_196_1 : mI 196 1 = (12, 0, 1, 0, 0) := by decide +kernel
theorem mi_196_2 : mI 196 2 = (2, 0, 0, 0, 0) := by decide +kernel
theorem mi_196_3 : mI 196 3 = (2, 2, 1, 83, 1320) := by decide +kernel
theorem mi_196_6 : mI 196 6 = (26, 1321, 85, 193, 1) := by decide +kernel
theorem mi_196_9 : mI 196 9 = (14, 6, 1, 15, 0) := by decide +kernel
theorem mi_196_12 : mI 196 12 = (1, (-2), 1, 0, 0) := by decide +kernel
theorem mi_196_14 : mI 196 14 = (27, 0, 0, 0, 0) := by decide +kernel
theorem mi_196_15 : mI 196 15 = (1, 0, 0, 0, 0) := by decide +kernel
theorem mi_196_16 : mI 196 16 = (6, 0, 2, 0, 0) := by decide +kernel
theorem mi_196_17 : mI 196 17 = (3, 0, 2, 0, 0) := by decide +kernel
theorem mi_196_18 : mI 196 18 = (1, 294, 2, 0, 0) := by decide +kernel
theorem mi_196_21 : mI 196 21 = (15, 27, 3, 48, 0) := by decide +kernel
theorem mi_196_24 : mI 196 24 = (5, 0, 0, 0, 0) := by decide +kernel
theorem mi_196_25 : mI 196 25 = (17, 1208, 13, 11, 2) := by decide +kernel
theorem mi_196_28 : mI 196 28 = (1, 294, 2, 0, 0) := by decide +kernel
theorem mi_196_31 : mI 196 31 = (3, 0, 1, 0, 0) := by decide +kernel
theorem mi_196_32 : mI 196 32 = (10, 0, 2, 0, 0) := by decide +kernel
theorem mi_196_33 : mI 196 33 = (3, 0, 2, 0, 0) := by decide +kernel
theorem mi_196_34 : mI 196 34 = (10, 0, 0, 0, 0) := by decide +kernel
theorem mi_196_35 : mI 196 35 = (5, 0, 0, 0, 0) := by decide +kernel
theorem mi_196_36 : mI 196 36 = (17, 1207, 9, 11, 1) := by decide +kernel
theorem mi_196_39 : mI 196 39 = (3, 0, 2, 0, 0) := by decide +kernel
theorem mi_196_40 : mI 196 40 = (19, 0, 0, 0, 0) := by decide +kernel
theorem mi_196_41 : mI 196 41 = (20, 0, 0, 0, 0) := by decide +kernel
theorem mi_196_42 : mI 196 42 = (9, 1, 2, 1, 0) := by decide +kernel
theorem mi_196_45 : mI 196 45 = (16, (-28), 0, 17, 0) := by decide +kernel
theorem mi_196_48 : mI 196 48 = (5, 0, 0, 0, 0) := by decide +kernel
theorem mi_196_49 : mI 196 49 = (17, 1209, 16, 11, 3) := by decide +kernel
theorem mi_196_52 : mI 196 52 = (3, 0, 1, 0, 0) := by decide +kernel
theorem mi_196_53 : mI 196 53 = (1, 1, 0, 0, 0) := by decide +kernel
theorem mi_196_54 : mI 196 54 = (20, 0, 1, 0, 0) := by decide +kernel
theorem mi_196_55 : mI 196 55 = (1, 0, 0, 0, 0) := by decide +kernel
theorem mi_196_56 : mI 196 56 = (27, 0, 0, 0, 0) := by decide +kernel
theorem mi_197_0 : mI 197 0 = (3, 0, 1, 0, 0) := by decide +kernel
theorem mi_197_1 : mI 197 1 = (12, 0, 1, 0, 0) := by decide +kernel
theorem mi_197_2 : mI 197 2 = (2, 0, 0, 0, 0) := by decide +kernel
theorem mi_197_3 : mI 197 3 = (2, 2, 1, 83, 1320) := by decide +kernel
theorem mi_197_6 : mI 197 6 = (26, 1321, 85, 193, 1) := by decide +kernel
theorem mi_197_9 : mI 197 9 = (14, 6, 1, 15, 0) := by decide +kernel
theorem mi_197_12 : mI 197 12 = (1, (-2), 1, 0, 0) := by decide +kernel
theorem mi_197_14 : mI 197 14 = (27, 0, 0, 0, 0) := by decide +kernel
theorem mi_197_15 : mI 197 15 = (5, 0, 0, 0, 0) := by decide +kernel
theorem mi_197_16 : mI 197 16 = (17, 1209, 16, 11, 3) := by decide +kernel
theorem mi_197_19 : mI 197 19 = (3, 0, 1, 0, 0) := by decide +kernel
theorem mi_197_20 : mI 197 20 = (19, 0, 1, 0, 0) := by decide +kernel
theorem mi_197_21 : mI 197 21 = (14, 6, 1, 27, 0) := by decide +kernel
theorem mi_197_24 : mI 197 24 = (1, (-6), 1, 0, 0) := by decide +kernel
theorem mi_197_26 : mI 197 26 = (27, 0, 0, 0, 0) := by decide +kernel
theorem mi_197_27 : mI 197 27 = (1, 0, 0, 0, 0) := by decide +kernel
theorem mi_197_28 : mI 197 28 = (6, 0, 2, 0, 0) := by decide +kernel
theorem mi_197_29 : mI 197 29 = (3, 0, 2, 0, 0) := by decide +kernel
theorem mi_197_30 : mI 197 30 = (1, 294, 2, 0, 0) := by decide +kernel
theorem mi_197_33 : mI 197 33 = (15, 27, 3, 60, 0) := by decide +kernel
theorem mi_197_36 : mI 197 36 = (5, 0, 0, 0, 0) := by decide +kernel
theorem mi_197_37 : mI 197 37 = (17, 1207, 9, 11, 1) := by decide +kernel
theorem mi_197_40 : mI 197 40 = (3, 0, 2, 0, 0) := by decide +kernel
theorem mi_197_41 : mI 197 41 = (5, 0, 0, 0, 0) := by decide +kernel
theorem mi_197_42 : mI 197 42 = (17, 1208, 13, 11, 2) := by decide +kernel
theorem mi_197_45 : mI 197 45 = (1, 294, 2, 0, 0) := by decide +kernel
theorem mi_197_48 : mI 197 48 = (3, 0, 1, 0, 0) := by decide +kernel
theorem mi_197_49 : mI 197 49 = (10, 0, 2, 0, 0) := by decide +kernel
theorem mi_197_50 : mI 197 50 = (3, 0, 2, 0, 0) := by decide +kernel
theorem mi_197_51 : mI 197 51 = (10, 0, 0, 0, 0) := by decide +kernel
theorem mi_197_52 : mI 197 52 = (19, 0, 0, 0, 0) := by decide +kernel
theorem mi_197_53 : mI 197 53 = (20, 0, 0, 0, 0) := by decide +kernel
theorem mi_197_54 : mI 197 54 = (9, 1, 2, 1, 0) := by decide +kernel
theorem mi_197_57 : mI 197 57 = (16, (-28), 0, 29, 0) := by decide +kernel
theorem mi_197_60 : mI 197 60 = (1, 0, 0, 0, 0) := by decide +kernel
theorem mi_197_61 : mI 197 61 = (27, 0, 0, 0, 0) := by decide +kernel
theorem mi_336_0 : mI 336 0 = (3, 0, 0, 0, 0) := by decide +kernel
theorem mi_336_1 : mI 336 1 = (12, 0, 1, 0, 0) := by decide +kernel
theorem mi_336_2 : mI 336 2 = (2, 0, 0, 0, 0) := by decide +kernel
theorem mi_336_3 : mI 336 3 = (2, 3, 1, 299, 1488) := by decide +kernel
theorem mi_336_6 : mI 336 6 = (26, 1321, 85, 193, 1) := by decide +kernel
theorem mi_336_9 : mI 336 9 = (27, 0, 0, 0, 0) := by decide +kernel
theorem mi_340_0 : mI 340 0 = (3, 0, 1, 0, 0) := by decide +kernel
theorem mi_340_1 : mI 340 1 = (26, 1773, 371, 336, 1) := by decide +kernel
theorem mi_340_4 : mI 340 4 = (14, 10, 0, 14, 0) := by decide +kernel
theorem mi_340_7 : mI 340 7 = (3, 0, 3, 0, 0) := by decide +kernel
theorem mi_340_8 : mI 340 8 = (26, 1773, 371, 336, 1) := by decide +kernel
theorem mi_340_11 : mI 340 11 = (14, 6, 1, 17, 0) := by decide +kernel
theorem mi_340_14 : mI 340 14 = (1, (-2), 1, 0, 0) := by decide +kernel
theorem mi_340_16 : mI 340 16 = (27, 0, 0, 0, 0) := by decide +kernel
theorem mi_340_17 : mI 340 17 = (5, 0, 0, 0, 0) := by decide +kernel
theorem mi_340_18 : mI 340 18 = (17, 1238, 67, 11, 32) := by decide +kernel
theorem mi_340_21 : mI 340 21 = (3, 0, 1, 0, 0) := by decide +kernel
theorem mi_340_22 : mI 340 22 = (19, 0, 0, 0, 0) := by decide +kernel
theorem mi_340_23 : mI 340 23 = (1, (-1), 0, 0, 0) := by decide +kernel
theorem mi_340_24 : mI 340 24 = (15, 13, 0, 37, 0) := by decide +kernel
theorem mi_340_27 : mI 340 27 = (5, 0, 0, 0, 0) := by decide +kernel
theorem mi_340_28 : mI 340 28 = (17, 1238, 67, 11, 32) := by decide +kernel
theorem mi_340_31 : mI 340 31 = (3, 0, 3, 0, 0) := by decide +kernel
theorem mi_340_32 : mI 340 32 = (19, 0, 0, 0, 0) := by decide +kernel
theorem mi_340_33 : mI 340 33 = (1, (-1), 0, 0, 0) := by decide +kernel
theorem mi_340_34 : mI 340 34 = (15, 6, 1, 40, 0) := by decide +kernel
theorem mi_340_37 : mI 340 37 = (1, (-6), 1, 0, 0) := by decide +kernel
theorem mi_340_39 : mI 340 39 = (27, 0, 0, 0, 0) := by decide +kernel
theorem mi_340_40 : mI 340 40 = (5, 0, 0, 0, 0) := by decide +kernel
theorem mi_340_41 : mI 340 41 = (17, 1239, 70, 11, 33) := by decide +kernel
theorem mi_340_44 : mI 340 44 = (3, 0, 1, 0, 0) := by decide +kernel
theorem mi_340_45 : mI 340 45 = (19, 0, 0, 0, 0) := by decide +kernel
theorem mi_340_46 : mI 340 46 = (5, 0, 0, 0, 0) := by decide +kernel
theorem mi_340_47 : mI 340 47 = (17, 1239, 70, 11, 33) := by decide +kernel
theorem mi_340_50 : mI 340 50 = (3, 0, 3, 0, 0) := by decide +kernel
theorem mi_340_51 : mI 340 51 = (19, 0, 0, 0, 0) := by decide +kernel
theorem mi_340_52 : mI 340 52 = (15, 6, 0, 58, 0) := by decide +kernel
theorem mi_340_55 : mI 340 55 = (1, (-8), 1, 0, 0) := by decide +kernel
theorem mi_340_57 : mI 340 57 = (27, 0, 0, 0, 0) := by decide +kernel
theorem mi_340_58 : mI 340 58 = (3, 0, 2, 0, 0) := by decide +kernel
theorem mi_340_59 : mI 340 59 = (14, 48, 2, 107, 0) := by decide +kernel
theorem mi_340_62 : mI 340 62 = (3, 0, 4, 1, 0) := by decide +kernel
theorem mi_340_64 : mI 340 64 = (14, 43, 2, 107, 0) := by decide +kernel
theorem mi_340_67 : mI 340 67 = (3, 0, 5, 1, 0) := by decide +kernel
theorem mi_340_69 : mI 340 69 = (14, 38, 2, 107, 0) := by decide +kernel
theorem mi_340_72 : mI 340 72 = (3, 0, 2, 0, 0) := by decide +kernel
theorem mi_340_73 : mI 340 73 = (12, 0, 1, 0, 0) := by decide +kernel
theorem mi_340_74 : mI 340 74 = (3, 0, 5, 1, 0) := by decide +kernel
theorem mi_340_76 : mI 340 76 = (12, 0, 1, 0, 0) := by decide +kernel
theorem mi_340_77 : mI 340 77 = (11, 0, 0, 0, 0) := by decide +kernel
theorem mi_340_78 : mI 340 78 = (5, 0, 0, 0, 0) := by decide +kernel
theorem mi_340_79 : mI 340 79 = (17, 1238, 67, 11, 32) := by decide +kernel
theorem mi_340_82 : mI 340 82 = (3, 0, 1, 0, 0) := by decide +kernel
theorem mi_340_83 : mI 340 83 = (19, 0, 0, 0, 0) := by decide +kernel
theorem mi_340_84 : mI 340 84 = (12, 0, 1, 0, 0) := by decide +kernel
theorem mi_340_85 : mI 340 85 = (13, 0, 0, 0, 0) := by decide +kernel
theorem mi_340_86 : mI 340 86 = (14, 21, 4, 107, 0) := by decide +kernel
theorem mi_340_89 : mI 340 89 = (3, 0, 4, 1, 0) := by decide +kernel
theorem mi_340_91 : mI 340 91 = (12, 0, 1, 0, 0) := by decide +kernel
theorem mi_340_92 : mI 340 92 = (3, 0, 5, 1, 0) := by decide +kernel
theorem mi_340_94 : mI 340 94 = (12, 0, 1, 0, 0) := by decide +kernel
theorem mi_340_95 : mI 340 95 = (11, 0, 0, 0, 0) := by decide +kernel
theorem mi_340_96 : mI 340 96 = (5, 0, 0, 0, 0) := by decide +kernel
theorem mi_340_97 : mI 340 97 = (17, 1238, 67, 11, 32) := by decide +kernel
theorem mi_340_100 : mI 340 100 = (3, 0, 3, 0, 0) := by decide +kernel
theorem mi_340_101 : mI 340 101 = (19, 0, 0, 0, 0) := by decide +kernel
theorem mi_340_102 : mI 340 102 = (12, 0, 1, 0, 0) := by decide +kernel
theorem mi_340_103 : mI 340 103 = (13, 0, 0, 0, 0) := by decide +kernel
theorem mi_340_104 : mI 340 104 = (14, 6, 5, 110, 0) := by decide +kernel
theorem mi_340_107 : mI 340 107 = (1, (-7), 1, 0, 0) := by decide +kernel
theorem mi_340_109 : mI 340 109 = (27, 0, 0, 0, 0) := by decide +kernel
theorem mi_340_110 : mI 340 110 = (1, 0, 0, 0, 0) := by decide +kernel
theorem mi_340_111 : mI 340 111 = (6, 0, 6, 1, 0) := by decide +kernel
theorem mi_340_113 : mI 340 113 = (3, 0, 6, 1, 0) := by decide +kernel
theorem mi_340_115 : mI 340 115 = (3, 0, 5, 1, 0) := by decide +kernel
theorem mi_340_117 : mI 340 117 = (15, 30, 3, 147, 0) := by decide +kernel
theorem mi_340_120 : mI 340 120 = (5, 0, 0, 0, 0) := by decide +kernel
theorem mi_340_121 : mI 340 121 = (17, 1241, 77, 11, 35) := by decide +kernel
theorem mi_340_124 : mI 340 124 = (3, 0, 6, 1, 0) := by decide +kernel
theorem mi_340_126 : mI 340 126 = (5, 0, 0, 0, 0) := by decide +kernel
theorem mi_340_127 : mI 340 127 = (17, 1240, 73, 11, 34) := by decide +kernel
theorem mi_340_130 : mI 340 130 = (1, 60, 1, 0, 0) := by decide +kernel
theorem mi_340_132 : mI 340 132 = (3, 0, 1, 0, 0) := by decide +kernel
theorem mi_340_133 : mI 340 133 = (10, 0, 2, 0, 0) := by decide +kernel
theorem mi_340_134 : mI 340 134 = (3, 0, 2, 0, 0) := by decide +kernel
theorem mi_340_135 : mI 340 135 = (10, 0, 0, 0, 0) := by decide +kernel
theorem mi_340_136 : mI 340 136 = (3, 0, 6, 1, 0) := by decide +kernel
theorem mi_340_138 : mI 340 138 = (10, 0, 0, 0, 0) := by decide +kernel
theorem mi_340_139 : mI 340 139 = (19, 0, 2, 0, 0) := by decide +kernel
theorem mi_340_140 : mI 340 140 = (20, 0, 2, 0, 0) := by decide +kernel
theorem mi_340_141 : mI 340 141 = (9, 1, 6, 0, 0) := by decide +kernel
theorem mi_340_144 : mI 340 144 = (16, (-31), 0, 113, 0) := by decide +kernel
theorem mi_340_147 : mI 340 147 = (1, 0, 0, 0, 0) := by decide +kernel
theorem mi_340_148 : mI 340 148 = (6, 0, 6, 1, 0) := by decide +kernel
theorem mi_340_150 : mI 340 150 = (3, 0, 6, 1, 0) := by decide +kernel
theorem mi_340_152 : mI 340 152 = (3, 0, 5, 1, 0) := by decide +kernel
theorem mi_340_154 : mI 340 154 = (15, 31, 3, 185, 0) := by decide +kernel
theorem mi_340_157 : mI 340 157 = (5, 0, 0, 0, 0) := by decide +kernel
theorem mi_340_158 : mI 340 158 = (17, 1240, 73, 11, 34) := by decide +kernel
theorem mi_340_161 : mI 340 161 = (1, 60, 1, 0, 0) := by decide +kernel
theorem mi_340_163 : mI 340 163 = (3, 0, 3, 0, 0) := by decide +kernel
theorem mi_340_164 : mI 340 164 = (10, 0, 2, 0, 0) := by decide +kernel
theorem mi_340_165 : mI 340 165 = (3, 0, 4, 1, 0) := by decide +kernel
theorem mi_340_167 : mI 340 167 = (10, 0, 0, 0, 0) := by decide +kernel
theorem mi_340_168 : mI 340 168 = (3, 0, 6, 1, 0) := by decide +kernel
theorem mi_340_170 : mI 340 170 = (10, 0, 0, 0, 0) := by decide +kernel
theorem mi_340_171 : mI 340 171 = (5, 0, 0, 0, 0) := by decide +kernel
theorem mi_340_172 : mI 340 172 = (17, 1241, 77, 11, 35) := by decide +kernel
theorem mi_340_175 : mI 340 175 = (3, 0, 6, 1, 0) := by decide +kernel
theorem mi_340_177 : mI 340 177 = (19, 0, 2, 0, 0) := by decide +kernel
theorem mi_340_178 : mI 340 178 = (20, 0, 2, 0, 0) := by decide +kernel
theorem mi_340_179 : mI 340 179 = (9, 1, 6, 0, 0) := by decide +kernel
theorem mi_340_182 : mI 340 182 = (16, (-32), 0, 150, 0) := by decide +kernel
theorem mi_340_185 : mI 340 185 = (1, 0, 0, 0, 0) := by decide +kernel
theorem mi_340_186 : mI 340 186 = (27, 0, 0, 0, 0) := by decide +kernel
section REL
variable {l : Launch} {D : va_G} {tys : List (ClassId × FieldType)} {A : Nat → Prop} {ad : Nat → Nat} {ws : va_W} {k d : Nat} {post : Option Value → va_W → Prop} {pc : Nat} {lv : List (Nat × Value)} {st : List Value} {a : Int} {x y z : Nat}
theorem o_c {c ci nf : Nat} {segs : List SG} (hG : GOK ad tys GG ws) (hg : GG[c]? = some ((0, ci, nf), segs)) : ∃ fs : List Value, ws[c]? = some (ad c, .inr (ci, fs)) ∧ fs.length = nf := by
  obtain ⟨e, a1, a2, a3⟩ := hG c _ hg
  obtain ⟨fs, rfl, hl⟩ := a2
  exact ⟨fs, a1, hl⟩
theorem V_getO {c ci nf i : Nat} {segs : List SG} {v : Value} (hi : mI k pc = (17, a, x, ci, i)) (hG : GOK ad tys GG ws) (hg : GG[c]? = some ((0, ci, nf), segs)) (hx : rd ws c i = some v) (kk : V l D tys A k d 0 0 post 0 0 (pc + 3) lv (v :: st) ws) : V l D tys A k d 0 0 post 0 0 pc lv (.ref (ad c) :: st) ws := by
  obtain ⟨fs, a1, hl⟩ := o_c hG hg
  rw [rd_at a1] at hx
  exact V_get hi a1 hx kk
theorem rrO {c ci nf i q : Nat} {segs : List SG} (hg : GG[c]? = some ((0, ci, nf), segs)) (hs : segAt segs i = some (2, (q : Int), (q : Int))) (hi2 : i < nf) (hG : GOK ad tys GG ws) : rd ws c i = some (.ref (ad q)) := by
  obtain ⟨e, a1, a2, a3⟩ := hG c _ hg
  obtain ⟨fs, rfl, hl⟩ := a2
  have hv : fs[i]? = some fs[i] := List.getElem?_eq_getElem (by omega)
  obtain ⟨sp, q1, q2⟩ := a3 i _ hv
  rw [hs] at q1
  cases q1
  have q2 : fs[i] = .ref (ad ((q : Int).toNat)) := q2
  rw [Int.toNat_natCast] at q2
  rw [rd_at a1]
  show fs[i]? = _
  rw [hv, q2]
theorem V_callO {c ci nf d' : Nat} {segs : List SG} {As : List Value} {post' : Option Value → va_W → Prop} (hi : mI k pc = (26, a, x, y, 0)) (hy : y < 352) (hk : mKind y = 0) (hci : mCi y = ci) (hcn : ci < 99) (hg : GG[c]? = some ((0, ci, nf), segs)) (hG : GOK ad tys GG ws) (hc : CT l D tys A y d' 0 0 (.ref (ad c) :: As) ws post') (hd : d' < d) (hn : As.length = mN y) (hst : (st.map fun v => v.category).sum ≤ 8) (kk : ∀ (r : Option Value) (ws' : va_W), post' r ws' → V l D tys A k d 0 0 post 0 0 (pc + 3) lv (r.toList ++ st) ws') : V l D tys A k d 0 0 post 0 0 pc lv (As.reverse ++ .ref (ad c) :: st) ws := by
  obtain ⟨fs, a1, hl⟩ := o_c hG hg
  obtain ⟨T, N, hcl⟩ := ci_at hy hk (by omega)
  rw [hci] at hcl
  exact V_virt hi hy hc hd hn a1 hcl hst ⟨Nat.le_refl _, Nat.le_refl _⟩ kk
theorem V_lenA {c ty n : Nat} {segs : List SG} (hi : mI k pc = (21, a, x, y, z)) (hG : GOK ad tys GG ws) (hg : GG[c]? = some ((1, ty, n), segs)) (kk : V l D tys A k d 0 0 post 0 0 (pc + 1) lv (.int (Int32.ofInt (n : Int)) :: st) ws) : V l D tys A k d 0 0 post 0 0 pc lv (.ref (ad c) :: st) ws := by
  obtain ⟨cA, f, h1, h2⟩ := ar_of hG hg
  exact V_alen hi h1 h2 kk
theorem at_ct {c n j : Nat} {segs : List SG} {v : Int32} (hG : GOK ad tys GG ws) (hg : GG[c]? = some ((1, 0, n), segs)) (hj : j < n) (hn : n ≤ 100000) (hx : rd ws c j = some (.int v)) : CT l D tys A 147 0 0 0 [.ref (ad c), .int (Int32.ofInt (j : Int))] ws (fun r w => w = ws ∧ r = some (.int v)) := by
  refine CT_of_V (by omega) (show (2 : Nat) ≤ mML 147 by decide +kernel) ?_
  refine V_iload (v := Int32.ofInt (j : Int)) mi_147_0 (List.Mem.tail _ (List.Mem.head _)) ?_
  have h1 : cdP 2 (Int32.ofInt (j : Int)) 0 ↔ cdZ 2 ((j : Int) - 0) := cdP_iff (x := 2) (a := (j : Int)) (b := 0) (by omega) (by omega) (by omega) (by omega)
  refine V_if mi_147_1 (fun h => absurd (show (j : Int) - 0 < 0 from h1.mp h) (by omega)) (fun _ => ?_)
  refine V_iload (v := Int32.ofInt (j : Int)) mi_147_4 (List.Mem.tail _ (List.Mem.head _)) ?_
  refine V_aload (v := ad c) mi_147_5 (List.Mem.head _) ?_
  refine V_lenA mi_147_6 hG hg ?_
  have h2 := cdP_iff (x := 3) (a := (j : Int)) (b := (n : Int)) (by omega) (by omega) (by omega) (by omega)
  refine V_icmp mi_147_7 (fun h => absurd (show 0 ≤ (j : Int) - n from h2.mp h) (by omega)) (fun _ => ?_)
  refine V_aload (v := ad c) mi_147_10 (List.Mem.head _) ?_
  refine V_iload (v := Int32.ofInt (j : Int)) mi_147_11 (List.Mem.tail _ (List.Mem.head _)) ?_
  refine V_aldX (j := j) mi_147_12 rfl hG hg hj hn hx ?_
  refine V_goto mi_147_13 ?_
  exact V_retI mi_147_17 (fun h => absurd h (by decide +kernel)) ⟨rfl, rfl⟩
theorem put_ct {c n j : Nat} {lo hi : Int} {segs : List SG} {v : Int32} (hG : GOK ad tys GG ws) (hg : GG[c]? = some ((1, 0, n), segs)) (hj : j < n) (hn : n ≤ 100000) (hs : segAt segs j = some (0, lo, hi)) (b1 : lo ≤ v.toInt) (b2 : v.toInt ≤ hi) : CT l D tys A 148 0 0 0 [.ref (ad c), .int (Int32.ofInt (j : Int)), .int v] ws (fun r w => r = none ∧ GOK ad tys GG w ∧ Upd1 ws w c j (.int v)) := by
  refine CT_of_V (by omega) (show (3 : Nat) ≤ mML 148 by decide +kernel) ?_
  refine V_iload (v := Int32.ofInt (j : Int)) mi_148_0 (List.Mem.tail _ (List.Mem.head _)) ?_
  have h1 : cdP 2 (Int32.ofInt (j : Int)) 0 ↔ cdZ 2 ((j : Int) - 0) := cdP_iff (x := 2) (a := (j : Int)) (b := 0) (by omega) (by omega) (by omega) (by omega)
  refine V_if mi_148_1 (fun h => absurd (show (j : Int) - 0 < 0 from h1.mp h) (by omega)) (fun _ => ?_)
  refine V_iload (v := Int32.ofInt (j : Int)) mi_148_4 (List.Mem.tail _ (List.Mem.head _)) ?_
  refine V_aload (v := ad c) mi_148_5 (List.Mem.head _) ?_
  refine V_lenA mi_148_6 hG hg ?_
  have h2 := cdP_iff (x := 3) (a := (j : Int)) (b := (n : Int)) (by omega) (by omega) (by omega) (by omega)
  refine V_icmp mi_148_7 (fun h => absurd (show 0 ≤ (j : Int) - n from h2.mp h) (by omega)) (fun _ => ?_)
  refine V_aload (v := ad c) mi_148_10 (List.Mem.head _) ?_
  refine V_iload (v := Int32.ofInt (j : Int)) mi_148_11 (List.Mem.tail _ (List.Mem.head _)) ?_
  refine V_iload (v := v) mi_148_12 (List.Mem.tail _ (List.Mem.tail _ (List.Mem.head _))) ?_
  refine V_astX (j := j) mi_148_13 rfl hG hg hj hn hs b1 b2 (fun w1 G1 U1 => ?_)
  exact V_retV mi_148_14 ⟨rfl, G1, U1⟩
theorem gx0 : ∃ s, GG[0]? = some ((0, 10, 13), s) ∧ segAt s 7 = some (2, ((39 : Nat) : Int), ((39 : Nat) : Int)) ∧ segAt s 12 = some (0, 0, 7) := ⟨_, rfl, by decide +kernel, by decide +kernel⟩
theorem gx39 : ∃ s, GG[39]? = some ((0, 7, 3), s) ∧ segAt s 1 = some (2, ((41 : Nat) : Int), ((41 : Nat) : Int)) ∧ segAt s 2 = some (2, ((42 : Nat) : Int), ((42 : Nat) : Int)) := ⟨_, rfl, by decide +kernel, by decide +kernel⟩
theorem seg4 {c : Nat} {lo hi : Int} (h : ∃ s, GG[c]? = some ((1, 0, 4), s) ∧ s = [(4, 0, lo, hi)]) : ∃ s, GG[c]? = some ((1, 0, 4), s) ∧ ∀ j, j < 4 → segAt s j = some (0, lo, hi) := by
  obtain ⟨s, h1, rfl⟩ := h
  refine ⟨_, h1, fun j hj => ?_⟩
  show (bif Nat.blt j 4 then some _ else _) = _
  rw [show Nat.blt j 4 = true from Nat.blt_eq.mpr hj]
  rfl
theorem gx41 : ∃ s, GG[41]? = some ((1, 0, 4), s) ∧ ∀ j, j < 4 → segAt s j = some (0, 0, 3) := seg4 ⟨_, rfl, rfl⟩
theorem gx42 : ∃ s, GG[42]? = some ((1, 0, 4), s) ∧ ∀ j, j < 4 → segAt s j = some (0, -1, 60) := seg4 ⟨_, rfl, rfl⟩
theorem gm107 : ∃ s, GG[107]? = some ((1, 0, 4), s) ∧ ∀ j, j < 4 → segAt s j = some (0, -1, 60) := seg4 ⟨_, rfl, rfl⟩
theorem gm108 : ∃ s, GG[108]? = some ((1, 0, 4), s) ∧ ∀ j, j < 4 → segAt s j = some (0, 0, 3) := seg4 ⟨_, rfl, rfl⟩
theorem gr32 : ∃ g, GG[90]? = some ((0, 11, 36), g) ∧ segAt g 32 = some (2, ((107 : Nat) : Int), ((107 : Nat) : Int)) := ⟨_, rfl, by decide +kernel⟩
theorem gr33 : ∃ g, GG[90]? = some ((0, 11, 36), g) ∧ segAt g 33 = some (2, ((108 : Nat) : Int), ((108 : Nat) : Int)) := ⟨_, rfl, by decide +kernel⟩
/-- a slot that there is -/
noncomputable abbrev SL (v : Int32) : Prop := 0 ≤ v.toInt ∧ v.toInt ≤ 3
theorem cmp_l {u v : Int32} : cdP 2 u v ↔ u.toInt < v.toInt := by
  have h := cdP_iff (x := 2) (a := u.toInt) (b := v.toInt) (Int32.le_toInt u) (by have := Int32.toInt_lt u; omega) (Int32.le_toInt v) (by have := Int32.toInt_lt v; omega)
  rw [Int32.ofInt_toInt, Int32.ofInt_toInt] at h
  rw [h]
  show u.toInt - v.toInt < 0 ↔ _
  omega
theorem cmp_g {u v : Int32} : cdP 3 u v ↔ v.toInt ≤ u.toInt := by
  have h := cdP_iff (x := 3) (a := u.toInt) (b := v.toInt) (Int32.le_toInt u) (by have := Int32.toInt_lt u; omega) (Int32.le_toInt v) (by have := Int32.toInt_lt v; omega)
  rw [Int32.ofInt_toInt, Int32.ofInt_toInt] at h
  rw [h]
  show 0 ≤ u.toInt - v.toInt ↔ _
  omega
theorem cmp_le {u v : Int32} : cdP 5 u v ↔ u.toInt ≤ v.toInt := by
  have h := cdP_iff (x := 5) (a := u.toInt) (b := v.toInt) (Int32.le_toInt u) (by have := Int32.toInt_lt u; omega) (Int32.le_toInt v) (by have := Int32.toInt_lt v; omega)
  rw [Int32.ofInt_toInt, Int32.ofInt_toInt] at h
  rw [h]
  show u.toInt - v.toInt ≤ 0 ↔ _
  omega
theorem tIi (z : Int) (h1 : -2147483648 ≤ z) (h2 : z ≤ 2147483647) : (Int32.ofInt z).toInt = z := Int32.toInt_ofInt_of_le h1 (by omega)
theorem has_ct (v : Int32) : CT l D tys A 160 0 0 0 [.ref (ad 39), .int v] ws (fun r w => w = ws ∧ r = some (.int (bI (decide (SL v))))) := by
  refine CT_of_V (by omega) (show (2 : Nat) ≤ mML 160 by decide +kernel) ?_
  have no : ∀ lv : List (Nat × Value), ¬ SL v → V l D tys A 160 0 0 0 (fun r w => w = ws ∧ r = some (.int (bI (decide (SL v))))) 0 0 13 lv [] ws := fun lv hn => V_ipush mi_160_13 (V_retI mi_160_14 (fun _ => by decide) ⟨rfl, by rw [decide_eq_false hn]; rfl⟩)
  refine V_iload (v := v) mi_160_0 (List.Mem.tail _ (List.Mem.head _)) ?_
  refine V_if mi_160_1 (fun h => no _ (fun q => absurd (cmp_l.mp h) (by show ¬ (_ < (0 : Int)); exact Int.not_lt.mpr q.1))) (fun h1 => ?_)
  have h1 : 0 ≤ v.toInt := by
    rcases Int.lt_or_le v.toInt 0 with q | q
    · exact absurd (cmp_l.mpr (show v.toInt < (0 : Int32).toInt from q)) h1
    · exact q
  refine V_iload (v := v) mi_160_4 (List.Mem.tail _ (List.Mem.head _)) ?_
  refine V_ipush mi_160_5 ?_
  have e4 : (Int32.ofInt 4).toInt = 4 := tIi 4 (by omega) (by omega)
  refine V_icmp mi_160_6 (fun h => no _ (fun q => by have := cmp_g.mp h; have := q.2; omega)) (fun h2 => ?_)
  have h2 : v.toInt ≤ 3 := by
    rcases Int.lt_or_le v.toInt 4 with q | q
    · omega
    · exact absurd (cmp_g.mpr (by omega)) h2
  refine V_ipush mi_160_9 ?_
  refine V_goto mi_160_10 ?_
  exact V_retI mi_160_14 (fun _ => by decide) ⟨rfl, by rw [decide_eq_true (show SL v from ⟨h1, h2⟩)]; rfl⟩
theorem sl_nat {v : Int32} (h : SL v) : v = Int32.ofInt ((v.toInt.toNat : Nat) : Int) ∧ v.toInt.toNat < 4 := by
  obtain ⟨h1, h2⟩ := h
  exact ⟨by rw [Int.toNat_of_nonneg h1, Int32.ofInt_toInt], by omega⟩
theorem n8c {c j : Nat} (h : c ≠ 90) : ¬ (c = mnC ∧ spJ j = true) := fun q => h q.1
theorem slot_ct (v : Int32) : CT l D tys A 336 1 0 0 [.int v] ws (fun r w => w = ws ∧ r = some (.int (bI (decide (SL v))))) := by
  refine CT_of_V (by omega) (show (1 : Nat) ≤ mML 336 by decide +kernel) ?_
  have b1 := Int32.le_toInt v
  have b2 := Int32.toInt_lt v
  refine V_iload (v := v) mi_336_0 (List.Mem.head _) ?_
  refine V_i2l mi_336_1 ?_
  refine V_lpush mi_336_2 ?_
  refine V_lpush mi_336_3 ?_
  have el : v.toInt64 = Int64.ofInt v.toInt := by
    have q := Int32.toInt64_ofInt (n := v.toInt) (by show -2147483648 ≤ _; omega) (by show _ ≤ 2147483647; omega)
    rw [Int32.ofInt_toInt] at q
    exact q
  rw [el]
  refine V_stat (As := [.long (Int64.ofInt v.toInt), .long (Int64.ofInt 0), .long (Int64.ofInt 3)]) (st := []) mi_336_6 (by omega) (in2_ct (by omega) (by omega) (by omega) (by omega) (by omega) (by omega)) (by omega) (show 3 = mN 193 by decide +kernel) (by simp) ⟨Nat.le_refl _, Nat.le_refl _⟩ ?_
  rintro r w ⟨rfl, hr⟩
  rcases hr with ⟨rfl, q1, q2⟩ | ⟨rfl, hn⟩
  · exact V_retI mi_336_9 (fun _ => by decide) ⟨rfl, by rw [decide_eq_true (show SL v from ⟨q1, q2⟩)]; rfl⟩
  · exact V_retI mi_336_9 (fun _ => by decide) ⟨rfl, by rw [decide_eq_false (show ¬ SL v from hn)]; rfl⟩
theorem el_ (v : Int32) : v.toInt64 = Int64.ofInt v.toInt := by
  have b1 := Int32.le_toInt v
  have b2 := Int32.toInt_lt v
  have q := Int32.toInt64_ofInt (n := v.toInt) (by show -2147483648 ≤ _; omega) (by show _ ≤ 2147483647; omega)
  rw [Int32.ofInt_toInt] at q
  exact q
/-- the size of a slot that there is -/
theorem size_ct {v m : Int32} (hv : SL v) (hG : GOK ad tys GG ws) (hm : rd ws 42 v.toInt.toNat = some (.int m)) : CT l D tys A 162 1 0 0 [.ref (ad 39), .int v] ws (fun r w => w = ws ∧ r = some (.int m)) := by
  refine CT_of_V (by omega) (show (2 : Nat) ≤ mML 162 by decide +kernel) ?_
  obtain ⟨ev, sv⟩ := sl_nat hv
  obtain ⟨s39, e39, t1, t2⟩ := gx39
  obtain ⟨s42, e42, f42⟩ := gx42
  have lvs : lv_args 0 [Value.ref (ad 39), .int v] = [(0, .ref (ad 39)), (1, .int v)] := rfl
  rw [lvs]
  refine V_aload (v := ad 39) mi_162_0 (by simp) ?_
  refine V_iload (v := v) mi_162_1 (by simp) ?_
  refine V_callO (c := 39) (As := [.int v]) (st := []) mi_162_2 (by omega) (by decide +kernel) (show mCi 160 = 7 by decide +kernel) (by omega) e39 hG (has_ct v) (by omega) (show 1 = mN 160 by decide +kernel) (by simp) ?_
  rintro r w ⟨rfl, rfl⟩
  rw [decide_eq_true hv]
  refine V_if mi_162_5 (fun h => absurd (show (1 : Int32) = 0 from h) (by decide)) (fun _ => ?_)
  refine V_aload (v := ad 39) mi_162_8 (by simp) ?_
  refine V_getO mi_162_9 hG e39 (rrO e39 t2 (by omega) hG) ?_
  refine V_iload (v := v) mi_162_12 (by simp) ?_
  refine V_stat (As := [.ref (ad 42), .int v]) (st := []) mi_162_13 (by omega) (by rw [ev]; exact at_ct hG e42 sv (by omega) hm) (by omega) (show 2 = mN 147 by decide +kernel) (by simp) ⟨Nat.le_refl _, Nat.le_refl _⟩ ?_
  rintro r w ⟨rfl, rfl⟩
  refine V_goto mi_162_16 ?_
  exact V_retI mi_162_20 (fun h => absurd h (by decide +kernel)) ⟨rfl, rfl⟩
theorem bare_ct {v m : Int32} (hv : SL v) (hG : GOK ad tys GG ws) (hm : rd ws 42 v.toInt.toNat = some (.int m)) : CT l D tys A 161 2 0 0 [.ref (ad 39), .int v] ws (fun r w => w = ws ∧ r = some (.int (bI (decide (m.toInt < 0))))) := by
  refine CT_of_V (by omega) (show (2 : Nat) ≤ mML 161 by decide +kernel) ?_
  obtain ⟨s39, e39, -, -⟩ := gx39
  have lvs : lv_args 0 [Value.ref (ad 39), .int v] = [(0, .ref (ad 39)), (1, .int v)] := rfl
  rw [lvs]
  refine V_aload (v := ad 39) mi_161_0 (by simp) ?_
  refine V_iload (v := v) mi_161_1 (by simp) ?_
  refine V_callO (c := 39) (As := [.int v]) (st := []) mi_161_2 (by omega) (by decide +kernel) (show mCi 162 = 7 by decide +kernel) (by omega) e39 hG (size_ct hv hG hm) (by omega) (show 1 = mN 162 by decide +kernel) (by simp) ?_
  rintro r w ⟨rfl, rfl⟩
  have z0 : (0 : Int32).toInt = 0 := rfl
  refine V_if mi_161_5 (fun h => ?_) (fun h => ?_)
  · have := cmp_g.mp h
    refine V_ipush mi_161_12 ?_
    exact V_retI mi_161_13 (fun _ => by decide) ⟨rfl, by rw [decide_eq_false (by omega)]; rfl⟩
  · have h : m.toInt < 0 := by
      rcases Int.lt_or_le m.toInt 0 with q | q
      · exact q
      · exact absurd (cmp_g.mpr (by omega)) h
    refine V_ipush mi_161_8 ?_
    refine V_goto mi_161_9 ?_
    exact V_retI mi_161_13 (fun _ => by decide) ⟨rfl, by rw [decide_eq_true h]; rfl⟩
end REL
