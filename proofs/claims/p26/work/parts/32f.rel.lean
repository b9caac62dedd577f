section
theorem mi_67_0 : mI 67 0 = (5, 0, 0, 0, 0) := by decide +kernel
theorem mi_67_1 : mI 67 1 = (3, 0, 1, 0, 0) := by decide +kernel
theorem mi_67_2 : mI 67 2 = (26, 1155, 379, 69, 0) := by decide +kernel
theorem mi_67_5 : mI 67 5 = (8, 0, 2, 0, 0) := by decide +kernel
theorem mi_67_6 : mI 67 6 = (5, 0, 2, 0, 0) := by decide +kernel
theorem mi_67_7 : mI 67 7 = (30, 6, 1, 13, 0) := by decide +kernel
theorem mi_67_10 : mI 67 10 = (1, (-2), 1, 0, 0) := by decide +kernel
theorem mi_67_12 : mI 67 12 = (27, 0, 0, 0, 0) := by decide +kernel
theorem mi_67_13 : mI 67 13 = (5, 0, 2, 0, 0) := by decide +kernel
theorem mi_67_14 : mI 67 14 = (5, 0, 0, 0, 0) := by decide +kernel
theorem mi_67_15 : mI 67 15 = (17, 299, 24, 10, 2) := by decide +kernel
theorem mi_67_18 : mI 67 18 = (26, 521, 101, 100, 0) := by decide +kernel
theorem mi_67_21 : mI 67 21 = (5, 0, 0, 0, 0) := by decide +kernel
theorem mi_67_22 : mI 67 22 = (22, 0, 0, 0, 0) := by decide +kernel
theorem mi_67_23 : mI 67 23 = (17, 309, 383, 10, 12) := by decide +kernel
theorem mi_67_26 : mI 67 26 = (1, 1, 0, 0, 0) := by decide +kernel
theorem mi_67_27 : mI 67 27 = (3, 0, 1, 0, 0) := by decide +kernel
theorem mi_67_28 : mI 67 28 = (10, 0, 8, 0, 0) := by decide +kernel
theorem mi_67_29 : mI 67 29 = (10, 0, 6, 0, 0) := by decide +kernel
theorem mi_67_30 : mI 67 30 = (18, 309, 383, 10, 12) := by decide +kernel
theorem mi_67_33 : mI 67 33 = (1, 0, 0, 0, 0) := by decide +kernel
theorem mi_67_34 : mI 67 34 = (27, 0, 0, 0, 0) := by decide +kernel
theorem mi_68_0 : mI 68 0 = (5, 0, 0, 0, 0) := by decide +kernel
theorem mi_68_1 : mI 68 1 = (3, 0, 1, 0, 0) := by decide +kernel
theorem mi_68_2 : mI 68 2 = (26, 1155, 379, 69, 0) := by decide +kernel
theorem mi_68_5 : mI 68 5 = (8, 0, 2, 0, 0) := by decide +kernel
theorem mi_68_6 : mI 68 6 = (5, 0, 2, 0, 0) := by decide +kernel
theorem mi_68_7 : mI 68 7 = (30, 6, 1, 13, 0) := by decide +kernel
theorem mi_68_10 : mI 68 10 = (1, (-2), 1, 0, 0) := by decide +kernel
theorem mi_68_12 : mI 68 12 = (27, 0, 0, 0, 0) := by decide +kernel
theorem mi_68_13 : mI 68 13 = (5, 0, 0, 0, 0) := by decide +kernel
theorem mi_68_14 : mI 68 14 = (17, 309, 383, 10, 12) := by decide +kernel
theorem mi_68_17 : mI 68 17 = (3, 0, 1, 0, 0) := by decide +kernel
theorem mi_68_18 : mI 68 18 = (10, 0, 9, 0, 0) := by decide +kernel
theorem mi_68_19 : mI 68 19 = (1, 1, 0, 0, 0) := by decide +kernel
theorem mi_68_20 : mI 68 20 = (10, 0, 5, 0, 0) := by decide +kernel
theorem mi_68_21 : mI 68 21 = (14, 6, 1, 27, 0) := by decide +kernel
theorem mi_68_24 : mI 68 24 = (1, (-6), 1, 0, 0) := by decide +kernel
theorem mi_68_26 : mI 68 26 = (27, 0, 0, 0, 0) := by decide +kernel
theorem mi_68_27 : mI 68 27 = (5, 0, 0, 0, 0) := by decide +kernel
theorem mi_68_28 : mI 68 28 = (17, 299, 24, 10, 2) := by decide +kernel
theorem mi_68_31 : mI 68 31 = (5, 0, 2, 0, 0) := by decide +kernel
theorem mi_68_32 : mI 68 32 = (26, 521, 101, 100, 0) := by decide +kernel
theorem mi_68_35 : mI 68 35 = (5, 0, 0, 0, 0) := by decide +kernel
theorem mi_68_36 : mI 68 36 = (26, 528, 104, 73, 0) := by decide +kernel
theorem mi_68_39 : mI 68 39 = (1, 0, 0, 0, 0) := by decide +kernel
theorem mi_68_40 : mI 68 40 = (27, 0, 0, 0, 0) := by decide +kernel
theorem mi_72_0 : mI 72 0 = (5, 0, 0, 0, 0) := by decide +kernel
theorem mi_72_1 : mI 72 1 = (17, 304, 55, 10, 7) := by decide +kernel
theorem mi_72_4 : mI 72 4 = (3, 0, 1, 0, 0) := by decide +kernel
theorem mi_72_5 : mI 72 5 = (26, 914, 287, 160, 0) := by decide +kernel
theorem mi_72_8 : mI 72 8 = (14, 14, 0, 22, 0) := by decide +kernel
theorem mi_72_11 : mI 72 11 = (5, 0, 0, 0, 0) := by decide +kernel
theorem mi_72_12 : mI 72 12 = (17, 304, 55, 10, 7) := by decide +kernel
theorem mi_72_15 : mI 72 15 = (3, 0, 3, 0, 0) := by decide +kernel
theorem mi_72_16 : mI 72 16 = (26, 914, 287, 160, 0) := by decide +kernel
theorem mi_72_19 : mI 72 19 = (14, 6, 1, 25, 0) := by decide +kernel
theorem mi_72_22 : mI 72 22 = (1, (-2), 1, 0, 0) := by decide +kernel
theorem mi_72_24 : mI 72 24 = (27, 0, 0, 0, 0) := by decide +kernel
theorem mi_72_25 : mI 72 25 = (5, 0, 0, 0, 0) := by decide +kernel
theorem mi_72_26 : mI 72 26 = (17, 304, 55, 10, 7) := by decide +kernel
theorem mi_72_29 : mI 72 29 = (3, 0, 1, 0, 0) := by decide +kernel
theorem mi_72_30 : mI 72 30 = (26, 924, 293, 161, 0) := by decide +kernel
theorem mi_72_33 : mI 72 33 = (14, 14, 1, 47, 0) := by decide +kernel
theorem mi_72_36 : mI 72 36 = (5, 0, 0, 0, 0) := by decide +kernel
theorem mi_72_37 : mI 72 37 = (17, 304, 55, 10, 7) := by decide +kernel
theorem mi_72_40 : mI 72 40 = (3, 0, 3, 0, 0) := by decide +kernel
theorem mi_72_41 : mI 72 41 = (26, 924, 293, 161, 0) := by decide +kernel
theorem mi_72_44 : mI 72 44 = (14, 6, 0, 50, 0) := by decide +kernel
theorem mi_72_47 : mI 72 47 = (1, (-6), 1, 0, 0) := by decide +kernel
theorem mi_72_49 : mI 72 49 = (27, 0, 0, 0, 0) := by decide +kernel
theorem mi_72_50 : mI 72 50 = (5, 0, 0, 0, 0) := by decide +kernel
theorem mi_72_51 : mI 72 51 = (17, 304, 55, 10, 7) := by decide +kernel
theorem mi_72_54 : mI 72 54 = (3, 0, 1, 0, 0) := by decide +kernel
theorem mi_72_55 : mI 72 55 = (26, 1192, 394, 163, 0) := by decide +kernel
theorem mi_72_58 : mI 72 58 = (5, 0, 0, 0, 0) := by decide +kernel
theorem mi_72_59 : mI 72 59 = (17, 304, 55, 10, 7) := by decide +kernel
theorem mi_72_62 : mI 72 62 = (3, 0, 3, 0, 0) := by decide +kernel
theorem mi_72_63 : mI 72 63 = (26, 1192, 394, 163, 0) := by decide +kernel
theorem mi_72_66 : mI 72 66 = (15, 6, 0, 72, 0) := by decide +kernel
theorem mi_72_69 : mI 72 69 = (1, (-8), 1, 0, 0) := by decide +kernel
theorem mi_72_71 : mI 72 71 = (27, 0, 0, 0, 0) := by decide +kernel
theorem mi_72_72 : mI 72 72 = (5, 0, 0, 0, 0) := by decide +kernel
theorem mi_72_73 : mI 72 73 = (17, 304, 55, 10, 7) := by decide +kernel
theorem mi_72_76 : mI 72 76 = (3, 0, 1, 0, 0) := by decide +kernel
theorem mi_72_77 : mI 72 77 = (3, 0, 2, 0, 0) := by decide +kernel
theorem mi_72_78 : mI 72 78 = (3, 0, 5, 1, 0) := by decide +kernel
theorem mi_72_80 : mI 72 80 = (26, 1193, 397, 168, 0) := by decide +kernel
theorem mi_72_83 : mI 72 83 = (14, 18, 0, 101, 0) := by decide +kernel
theorem mi_72_86 : mI 72 86 = (5, 0, 0, 0, 0) := by decide +kernel
theorem mi_72_87 : mI 72 87 = (17, 304, 55, 10, 7) := by decide +kernel
theorem mi_72_90 : mI 72 90 = (3, 0, 3, 0, 0) := by decide +kernel
theorem mi_72_91 : mI 72 91 = (3, 0, 4, 1, 0) := by decide +kernel
theorem mi_72_93 : mI 72 93 = (3, 0, 5, 1, 0) := by decide +kernel
theorem mi_72_95 : mI 72 95 = (26, 1193, 397, 168, 0) := by decide +kernel
theorem mi_72_98 : mI 72 98 = (14, 6, 1, 104, 0) := by decide +kernel
theorem mi_72_101 : mI 72 101 = (1, (-7), 1, 0, 0) := by decide +kernel
theorem mi_72_103 : mI 72 103 = (27, 0, 0, 0, 0) := by decide +kernel
theorem mi_72_104 : mI 72 104 = (5, 0, 0, 0, 0) := by decide +kernel
theorem mi_72_105 : mI 72 105 = (17, 304, 55, 10, 7) := by decide +kernel
theorem mi_72_108 : mI 72 108 = (3, 0, 1, 0, 0) := by decide +kernel
theorem mi_72_109 : mI 72 109 = (3, 0, 2, 0, 0) := by decide +kernel
theorem mi_72_110 : mI 72 110 = (3, 0, 3, 0, 0) := by decide +kernel
theorem mi_72_111 : mI 72 111 = (3, 0, 4, 1, 0) := by decide +kernel
theorem mi_72_113 : mI 72 113 = (3, 0, 5, 1, 0) := by decide +kernel
theorem mi_72_115 : mI 72 115 = (26, 1197, 400, 169, 0) := by decide +kernel
theorem mi_72_118 : mI 72 118 = (1, 0, 0, 0, 0) := by decide +kernel
theorem mi_72_119 : mI 72 119 = (27, 0, 0, 0, 0) := by decide +kernel
theorem mi_147_0 : mI 147 0 = (3, 0, 1, 0, 0) := by decide +kernel
theorem mi_147_1 : mI 147 1 = (14, 15, 2, 16, 0) := by decide +kernel
theorem mi_147_4 : mI 147 4 = (3, 0, 1, 0, 0) := by decide +kernel
theorem mi_147_5 : mI 147 5 = (5, 0, 0, 0, 0) := by decide +kernel
theorem mi_147_6 : mI 147 6 = (21, 0, 0, 0, 0) := by decide +kernel
theorem mi_147_7 : mI 147 7 = (15, 9, 3, 16, 0) := by decide +kernel
theorem mi_147_10 : mI 147 10 = (5, 0, 0, 0, 0) := by decide +kernel
theorem mi_147_11 : mI 147 11 = (3, 0, 1, 0, 0) := by decide +kernel
theorem mi_147_12 : mI 147 12 = (19, 0, 0, 0, 0) := by decide +kernel
theorem mi_147_13 : mI 147 13 = (16, 4, 0, 17, 0) := by decide +kernel
theorem mi_147_16 : mI 147 16 = (1, 0, 0, 0, 0) := by decide +kernel
theorem mi_147_17 : mI 147 17 = (27, 0, 0, 0, 0) := by decide +kernel
theorem mi_148_0 : mI 148 0 = (3, 0, 1, 0, 0) := by decide +kernel
theorem mi_148_1 : mI 148 1 = (14, 13, 2, 14, 0) := by decide +kernel
theorem mi_148_4 : mI 148 4 = (3, 0, 1, 0, 0) := by decide +kernel
theorem mi_148_5 : mI 148 5 = (5, 0, 0, 0, 0) := by decide +kernel
theorem mi_148_6 : mI 148 6 = (21, 0, 0, 0, 0) := by decide +kernel
theorem mi_148_7 : mI 148 7 = (15, 7, 3, 14, 0) := by decide +kernel
theorem mi_148_10 : mI 148 10 = (5, 0, 0, 0, 0) := by decide +kernel
theorem mi_148_11 : mI 148 11 = (3, 0, 1, 0, 0) := by decide +kernel
theorem mi_148_12 : mI 148 12 = (3, 0, 2, 0, 0) := by decide +kernel
theorem mi_148_13 : mI 148 13 = (20, 0, 0, 0, 0) := by decide +kernel
theorem mi_148_14 : mI 148 14 = (27, 0, 2, 0, 0) := by decide +kernel
theorem mi_160_0 : mI 160 0 = (3, 0, 1, 0, 0) := by decide +kernel
theorem mi_160_1 : mI 160 1 = (14, 12, 2, 13, 0) := by decide +kernel
theorem mi_160_4 : mI 160 4 = (3, 0, 1, 0, 0) := by decide +kernel
theorem mi_160_5 : mI 160 5 = (1, 4, 0, 0, 0) := by decide +kernel
theorem mi_160_6 : mI 160 6 = (15, 7, 3, 13, 0) := by decide +kernel
theorem mi_160_9 : mI 160 9 = (1, 1, 0, 0, 0) := by decide +kernel
theorem mi_160_10 : mI 160 10 = (16, 4, 0, 14, 0) := by decide +kernel
theorem mi_160_13 : mI 160 13 = (1, 0, 0, 0, 0) := by decide +kernel
theorem mi_160_14 : mI 160 14 = (27, 0, 0, 0, 0) := by decide +kernel
theorem mi_161_0 : mI 161 0 = (5, 0, 0, 0, 0) := by decide +kernel
theorem mi_161_1 : mI 161 1 = (3, 0, 1, 0, 0) := by decide +kernel
theorem mi_161_2 : mI 161 2 = (26, 928, 22, 162, 0) := by decide +kernel
theorem mi_161_5 : mI 161 5 = (14, 7, 3, 12, 0) := by decide +kernel
theorem mi_161_8 : mI 161 8 = (1, 1, 0, 0, 0) := by decide +kernel
theorem mi_161_9 : mI 161 9 = (16, 4, 0, 13, 0) := by decide +kernel
theorem mi_161_12 : mI 161 12 = (1, 0, 0, 0, 0) := by decide +kernel
theorem mi_161_13 : mI 161 13 = (27, 0, 0, 0, 0) := by decide +kernel
theorem mi_162_0 : mI 162 0 = (5, 0, 0, 0, 0) := by decide +kernel
theorem mi_162_1 : mI 162 1 = (3, 0, 1, 0, 0) := by decide +kernel
theorem mi_162_2 : mI 162 2 = (26, 922, 26, 160, 0) := by decide +kernel
theorem mi_162_5 : mI 162 5 = (14, 14, 0, 19, 0) := by decide +kernel
theorem mi_162_8 : mI 162 8 = (5, 0, 0, 0, 0) := by decide +kernel
theorem mi_162_9 : mI 162 9 = (17, 243, 19, 7, 2) := by decide +kernel
theorem mi_162_12 : mI 162 12 = (3, 0, 1, 0, 0) := by decide +kernel
theorem mi_162_13 : mI 162 13 = (26, 923, 30, 147, 1) := by decide +kernel
theorem mi_162_16 : mI 162 16 = (16, 4, 0, 20, 0) := by decide +kernel
theorem mi_162_20 : mI 162 20 = (27, 0, 0, 0, 0) := by decide +kernel
theorem mi_163_0 : mI 163 0 = (5, 0, 0, 0, 0) := by decide +kernel
theorem mi_163_1 : mI 163 1 = (17, 242, 15, 7, 1) := by decide +kernel
theorem mi_163_4 : mI 163 4 = (3, 0, 1, 0, 0) := by decide +kernel
theorem mi_163_5 : mI 163 5 = (26, 923, 30, 147, 1) := by decide +kernel
theorem mi_163_8 : mI 163 8 = (27, 0, 0, 0, 0) := by decide +kernel
theorem mi_168_0 : mI 168 0 = (3, 0, 2, 0, 0) := by decide +kernel
theorem mi_168_1 : mI 168 1 = (14, 26, 2, 27, 0) := by decide +kernel
theorem mi_168_4 : mI 168 4 = (3, 0, 3, 0, 0) := by decide +kernel
theorem mi_168_5 : mI 168 5 = (14, 22, 2, 27, 0) := by decide +kernel
theorem mi_168_8 : mI 168 8 = (3, 0, 2, 0, 0) := by decide +kernel
theorem mi_168_9 : mI 168 9 = (12, 0, 1, 0, 0) := by decide +kernel
theorem mi_168_10 : mI 168 10 = (3, 0, 3, 0, 0) := by decide +kernel
theorem mi_168_11 : mI 168 11 = (12, 0, 1, 0, 0) := by decide +kernel
theorem mi_168_12 : mI 168 12 = (11, 0, 0, 0, 0) := by decide +kernel
theorem mi_168_13 : mI 168 13 = (5, 0, 0, 0, 0) := by decide +kernel
theorem mi_168_14 : mI 168 14 = (3, 0, 1, 0, 0) := by decide +kernel
theorem mi_168_15 : mI 168 15 = (26, 928, 22, 162, 0) := by decide +kernel
theorem mi_168_18 : mI 168 18 = (12, 0, 1, 0, 0) := by decide +kernel
theorem mi_168_19 : mI 168 19 = (13, 0, 0, 0, 0) := by decide +kernel
theorem mi_168_20 : mI 168 20 = (14, 7, 4, 27, 0) := by decide +kernel
theorem mi_168_23 : mI 168 23 = (1, 1, 0, 0, 0) := by decide +kernel
theorem mi_168_24 : mI 168 24 = (16, 4, 0, 28, 0) := by decide +kernel
theorem mi_168_27 : mI 168 27 = (1, 0, 0, 0, 0) := by decide +kernel
theorem mi_168_28 : mI 168 28 = (27, 0, 0, 0, 0) := by decide +kernel
theorem mi_196_0 : mI 196 0 = (3, 0, 1, 0, 0) := by decide +kernel
theorem mi_196_1 : mI 196 1 = (12, 0, 1, 0, 0) := by decide +kernel
theorem mi_196_2 : mI 196 2 = (2, 0, 0, 0, 0) := by decide +kernel
theorem mi_196_3 : mI 196 3 = (2, 2, 1, 83, 1320) := by decide +kernel
theorem mi_196_6 : mI 196 6 = (26, 1321, 85, 193, 1) := by decide +kernel
theorem mi_196_9 : mI 196 9 = (14, 6, 1, 15, 0) := by decide +kernel
theorem mi_196_12 : mI 196 12 = (1, (-2), 1, 0, 0) := by decide +kernel
theorem mi_196_14 : mI 196 14 = (27, 0, 0, 0, 0) := by decide +kernel
theorem mi_196_15 : mI 196 15 = (1, 0, 0, 0, 0) := by decide +kernel
theorem mi_196_16 : mI 196 16 = (6, 0, 2, 0, 0) := by decide +kernel
theorem mi_196_17 : mI 196 17 = (3, 0, 2, 0, 0) := by decide +kernel
theorem mi_196_18 : mI 196 18 = (1, 294, 2, 0, 0) := by decide +kernel
theorem mi_196_21 : mI 196 21 = (15, 27, 3, 48, 0) := by decide +kernel
theorem mi_196_24 : mI 196 24 = (5, 0, 0, 0, 0) := by decide +kernel
theorem mi_196_25 : mI 196 25 = (17, 1208, 13, 11, 2) := by decide +kernel
theorem mi_196_28 : mI 196 28 = (1, 294, 2, 0, 0) := by decide +kernel
theorem mi_196_31 : mI 196 31 = (3, 0, 1, 0, 0) := by decide +kernel
theorem mi_196_32 : mI 196 32 = (10, 0, 2, 0, 0) := by decide +kernel
theorem mi_196_33 : mI 196 33 = (3, 0, 2, 0, 0) := by decide +kernel
theorem mi_196_34 : mI 196 34 = (10, 0, 0, 0, 0) := by decide +kernel
theorem mi_196_35 : mI 196 35 = (5, 0, 0, 0, 0) := by decide +kernel
theorem mi_196_36 : mI 196 36 = (17, 1207, 9, 11, 1) := by decide +kernel
theorem mi_196_39 : mI 196 39 = (3, 0, 2, 0, 0) := by decide +kernel
theorem mi_196_40 : mI 196 40 = (19, 0, 0, 0, 0) := by decide +kernel
theorem mi_196_41 : mI 196 41 = (20, 0, 0, 0, 0) := by decide +kernel
theorem mi_196_42 : mI 196 42 = (9, 1, 2, 1, 0) := by decide +kernel
theorem mi_196_45 : mI 196 45 = (16, (-28), 0, 17, 0) := by decide +kernel
theorem mi_196_48 : mI 196 48 = (5, 0, 0, 0, 0) := by decide +kernel
theorem mi_196_49 : mI 196 49 = (17, 1209, 16, 11, 3) := by decide +kernel
theorem mi_196_52 : mI 196 52 = (3, 0, 1, 0, 0) := by decide +kernel
theorem mi_196_53 : mI 196 53 = (1, 1, 0, 0, 0) := by decide +kernel
theorem mi_196_54 : mI 196 54 = (20, 0, 1, 0, 0) := by decide +kernel
theorem mi_196_55 : mI 196 55 = (1, 0, 0, 0, 0) := by decide +kernel
theorem mi_196_56 : mI 196 56 = (27, 0, 0, 0, 0) := by decide +kernel
theorem mi_197_0 : mI 197 0 = (3, 0, 1, 0, 0) := by decide +kernel
theorem mi_197_1 : mI 197 1 = (12, 0, 1, 0, 0) := by decide +kernel
theorem mi_197_2 : mI 197 2 = (2, 0, 0, 0, 0) := by decide +kernel
theorem mi_197_3 : mI 197 3 = (2, 2, 1, 83, 1320) := by decide +kernel
theorem mi_197_6 : mI 197 6 = (26, 1321, 85, 193, 1) := by decide +kernel
theorem mi_197_9 : mI 197 9 = (14, 6, 1, 15, 0) := by decide +kernel
theorem mi_197_12 : mI 197 12 = (1, (-2), 1, 0, 0) := by decide +kernel
theorem mi_197_14 : mI 197 14 = (27, 0, 0, 0, 0) := by decide +kernel
theorem mi_197_15 : mI 197 15 = (5, 0, 0, 0, 0) := by decide +kernel
theorem mi_197_16 : mI 197 16 = (17, 1209, 16, 11, 3) := by decide +kernel
theorem mi_197_19 : mI 197 19 = (3, 0, 1, 0, 0) := by decide +kernel
theorem mi_197_20 : mI 197 20 = (19, 0, 1, 0, 0) := by decide +kernel
theorem mi_197_21 : mI 197 21 = (14, 6, 1, 27, 0) := by decide +kernel
theorem mi_197_24 : mI 197 24 = (1, (-6), 1, 0, 0) := by decide +kernel
theorem mi_197_26 : mI 197 26 = (27, 0, 0, 0, 0) := by decide +kernel
theorem mi_197_27 : mI 197 27 = (1, 0, 0, 0, 0) := by decide +kernel
theorem mi_197_28 : mI 197 28 = (6, 0, 2, 0, 0) := by decide +kernel
theorem mi_197_29 : mI 197 29 = (3, 0, 2, 0, 0) := by decide +kernel
theorem mi_197_30 : mI 197 30 = (1, 294, 2, 0, 0) := by decide +kernel
theorem mi_197_33 : mI 197 33 = (15, 27, 3, 60, 0) := by decide +kernel
theorem mi_197_36 : mI 197 36 = (5, 0, 0, 0, 0) := by decide +kernel
theorem mi_197_37 : mI 197 37 = (17, 1207, 9, 11, 1) := by decide +kernel
theorem mi_197_40 : mI 197 40 = (3, 0, 2, 0, 0) := by decide +kernel
theorem mi_197_41 : mI 197 41 = (5, 0, 0, 0, 0) := by decide +kernel
theorem mi_197_42 : mI 197 42 = (17, 1208, 13, 11, 2) := by decide +kernel
theorem mi_197_45 : mI 197 45 = (1, 294, 2, 0, 0) := by decide +kernel
theorem mi_197_48 : mI 197 48 = (3, 0, 1, 0, 0) := by decide +kernel
theorem mi_197_49 : mI 197 49 = (10, 0, 2, 0, 0) := by decide +kernel
theorem mi_197_50 : mI 197 50 = (3, 0, 2, 0, 0) := by decide +kernel
theorem mi_197_51 : mI 197 51 = (10, 0, 0, 0, 0) := by decide +kernel
theorem mi_197_52 : mI 197 52 = (19, 0, 0, 0, 0) := by decide +kernel
theorem mi_197_53 : mI 197 53 = (20, 0, 0, 0, 0) := by decide +kernel
theorem mi_197_54 : mI 197 54 = (9, 1, 2, 1, 0) := by decide +kernel
theorem mi_197_57 : mI 197 57 = (16, (-28), 0, 29, 0) := by decide +kernel
theorem mi_197_60 : mI 197 60 = (1, 0, 0, 0, 0) := by decide +kernel
theorem mi_197_61 : mI 197 61 = (27, 0, 0, 0, 0) := by decide +kernel
theorem mi_336_0 : mI 336 0 = (3, 0, 0, 0, 0) := by decide +kernel
theorem mi_336_1 : mI 336 1 = (12, 0, 1, 0, 0) := by decide +kernel
theorem mi_336_2 : mI 336 2 = (2, 0, 0, 0, 0) := by decide +kernel
theorem mi_336_3 : mI 336 3 = (2, 3, 1, 299, 1488) := by decide +kernel
theorem mi_336_6 : mI 336 6 = (26, 1321, 85, 193, 1) := by decide +kernel
theorem mi_336_9 : mI 336 9 = (27, 0, 0, 0, 0) := by decide +kernel
theorem mi_340_0 : mI 340 0 = (3, 0, 1, 0, 0) := by decide +kernel
theorem mi_340_1 : mI 340 1 = (26, 1773, 371, 336, 1) := by decide +kernel
theorem mi_340_4 : mI 340 4 = (14, 10, 0, 14, 0) := by decide +kernel
theorem mi_340_7 : mI 340 7 = (3, 0, 3, 0, 0) := by decide +kernel
theorem mi_340_8 : mI 340 8 = (26, 1773, 371, 336, 1) := by decide +kernel
theorem mi_340_11 : mI 340 11 = (14, 6, 1, 17, 0) := by decide +kernel
theorem mi_340_14 : mI 340 14 = (1, (-2), 1, 0, 0) := by decide +kernel
theorem mi_340_16 : mI 340 16 = (27, 0, 0, 0, 0) := by decide +kernel
theorem mi_340_17 : mI 340 17 = (5, 0, 0, 0, 0) := by decide +kernel
theorem mi_340_18 : mI 340 18 = (17, 1238, 67, 11, 32) := by decide +kernel
theorem mi_340_21 : mI 340 21 = (3, 0, 1, 0, 0) := by decide +kernel
theorem mi_340_22 : mI 340 22 = (19, 0, 0, 0, 0) := by decide +kernel
theorem mi_340_23 : mI 340 23 = (1, (-1), 0, 0, 0) := by decide +kernel
theorem mi_340_24 : mI 340 24 = (15, 13, 0, 37, 0) := by decide +kernel
theorem mi_340_27 : mI 340 27 = (5, 0, 0, 0, 0) := by decide +kernel
theorem mi_340_28 : mI 340 28 = (17, 1238, 67, 11, 32) := by decide +kernel
theorem mi_340_31 : mI 340 31 = (3, 0, 3, 0, 0) := by decide +kernel
theorem mi_340_32 : mI 340 32 = (19, 0, 0, 0, 0) := by decide +kernel
theorem mi_340_33 : mI 340 33 = (1, (-1), 0, 0, 0) := by decide +kernel
theorem mi_340_34 : mI 340 34 = (15, 6, 1, 40, 0) := by decide +kernel
theorem mi_340_37 : mI 340 37 = (1, (-6), 1, 0, 0) := by decide +kernel
theorem mi_340_39 : mI 340 39 = (27, 0, 0, 0, 0) := by decide +kernel
theorem mi_340_40 : mI 340 40 = (5, 0, 0, 0, 0) := by decide +kernel
theorem mi_340_41 : mI 340 41 = (17, 1239, 70, 11, 33) := by decide +kernel
theorem mi_340_44 : mI 340 44 = (3, 0, 1, 0, 0) := by decide +kernel
theorem mi_340_45 : mI 340 45 = (19, 0, 0, 0, 0) := by decide +kernel
theorem mi_340_46 : mI 340 46 = (5, 0, 0, 0, 0) := by decide +kernel
theorem mi_340_47 : mI 340 47 = (17, 1239, 70, 11, 33) := by decide +kernel
theorem mi_340_50 : mI 340 50 = (3, 0, 3, 0, 0) := by decide +kernel
theorem mi_340_51 : mI 340 51 = (19, 0, 0, 0, 0) := by decide +kernel
theorem mi_340_52 : mI 340 52 = (15, 6, 0, 58, 0) := by decide +kernel
theorem mi_340_55 : mI 340 55 = (1, (-8), 1, 0, 0) := by decide +kernel
theorem mi_340_57 : mI 340 57 = (27, 0, 0, 0, 0) := by decide +kernel
theorem mi_340_58 : mI 340 58 = (3, 0, 2, 0, 0) := by decide +kernel
theorem mi_340_59 : mI 340 59 = (14, 48, 2, 107, 0) := by decide +kernel
theorem mi_340_62 : mI 340 62 = (3, 0, 4, 1, 0) := by decide +kernel
theorem mi_340_64 : mI 340 64 = (14, 43, 2, 107, 0) := by decide +kernel
theorem mi_340_67 : mI 340 67 = (3, 0, 5, 1, 0) := by decide +kernel
theorem mi_340_69 : mI 340 69 = (14, 38, 2, 107, 0) := by decide +kernel
theorem mi_340_72 : mI 340 72 = (3, 0, 2, 0, 0) := by decide +kernel
theorem mi_340_73 : mI 340 73 = (12, 0, 1, 0, 0) := by decide +kernel
theorem mi_340_74 : mI 340 74 = (3, 0, 5, 1, 0) := by decide +kernel
theorem mi_340_76 : mI 340 76 = (12, 0, 1, 0, 0) := by decide +kernel
theorem mi_340_77 : mI 340 77 = (11, 0, 0, 0, 0) := by decide +kernel
theorem mi_340_78 : mI 340 78 = (5, 0, 0, 0, 0) := by decide +kernel
theorem mi_340_79 : mI 340 79 = (17, 1238, 67, 11, 32) := by decide +kernel
theorem mi_340_82 : mI 340 82 = (3, 0, 1, 0, 0) := by decide +kernel
theorem mi_340_83 : mI 340 83 = (19, 0, 0, 0, 0) := by decide +kernel
theorem mi_340_84 : mI 340 84 = (12, 0, 1, 0, 0) := by decide +kernel
theorem mi_340_85 : mI 340 85 = (13, 0, 0, 0, 0) := by decide +kernel
theorem mi_340_86 : mI 340 86 = (14, 21, 4, 107, 0) := by decide +kernel
theorem mi_340_89 : mI 340 89 = (3, 0, 4, 1, 0) := by decide +kernel
theorem mi_340_91 : mI 340 91 = (12, 0, 1, 0, 0) := by decide +kernel
theorem mi_340_92 : mI 340 92 = (3, 0, 5, 1, 0) := by decide +kernel
theorem mi_340_94 : mI 340 94 = (12, 0, 1, 0, 0) := by decide +kernel
theorem mi_340_95 : mI 340 95 = (11, 0, 0, 0, 0) := by decide +kernel
theorem mi_340_96 : mI 340 96 = (5, 0, 0, 0, 0) := by decide +kernel
theorem mi_340_97 : mI 340 97 = (17, 1238, 67, 11, 32) := by decide +kernel
theorem mi_340_100 : mI 340 100 = (3, 0, 3, 0, 0) := by decide +kernel
theorem mi_340_101 : mI 340 101 = (19, 0, 0, 0, 0) := by decide +kernel
theorem mi_340_102 : mI 340 102 = (12, 0, 1, 0, 0) := by decide +kernel
theorem mi_340_103 : mI 340 103 = (13, 0, 0, 0, 0) := by decide +kernel
theorem mi_340_104 : mI 340 104 = (14, 6, 5, 110, 0) := by decide +kernel
theorem mi_340_107 : mI 340 107 = (1, (-7), 1, 0, 0) := by decide +kernel
theorem mi_340_109 : mI 340 109 = (27, 0, 0, 0, 0) := by decide +kernel
theorem mi_340_110 : mI 340 110 = (1, 0, 0, 0, 0) := by decide +kernel
theorem mi_340_111 : mI 340 111 = (6, 0, 6, 1, 0) := by decide +kernel
theorem mi_340_113 : mI 340 113 = (3, 0, 6, 1, 0) := by decide +kernel
theorem mi_340_115 : mI 340 115 = (3, 0, 5, 1, 0) := by decide +kernel
theorem mi_340_117 : mI 340 117 = (15, 30, 3, 147, 0) := by decide +kernel
theorem mi_340_120 : mI 340 120 = (5, 0, 0, 0, 0) := by decide +kernel
theorem mi_340_121 : mI 340 121 = (17, 1241, 77, 11, 35) := by decide +kernel
theorem mi_340_124 : mI 340 124 = (3, 0, 6, 1, 0) := by decide +kernel
theorem mi_340_126 : mI 340 126 = (5, 0, 0, 0, 0) := by decide +kernel
theorem mi_340_127 : mI 340 127 = (17, 1240, 73, 11, 34) := by decide +kernel
theorem mi_340_130 : mI 340 130 = (1, 60, 1, 0, 0) := by decide +kernel
theorem mi_340_132 : mI 340 132 = (3, 0, 1, 0, 0) := by decide +kernel
theorem mi_340_133 : mI 340 133 = (10, 0, 2, 0, 0) := by decide +kernel
theorem mi_340_134 : mI 340 134 = (3, 0, 2, 0, 0) := by decide +kernel
theorem mi_340_135 : mI 340 135 = (10, 0, 0, 0, 0) := by decide +kernel
theorem mi_340_136 : mI 340 136 = (3, 0, 6, 1, 0) := by decide +kernel
theorem mi_340_138 : mI 340 138 = (10, 0, 0, 0, 0) := by decide +kernel
theorem mi_340_139 : mI 340 139 = (19, 0, 2, 0, 0) := by decide +kernel
theorem mi_340_140 : mI 340 140 = (20, 0, 2, 0, 0) := by decide +kernel
theorem mi_340_141 : mI 340 141 = (9, 1, 6, 0, 0) := by decide +kernel
theorem mi_340_144 : mI 340 144 = (16, (-31), 0, 113, 0) := by decide +kernel
theorem mi_340_147 : mI 340 147 = (1, 0, 0, 0, 0) := by decide +kernel
theorem mi_340_148 : mI 340 148 = (6, 0, 6, 1, 0) := by decide +kernel
theorem mi_340_150 : mI 340 150 = (3, 0, 6, 1, 0) := by decide +kernel
theorem mi_340_152 : mI 340 152 = (3, 0, 5, 1, 0) := by decide +kernel
theorem mi_340_154 : mI 340 154 = (15, 31, 3, 185, 0) := by decide +kernel
theorem mi_340_157 : mI 340 157 = (5, 0, 0, 0, 0) := by decide +kernel
theorem mi_340_158 : mI 340 158 = (17, 1240, 73, 11, 34) := by decide +kernel
theorem mi_340_161 : mI 340 161 = (1, 60, 1, 0, 0) := by decide +kernel
theorem mi_340_163 : mI 340 163 = (3, 0, 3, 0, 0) := by decide +kernel
theorem mi_340_164 : mI 340 164 = (10, 0, 2, 0, 0) := by decide +kernel
theorem mi_340_165 : mI 340 165 = (3, 0, 4, 1, 0) := by decide +kernel
theorem mi_340_167 : mI 340 167 = (10, 0, 0, 0, 0) := by decide +kernel
theorem mi_340_168 : mI 340 168 = (3, 0, 6, 1, 0) := by decide +kernel
theorem mi_340_170 : mI 340 170 = (10, 0, 0, 0, 0) := by decide +kernel
theorem mi_340_171 : mI 340 171 = (5, 0, 0, 0, 0) := by decide +kernel
theorem mi_340_172 : mI 340 172 = (17, 1241, 77, 11, 35) := by decide +kernel
theorem mi_340_175 : mI 340 175 = (3, 0, 6, 1, 0) := by decide +kernel
theorem mi_340_177 : mI 340 177 = (19, 0, 2, 0, 0) := by decide +kernel
theorem mi_340_178 : mI 340 178 = (20, 0, 2, 0, 0) := by decide +kernel
theorem mi_340_179 : mI 340 179 = (9, 1, 6, 0, 0) := by decide +kernel
theorem mi_340_182 : mI 340 182 = (16, (-32), 0, 150, 0) := by decide +kernel
theorem mi_340_185 : mI 340 185 = (1, 0, 0, 0, 0) := by decide +kernel
theorem mi_340_186 : mI 340 186 = (27, 0, 0, 0, 0) := by decide +kernel
section REL
variable {l : Launch} {D : va_G} {tys : List (ClassId × FieldType)} {A : Nat → Prop} {ad : Nat → Nat} {ws : va_W} {k d : Nat} {post : Option Value → va_W → Prop} {pc : Nat} {lv : List (Nat × Value)} {st : List Value} {a : Int} {x y z : Nat}
theorem o_c {c ci nf : Nat} {segs : List SG} (hG : GOK ad tys GG ws) (hg : GG[c]? = some ((0, ci, nf), segs)) : ∃ fs : List Value, ws[c]? = some (ad c, .inr (ci, fs)) ∧ fs.length = nf := by
  obtain ⟨e, a1, a2, a3⟩ := hG c _ hg
  obtain ⟨fs, rfl, hl⟩ := a2
  exact ⟨fs, a1, hl⟩
theorem V_getO {c ci nf i : Nat} {segs : List SG} {v : Value} (hi : mI k pc = (17, a, x, ci, i)) (hG : GOK ad tys GG ws) (hg : GG[c]? = some ((0, ci, nf), segs)) (hx : rd ws c i = some v) (kk : V l D tys A k d 0 0 post 0 0 (pc + 3) lv (v :: st) ws) : V l D tys A k d 0 0 post 0 0 pc lv (.ref (ad c) :: st) ws := by
  obtain ⟨fs, a1, hl⟩ := o_c hG hg
  rw [rd_at a1] at hx
  exact V_get hi a1 hx kk
theorem rrO {c ci nf i q : Nat} {segs : List SG} (hg : GG[c]? = some ((0, ci, nf), segs)) (hs : segAt segs i = some (2, (q : Int), (q : Int))) (hi2 : i < nf) (hG : GOK ad tys GG ws) : rd ws c i = some (.ref (ad q)) := by
  obtain ⟨e, a1, a2, a3⟩ := hG c _ hg
  obtain ⟨fs, rfl, hl⟩ := a2
  have hv : fs[i]? = some fs[i] := List.getElem?_eq_getElem (by omega)
  obtain ⟨sp, q1, q2⟩ := a3 i _ hv
  rw [hs] at q1
  cases q1
  have q2 : fs[i] = .ref (ad ((q : Int).toNat)) := q2
  rw [Int.toNat_natCast] at q2
  rw [rd_at a1]
  show fs[i]? = _
  rw [hv, q2]
theorem V_callO {c ci nf d' : Nat} {segs : List SG} {As : List Value} {post' : Option Value → va_W → Prop} (hi : mI k pc = (26, a, x, y, 0)) (hy : y < 352) (hk : mKind y = 0) (hci : mCi y = ci) (hcn : ci < 99) (hg : GG[c]? = some ((0, ci, nf), segs)) (hG : GOK ad tys GG ws) (hc : CT l D tys A y d' 0 0 (.ref (ad c) :: As) ws post') (hd : d' < d) (hn : As.length = mN y) (hst : (st.map fun v => v.category).sum ≤ 8) (kk : ∀ (r : Option Value) (ws' : va_W), post' r ws' → V l D tys A k d 0 0 post 0 0 (pc + 3) lv (r.toList ++ st) ws') : V l D tys A k d 0 0 post 0 0 pc lv (As.reverse ++ .ref (ad c) :: st) ws := by
  obtain ⟨fs, a1, hl⟩ := o_c hG hg
  obtain ⟨T, N, hcl⟩ := ci_at hy hk (by omega)
  rw [hci] at hcl
  exact V_virt hi hy hc hd hn a1 hcl hst ⟨Nat.le_refl _, Nat.le_refl _⟩ kk
theorem V_lenA {c ty n : Nat} {segs : List SG} (hi : mI k pc = (21, a, x, y, z)) (hG : GOK ad tys GG ws) (hg : GG[c]? = some ((1, ty, n), segs)) (kk : V l D tys A k d 0 0 post 0 0 (pc + 1) lv (.int (Int32.ofInt (n : Int)) :: st) ws) : V l D tys A k d 0 0 post 0 0 pc lv (.ref (ad c) :: st) ws := by
  obtain ⟨cA, f, h1, h2⟩ := ar_of hG hg
  exact V_alen hi h1 h2 kk
theorem at_ct {c n j : Nat} {segs : List SG} {v : Int32} (hG : GOK ad tys GG ws) (hg : GG[c]? = some ((1, 0, n), segs)) (hj : j < n) (hn : n ≤ 100000) (hx : rd ws c j = some (.int v)) : CT l D tys A 147 0 0 0 [.ref (ad c), .int (Int32.ofInt (j : Int))] ws (fun r w => w = ws ∧ r = some (.int v)) := by
  refine CT_of_V (by omega) (show (2 : Nat) ≤ mML 147 by decide +kernel) ?_
  refine V_iload (v := Int32.ofInt (j : Int)) mi_147_0 (List.Mem.tail _ (List.Mem.head _)) ?_
  have h1 : cdP 2 (Int32.ofInt (j : Int)) 0 ↔ cdZ 2 ((j : Int) - 0) := cdP_iff (x := 2) (a := (j : Int)) (b := 0) (by omega) (by omega) (by omega) (by omega)
  refine V_if mi_147_1 (fun h => absurd (show (j : Int) - 0 < 0 from h1.mp h) (by omega)) (fun _ => ?_)
  refine V_iload (v := Int32.ofInt (j : Int)) mi_147_4 (List.Mem.tail _ (List.Mem.head _)) ?_
  refine V_aload (v := ad c) mi_147_5 (List.Mem.head _) ?_
  refine V_lenA mi_147_6 hG hg ?_
  have h2 := cdP_iff (x := 3) (a := (j : Int)) (b := (n : Int)) (by omega) (by omega) (by omega) (by omega)
  refine V_icmp mi_147_7 (fun h => absurd (show 0 ≤ (j : Int) - n from h2.mp h) (by omega)) (fun _ => ?_)
  refine V_aload (v := ad c) mi_147_10 (List.Mem.head _) ?_
  refine V_iload (v := Int32.ofInt (j : Int)) mi_147_11 (List.Mem.tail _ (List.Mem.head _)) ?_
  refine V_aldX (j := j) mi_147_12 rfl hG hg hj hn hx ?_
  refine V_goto mi_147_13 ?_
  exact V_retI mi_147_17 (fun h => absurd h (by decide +kernel)) ⟨rfl, rfl⟩
theorem put_ct {c n j : Nat} {lo hi : Int} {segs : List SG} {v : Int32} (hG : GOK ad tys GG ws) (hg : GG[c]? = some ((1, 0, n), segs)) (hj : j < n) (hn : n ≤ 100000) (hs : segAt segs j = some (0, lo, hi)) (b1 : lo ≤ v.toInt) (b2 : v.toInt ≤ hi) : CT l D tys A 148 0 0 0 [.ref (ad c), .int (Int32.ofInt (j : Int)), .int v] ws (fun r w => r = none ∧ GOK ad tys GG w ∧ Upd1 ws w c j (.int v)) := by
  refine CT_of_V (by omega) (show (3 : Nat) ≤ mML 148 by decide +kernel) ?_
  refine V_iload (v := Int32.ofInt (j : Int)) mi_148_0 (List.Mem.tail _ (List.Mem.head _)) ?_
  have h1 : cdP 2 (Int32.ofInt (j : Int)) 0 ↔ cdZ 2 ((j : Int) - 0) := cdP_iff (x := 2) (a := (j : Int)) (b := 0) (by omega) (by omega) (by omega) (by omega)
  refine V_if mi_148_1 (fun h => absurd (show (j : Int) - 0 < 0 from h1.mp h) (by omega)) (fun _ => ?_)
  refine V_iload (v := Int32.ofInt (j : Int)) mi_148_4 (List.Mem.tail _ (List.Mem.head _)) ?_
  refine V_aload (v := ad c) mi_148_5 (List.Mem.head _) ?_
  refine V_lenA mi_148_6 hG hg ?_
  have h2 := cdP_iff (x := 3) (a := (j : Int)) (b := (n : Int)) (by omega) (by omega) (by omega) (by omega)
  refine V_icmp mi_148_7 (fun h => absurd (show 0 ≤ (j : Int) - n from h2.mp h) (by omega)) (fun _ => ?_)
  refine V_aload (v := ad c) mi_148_10 (List.Mem.head _) ?_
  refine V_iload (v := Int32.ofInt (j : Int)) mi_148_11 (List.Mem.tail _ (List.Mem.head _)) ?_
  refine V_iload (v := v) mi_148_12 (List.Mem.tail _ (List.Mem.tail _ (List.Mem.head _))) ?_
  refine V_astX (j := j) mi_148_13 rfl hG hg hj hn hs b1 b2 (fun w1 G1 U1 => ?_)
  exact V_retV mi_148_14 ⟨rfl, G1, U1⟩
theorem gx0 : ∃ s, GG[0]? = some ((0, 10, 13), s) ∧ segAt s 7 = some (2, ((39 : Nat) : Int), ((39 : Nat) : Int)) ∧ segAt s 12 = some (0, 0, 7) := ⟨_, rfl, by decide +kernel, by decide +kernel⟩
theorem gx39 : ∃ s, GG[39]? = some ((0, 7, 3), s) ∧ segAt s 1 = some (2, ((41 : Nat) : Int), ((41 : Nat) : Int)) ∧ segAt s 2 = some (2, ((42 : Nat) : Int), ((42 : Nat) : Int)) := ⟨_, rfl, by decide +kernel, by decide +kernel⟩
theorem seg4 {c : Nat} {lo hi : Int} (h : ∃ s, GG[c]? = some ((1, 0, 4), s) ∧ s = [(4, 0, lo, hi)]) : ∃ s, GG[c]? = some ((1, 0, 4), s) ∧ ∀ j, j < 4 → segAt s j = some (0, lo, hi) := by
  obtain ⟨s, h1, rfl⟩ := h
  refine ⟨_, h1, fun j hj => ?_⟩
  show (bif Nat.blt j 4 then some _ else _) = _
  rw [show Nat.blt j 4 = true from Nat.blt_eq.mpr hj]
  rfl
theorem gx41 : ∃ s, GG[41]? = some ((1, 0, 4), s) ∧ ∀ j, j < 4 → segAt s j = some (0, 0, 3) := seg4 ⟨_, rfl, rfl⟩
theorem gx42 : ∃ s, GG[42]? = some ((1, 0, 4), s) ∧ ∀ j, j < 4 → segAt s j = some (0, -1, 60) := seg4 ⟨_, rfl, rfl⟩
theorem gm107 : ∃ s, GG[107]? = some ((1, 0, 4), s) ∧ ∀ j, j < 4 → segAt s j = some (0, -1, 60) := seg4 ⟨_, rfl, rfl⟩
theorem gm108 : ∃ s, GG[108]? = some ((1, 0, 4), s) ∧ ∀ j, j < 4 → segAt s j = some (0, 0, 3) := seg4 ⟨_, rfl, rfl⟩
theorem gr32 : ∃ g, GG[90]? = some ((0, 11, 36), g) ∧ segAt g 32 = some (2, ((107 : Nat) : Int), ((107 : Nat) : Int)) := ⟨_, rfl, by decide +kernel⟩
theorem gr33 : ∃ g, GG[90]? = some ((0, 11, 36), g) ∧ segAt g 33 = some (2, ((108 : Nat) : Int), ((108 : Nat) : Int)) := ⟨_, rfl, by decide +kernel⟩
/-- a slot that there is -/
noncomputable abbrev SL (v : Int32) : Prop := 0 ≤ v.toInt ∧ v.toInt ≤ 3
theorem cmp_l {u v : Int32} : cdP 2 u v ↔ u.toInt < v.toInt := by
  have h := cdP_iff (x := 2) (a := u.toInt) (b := v.toInt) (Int32.le_toInt u) (by have := Int32.toInt_lt u; omega) (Int32.le_toInt v) (by have := Int32.toInt_lt v; omega)
  rw [Int32.ofInt_toInt, Int32.ofInt_toInt] at h
  rw [h]
  show u.toInt - v.toInt < 0 ↔ _
  omega
theorem cmp_g {u v : Int32} : cdP 3 u v ↔ v.toInt ≤ u.toInt := by
  have h := cdP_iff (x := 3) (a := u.toInt) (b := v.toInt) (Int32.le_toInt u) (by have := Int32.toInt_lt u; omega) (Int32.le_toInt v) (by have := Int32.toInt_lt v; omega)
  rw [Int32.ofInt_toInt, Int32.ofInt_toInt] at h
  rw [h]
  show 0 ≤ u.toInt - v.toInt ↔ _
  omega
theorem cmp_le {u v : Int32} : cdP 5 u v ↔ u.toInt ≤ v.toInt := by
  have h := cdP_iff (x := 5) (a := u.toInt) (b := v.toInt) (Int32.le_toInt u) (by have := Int32.toInt_lt u; omega) (Int32.le_toInt v) (by have := Int32.toInt_lt v; omega)
  rw [Int32.ofInt_toInt, Int32.ofInt_toInt] at h
  rw [h]
  show u.toInt - v.toInt ≤ 0 ↔ _
  omega
theorem tIi (z : Int) (h1 : -2147483648 ≤ z) (h2 : z ≤ 2147483647) : (Int32.ofInt z).toInt = z := Int32.toInt_ofInt_of_le h1 (by omega)
theorem has_ct (v : Int32) : CT l D tys A 160 0 0 0 [.ref (ad 39), .int v] ws (fun r w => w = ws ∧ r = some (.int (bI (decide (SL v))))) := by
  refine CT_of_V (by omega) (show (2 : Nat) ≤ mML 160 by decide +kernel) ?_
  have no : ∀ lv : List (Nat × Value), ¬ SL v → V l D tys A 160 0 0 0 (fun r w => w = ws ∧ r = some (.int (bI (decide (SL v))))) 0 0 13 lv [] ws := fun lv hn => V_ipush mi_160_13 (V_retI mi_160_14 (fun _ => by decide) ⟨rfl, by rw [decide_eq_false hn]; rfl⟩)
  refine V_iload (v := v) mi_160_0 (List.Mem.tail _ (List.Mem.head _)) ?_
  refine V_if mi_160_1 (fun h => no _ (fun q => absurd (cmp_l.mp h) (by show ¬ (_ < (0 : Int)); exact Int.not_lt.mpr q.1))) (fun h1 => ?_)
  have h1 : 0 ≤ v.toInt := by
    rcases Int.lt_or_le v.toInt 0 with q | q
    · exact absurd (cmp_l.mpr (show v.toInt < (0 : Int32).toInt from q)) h1
    · exact q
  refine V_iload (v := v) mi_160_4 (List.Mem.tail _ (List.Mem.head _)) ?_
  refine V_ipush mi_160_5 ?_
  have e4 : (Int32.ofInt 4).toInt = 4 := tIi 4 (by omega) (by omega)
  refine V_icmp mi_160_6 (fun h => no _ (fun q => by have := cmp_g.mp h; have := q.2; omega)) (fun h2 => ?_)
  have h2 : v.toInt ≤ 3 := by
    rcases Int.lt_or_le v.toInt 4 with q | q
    · omega
    · exact absurd (cmp_g.mpr (by omega)) h2
  refine V_ipush mi_160_9 ?_
  refine V_goto mi_160_10 ?_
  exact V_retI mi_160_14 (fun _ => by decide) ⟨rfl, by rw [decide_eq_true (show SL v from ⟨h1, h2⟩)]; rfl⟩
theorem sl_nat {v : Int32} (h : SL v) : v = Int32.ofInt ((v.toInt.toNat : Nat) : Int) ∧ v.toInt.toNat < 4 := by
  obtain ⟨h1, h2⟩ := h
  exact ⟨by rw [Int.toNat_of_nonneg h1, Int32.ofInt_toInt], by omega⟩
theorem n8c {mods : List Nat} {c j : Nat} (h : c ≠ 90) : ¬ (c = mnC ∧ spX mods j = true) := fun q => h q.1
theorem slot_ct (v : Int32) : CT l D tys A 336 1 0 0 [.int v] ws (fun r w => w = ws ∧ r = some (.int (bI (decide (SL v))))) := by
  refine CT_of_V (by omega) (show (1 : Nat) ≤ mML 336 by decide +kernel) ?_
  have b1 := Int32.le_toInt v
  have b2 := Int32.toInt_lt v
  refine V_iload (v := v) mi_336_0 (List.Mem.head _) ?_
  refine V_i2l mi_336_1 ?_
  refine V_lpush mi_336_2 ?_
  refine V_lpush mi_336_3 ?_
  have el : v.toInt64 = Int64.ofInt v.toInt := by
    have q := Int32.toInt64_ofInt (n := v.toInt) (by show -2147483648 ≤ _; omega) (by show _ ≤ 2147483647; omega)
    rw [Int32.ofInt_toInt] at q
    exact q
  rw [el]
  refine V_stat (As := [.long (Int64.ofInt v.toInt), .long (Int64.ofInt 0), .long (Int64.ofInt 3)]) (st := []) mi_336_6 (by omega) (in2_ct (by omega) (by omega) (by omega) (by omega) (by omega) (by omega)) (by omega) (show 3 = mN 193 by decide +kernel) (by simp) ⟨Nat.le_refl _, Nat.le_refl _⟩ ?_
  rintro r w ⟨rfl, hr⟩
  rcases hr with ⟨rfl, q1, q2⟩ | ⟨rfl, hn⟩
  · exact V_retI mi_336_9 (fun _ => by decide) ⟨rfl, by rw [decide_eq_true (show SL v from ⟨q1, q2⟩)]; rfl⟩
  · exact V_retI mi_336_9 (fun _ => by decide) ⟨rfl, by rw [decide_eq_false (show ¬ SL v from hn)]; rfl⟩
theorem el_ (v : Int32) : v.toInt64 = Int64.ofInt v.toInt := by
  have b1 := Int32.le_toInt v
  have b2 := Int32.toInt_lt v
  have q := Int32.toInt64_ofInt (n := v.toInt) (by show -2147483648 ≤ _; omega) (by show _ ≤ 2147483647; omega)
  rw [Int32.ofInt_toInt] at q
  exact q
/-- the size of a slot that there is -/
theorem size_ct {v m : Int32} (hv : SL v) (hG : GOK ad tys GG ws) (hm : rd ws 42 v.toInt.toNat = some (.int m)) : CT l D tys A 162 1 0 0 [.ref (ad 39), .int v] ws (fun r w => w = ws ∧ r = some (.int m)) := by
  refine CT_of_V (by omega) (show (2 : Nat) ≤ mML 162 by decide +kernel) ?_
  obtain ⟨ev, sv⟩ := sl_nat hv
  obtain ⟨s39, e39, t1, t2⟩ := gx39
  obtain ⟨s42, e42, f42⟩ := gx42
  have lvs : lv_args 0 [Value.ref (ad 39), .int v] = [(0, .ref (ad 39)), (1, .int v)] := rfl
  rw [lvs]
  refine V_aload (v := ad 39) mi_162_0 (by simp) ?_
  refine V_iload (v := v) mi_162_1 (by simp) ?_
  refine V_callO (c := 39) (As := [.int v]) (st := []) mi_162_2 (by omega) (by decide +kernel) (show mCi 160 = 7 by decide +kernel) (by omega) e39 hG (has_ct v) (by omega) (show 1 = mN 160 by decide +kernel) (by simp) ?_
  rintro r w ⟨rfl, rfl⟩
  rw [decide_eq_true hv]
  refine V_if mi_162_5 (fun h => absurd (show (1 : Int32) = 0 from h) (by decide)) (fun _ => ?_)
  refine V_aload (v := ad 39) mi_162_8 (by simp) ?_
  refine V_getO mi_162_9 hG e39 (rrO e39 t2 (by omega) hG) ?_
  refine V_iload (v := v) mi_162_12 (by simp) ?_
  refine V_stat (As := [.ref (ad 42), .int v]) (st := []) mi_162_13 (by omega) (by rw [ev]; exact at_ct hG e42 sv (by omega) hm) (by omega) (show 2 = mN 147 by decide +kernel) (by simp) ⟨Nat.le_refl _, Nat.le_refl _⟩ ?_
  rintro r w ⟨rfl, rfl⟩
  refine V_goto mi_162_16 ?_
  exact V_retI mi_162_20 (fun h => absurd h (by decide +kernel)) ⟨rfl, rfl⟩
theorem bare_ct {v m : Int32} (hv : SL v) (hG : GOK ad tys GG ws) (hm : rd ws 42 v.toInt.toNat = some (.int m)) : CT l D tys A 161 2 0 0 [.ref (ad 39), .int v] ws (fun r w => w = ws ∧ r = some (.int (bI (decide (m.toInt < 0))))) := by
  refine CT_of_V (by omega) (show (2 : Nat) ≤ mML 161 by decide +kernel) ?_
  obtain ⟨s39, e39, -, -⟩ := gx39
  have lvs : lv_args 0 [Value.ref (ad 39), .int v] = [(0, .ref (ad 39)), (1, .int v)] := rfl
  rw [lvs]
  refine V_aload (v := ad 39) mi_161_0 (by simp) ?_
  refine V_iload (v := v) mi_161_1 (by simp) ?_
  refine V_callO (c := 39) (As := [.int v]) (st := []) mi_161_2 (by omega) (by decide +kernel) (show mCi 162 = 7 by decide +kernel) (by omega) e39 hG (size_ct hv hG hm) (by omega) (show 1 = mN 162 by decide +kernel) (by simp) ?_
  rintro r w ⟨rfl, rfl⟩
  have z0 : (0 : Int32).toInt = 0 := rfl
  refine V_if mi_161_5 (fun h => ?_) (fun h => ?_)
  · have := cmp_g.mp h
    refine V_ipush mi_161_12 ?_
    exact V_retI mi_161_13 (fun _ => by decide) ⟨rfl, by rw [decide_eq_false (by omega)]; rfl⟩
  · have h : m.toInt < 0 := by
      rcases Int.lt_or_le m.toInt 0 with q | q
      · exact q
      · exact absurd (cmp_g.mpr (by omega)) h
    refine V_ipush mi_161_8 ?_
    refine V_goto mi_161_9 ?_
    exact V_retI mi_161_13 (fun _ => by decide) ⟨rfl, by rw [decide_eq_true h]; rfl⟩
end REL
end
section
section PAS
variable {l : Launch} {D : va_G} {tys : List (ClassId × FieldType)} {A : Nat → Prop} {ad : Nat → Nat} {ws : va_W} {k d : Nat} {post : Option Value → va_W → Prop} {pc : Nat} {lv : List (Nat × Value)} {st : List Value} {a : Int} {x y z : Nat}
theorem V_laldI {c n j : Nat} {segs : List SG} {ix : Int32} (hi : mI k pc = (19, a, 2, y, z)) (hix : ix = Int32.ofInt (j : Int)) (hG : GOK ad tys GG ws) (hg : GG[c]? = some ((2, 3, n), segs)) (hj : j < n) (hn : n ≤ 100000) (kk : ∀ q : Int64, V l D tys A k d 0 0 post 0 0 (pc + 1) lv (.long q :: st) ws) : V l D tys A k d 0 0 post 0 0 pc lv (.int ix :: .ref (ad c) :: st) ws := by
  subst hix
  obtain ⟨e, b1, b2, b3⟩ := hG c _ hg
  obtain ⟨cA, f, rfl, c1⟩ := b2
  exact V_lald hi b1 c1 (ix_in hj hn).1 (kk _)
theorem V_lastI {c n j : Nat} {segs : List SG} {ix : Int32} {q : Int64} (hi : mI k pc = (20, a, 2, y, z)) (hix : ix = Int32.ofInt (j : Int)) (hG : GOK ad tys GG ws) (hg : GG[c]? = some ((2, 3, n), segs)) (hj : j < n) (hn : n ≤ 100000) (hs : segAt segs j = some (1, -9223372036854775808, 9223372036854775807)) (kk : ∀ w : va_W, GOK ad tys GG w → Upd1 ws w c j (.long q) → V l D tys A k d 0 0 post 0 0 (pc + 1) lv st w) : V l D tys A k d 0 0 post 0 0 pc lv (.long q :: .int ix :: .ref (ad c) :: st) ws := by
  subst hix
  obtain ⟨e, b1, b2, b3⟩ := hG c _ hg
  obtain ⟨cA, f, rfl, c1⟩ := b2
  refine V_last hi b1 c1 (ix_in hj hn).1 ?_
  rw [(ix_in hj hn).2]
  have q1 := Int64.le_toInt q
  have q2 := Int64.toInt_lt q
  have hu := GOK_upd (j := j) (v := .long q) (e' := .inl (cA, n, .inr (.inl (vp_updL f j q)))) hG hg b1 ⟨cA, _, rfl, c1⟩ (fun j' => by
    show (if j' < n then some (Value.long (vp_updL f j q j')) else none) = if j' = j then some (Value.long q) else if j' < n then some (Value.long (f j')) else none
    unfold vp_updL
    by_cases h : j' = j
    · subst h; simp [hj]
    · simp [h]) hs ⟨q.toInt, by rw [Int64.ofInt_toInt], by show (-9223372036854775808 : Int) ≤ q.toInt; omega, by show q.toInt ≤ (9223372036854775807 : Int); omega⟩
  exact kk _ hu.1 hu.2
theorem gl109 : ∃ s, GG[109]? = some ((2, 3, 240), s) ∧ ∀ j, j < 240 → segAt s j = some (1, -9223372036854775808, 9223372036854775807) := by
  refine ⟨_, rfl, fun j hj => ?_⟩
  show (bif Nat.blt j 240 then some _ else _) = _
  rw [show Nat.blt j 240 = true from Nat.blt_eq.mpr hj]
  rfl
theorem gl110 : ∃ s, GG[110]? = some ((2, 3, 60), s) ∧ ∀ j, j < 60 → segAt s j = some (1, -9223372036854775808, 9223372036854775807) := by
  refine ⟨_, rfl, fun j hj => ?_⟩
  show (bif Nat.blt j 60 then some _ else _) = _
  rw [show Nat.blt j 60 = true from Nat.blt_eq.mpr hj]
  rfl
theorem gr34 : ∃ g, GG[90]? = some ((0, 11, 36), g) ∧ segAt g 34 = some (2, ((109 : Nat) : Int), ((109 : Nat) : Int)) := ⟨_, rfl, by decide +kernel⟩
theorem gr35 : ∃ g, GG[90]? = some ((0, 11, 36), g) ∧ segAt g 35 = some (2, ((110 : Nat) : Int), ((110 : Nat) : Int)) := ⟨_, rfl, by decide +kernel⟩
theorem wid_ct {v m : Int32} (hv : SL v) (hG : GOK ad tys GG ws) (hm : rd ws 41 v.toInt.toNat = some (.int m)) : CT l D tys A 163 1 0 0 [.ref (ad 39), .int v] ws (fun r w => w = ws ∧ r = some (.int m)) := by
  refine CT_of_V (by omega) (show (2 : Nat) ≤ mML 163 by decide +kernel) ?_
  obtain ⟨ev, sv⟩ := sl_nat hv
  obtain ⟨s39, e39, t1, t2⟩ := gx39
  obtain ⟨s41, e41, f41⟩ := gx41
  have lvs : lv_args 0 [Value.ref (ad 39), .int v] = [(0, .ref (ad 39)), (1, .int v)] := rfl
  rw [lvs]
  refine V_aload (v := ad 39) mi_163_0 (by simp) ?_
  refine V_getO mi_163_1 hG e39 (rrO e39 t1 (by omega) hG) ?_
  refine V_iload (v := v) mi_163_4 (by simp) ?_
  refine V_stat (As := [.ref (ad 41), .int v]) (st := []) mi_163_5 (by omega) (by rw [ev]; exact at_ct hG e41 sv (by omega) hm) (by omega) (show 2 = mN 147 by decide +kernel) (by simp) ⟨Nat.le_refl _, Nat.le_refl _⟩ ?_
  rintro r w ⟨rfl, rfl⟩
  exact V_retI mi_163_8 (fun h => absurd h (by decide +kernel)) ⟨rfl, rfl⟩
theorem ladd_ {u v : Int} : lbF 0 (Int64.ofInt u) (Int64.ofInt v) = Int64.ofInt (u + v) := by
  show Int64.ofInt u + Int64.ofInt v = _
  rw [← Int64.ofInt_add]
noncomputable abbrev RG (i n m : Int32) : Prop := 0 ≤ i.toInt ∧ 0 ≤ n.toInt ∧ i.toInt + n.toInt ≤ m.toInt
theorem nl0 {v : Int32} (h : ¬ cdP 2 v 0) : 0 ≤ v.toInt := by
  rcases Int.lt_or_le v.toInt 0 with q | q
  · exact absurd (cmp_l.mpr (show v.toInt < (0 : Int32).toInt from q)) h
  · exact q
theorem l0 {v : Int32} (h : cdP 2 v 0) : v.toInt < 0 := cmp_l.mp h
theorem ran_ct {v i n m : Int32} (hv : SL v) (hG : GOK ad tys GG ws) (hm : rd ws 42 v.toInt.toNat = some (.int m)) : CT l D tys A 168 2 0 0 [.ref (ad 39), .int v, .int i, .int n] ws (fun r w => w = ws ∧ r = some (.int (bI (decide (RG i n m))))) := by
  refine CT_of_V (by omega) (show (4 : Nat) ≤ mML 168 by decide +kernel) ?_
  obtain ⟨s39, e39, t1, t2⟩ := gx39
  have lvs : lv_args 0 [Value.ref (ad 39), .int v, .int i, .int n] = [(0, .ref (ad 39)), (1, .int v), (2, .int i), (3, .int n)] := rfl
  rw [lvs]
  have no : ¬ RG i n m → V l D tys A 168 2 0 0 (fun r w => w = ws ∧ r = some (.int (bI (decide (RG i n m))))) 0 0 27 [(0, .ref (ad 39)), (1, .int v), (2, .int i), (3, .int n)] [] ws := fun h => V_ipush mi_168_27 (V_retI mi_168_28 (fun _ => by decide) ⟨rfl, by rw [decide_eq_false h]; rfl⟩)
  have i1 := Int32.le_toInt i
  have i2 := Int32.toInt_lt i
  have n1 := Int32.le_toInt n
  have n2 := Int32.toInt_lt n
  have m1 := Int32.le_toInt m
  have m2 := Int32.toInt_lt m
  refine V_iload (v := i) mi_168_0 (by simp) ?_
  refine V_if mi_168_1 (fun h => no (fun q => by have := l0 h; have := q.1; omega)) (fun h1 => ?_)
  have h1 := nl0 h1
  refine V_iload (v := n) mi_168_4 (by simp) ?_
  refine V_if mi_168_5 (fun h => no (fun q => by have := l0 h; have := q.2.1; omega)) (fun h2 => ?_)
  have h2 := nl0 h2
  refine V_iload (v := i) mi_168_8 (by simp) ?_
  refine V_i2l mi_168_9 ?_
  refine V_iload (v := n) mi_168_10 (by simp) ?_
  refine V_i2l mi_168_11 ?_
  refine V_lbin mi_168_12 (by omega) ?_
  rw [el_, el_, ladd_]
  refine V_aload (v := ad 39) mi_168_13 (by simp) ?_
  refine V_iload (v := v) mi_168_14 (by simp) ?_
  refine V_callO (c := 39) (As := [.int v]) (st := [.long (Int64.ofInt (i.toInt + n.toInt))]) mi_168_15 (by omega) (by decide +kernel) (show mCi 162 = 7 by decide +kernel) (by omega) e39 hG (size_ct hv hG hm) (by omega) (show 1 = mN 162 by decide +kernel) (by simp [Value.category]) ?_
  rintro r w ⟨rfl, rfl⟩
  refine V_i2l mi_168_18 ?_
  rw [el_]
  refine V_lcmp mi_168_19 ?_
  have hc := cdL_iff (x := 4) (a := i.toInt + n.toInt) (b := m.toInt) (by omega) (by omega) (by omega) (by omega)
  refine V_if mi_168_20 (fun h => no (fun q => by have : i.toInt + n.toInt - m.toInt > 0 := hc.mp h; have := q.2.2; omega)) (fun h3 => ?_)
  have h3 : i.toInt + n.toInt ≤ m.toInt := by
    have : ¬ (i.toInt + n.toInt - m.toInt > 0) := fun q => h3 (hc.mpr q)
    omega
  refine V_ipush mi_168_23 ?_
  refine V_goto mi_168_24 ?_
  exact V_retI mi_168_28 (fun _ => by decide) ⟨rfl, by rw [decide_eq_true (show RG i n m from ⟨h1, h2, h3⟩)]; rfl⟩
noncomputable def cSh : CR := (169, [(2, 39, 39), (0, 0, 3), (0, 0, 60), (0, 0, 3), (0, 0, 60), (0, 0, 60)], [], none, [], [40])
theorem mSh : vrf GG [] [] 600 4 cSh [(3, [(0, 3), (0, 60), (0, 3), (0, 60), (0, 60), (0, 60)], [(0, rA 39), (1, iA (0, [(1, 0)])), (2, iA (0, [(1, 1)])), (3, iA (0, [(1, 2)])), (4, iA (0, [(1, 3)])), (5, iA (0, [(1, 4)])), (6, iA (0, [(1, 5)]))], [], [], (61, [((-1), 5)]))] = true := by decide +kernel
noncomputable def paV (v i t q n m1 m2 w1 w2 : Int32) : Int := if SL v ∧ SL t then (if m1.toInt < 0 ∨ m2.toInt < 0 then -6 else if w1 ≠ w2 then -8 else if RG i n m1 ∧ RG q n m2 then 0 else -7) else -2
theorem pastex_ct (hAD : ∀ i : Nat, ad (1000 + i) = D.2 1000 i) (v i t q n : Int32) {m1 m2 w1 w2 : Int32} (hm1 : SL v → rd ws 42 v.toInt.toNat = some (.int m1)) (hm2 : SL t → rd ws 42 t.toInt.toNat = some (.int m2)) (hw1 : SL v → rd ws 41 v.toInt.toNat = some (.int w1)) (hw2 : SL t → rd ws 41 t.toInt.toNat = some (.int w2)) (hG : GOK ad tys GG ws) : CT l D tys A 72 6 0 0 [.ref (ad 0), .int v, .int i, .int t, .int q, .int n] ws (fun r w => r = some (.int (Int32.ofInt (paV v i t q n m1 m2 w1 w2))) ∧ GOK ad tys GG w ∧ FRm [40] ws w) := by
  refine CT_of_V (by omega) (show (6 : Nat) ≤ mML 72 by decide +kernel) ?_
  obtain ⟨s0, e0, t7, -⟩ := gx0
  obtain ⟨s39, e39, -, -⟩ := gx39
  have lvs : lv_args 0 [Value.ref (ad 0), .int v, .int i, .int t, .int q, .int n] = [(0, .ref (ad 0)), (1, .int v), (2, .int i), (3, .int t), (4, .int q), (5, .int n)] := rfl
  rw [lvs]
  have no2 : ¬ (SL v ∧ SL t) → V l D tys A 72 6 0 0 (fun r w => r = some (.int (Int32.ofInt (paV v i t q n m1 m2 w1 w2))) ∧ GOK ad tys GG w ∧ FRm [40] ws w) 0 0 22 [(0, .ref (ad 0)), (1, .int v), (2, .int i), (3, .int t), (4, .int q), (5, .int n)] [] ws := fun h => V_ipush mi_72_22 (V_retI mi_72_24 (fun h => absurd h (by decide +kernel)) ⟨by unfold paV; rw [if_neg h], hG, FRm_rf⟩)
  refine V_aload (v := ad 0) mi_72_0 (by simp) ?_
  refine V_getO mi_72_1 hG e0 (rrO e0 t7 (by omega) hG) ?_
  refine V_iload (v := v) mi_72_4 (by simp) ?_
  refine V_callO (c := 39) (As := [.int v]) (st := []) mi_72_5 (by omega) (by decide +kernel) (show mCi 160 = 7 by decide +kernel) (by omega) e39 hG (has_ct v) (by omega) (show 1 = mN 160 by decide +kernel) (by simp) ?_
  rintro r w ⟨rfl, rfl⟩
  by_cases hv : SL v
  case neg =>
    rw [decide_eq_false hv]
    exact V_if mi_72_8 (fun _ => no2 (fun z => hv z.1)) (fun h => absurd (show (0 : Int32) = 0 from rfl) h)
  rw [decide_eq_true hv]
  refine V_if mi_72_8 (fun h => absurd (show (1 : Int32) = 0 from h) (by decide)) (fun _ => ?_)
  refine V_aload (v := ad 0) mi_72_11 (by simp) ?_
  refine V_getO mi_72_12 hG e0 (rrO e0 t7 (by omega) hG) ?_
  refine V_iload (v := t) mi_72_15 (by simp) ?_
  refine V_callO (c := 39) (As := [.int t]) (st := []) mi_72_16 (by omega) (by decide +kernel) (show mCi 160 = 7 by decide +kernel) (by omega) e39 hG (has_ct t) (by omega) (show 1 = mN 160 by decide +kernel) (by simp) ?_
  rintro r w ⟨rfl, rfl⟩
  by_cases ht : SL t
  case neg =>
    rw [decide_eq_false ht]
    exact V_if mi_72_19 (fun h => absurd (show (0 : Int32) = 0 from rfl) h) (fun _ => no2 (fun z => ht z.2))
  rw [decide_eq_true ht]
  refine V_if mi_72_19 (fun _ => ?_) (fun h => absurd (show (1 : Int32) ≠ 0 by decide) h)
  have hm1 := hm1 hv
  have hm2 := hm2 ht
  have hw1 := hw1 hv
  have hw2 := hw2 ht
  have no6 : m1.toInt < 0 ∨ m2.toInt < 0 → V l D tys A 72 6 0 0 (fun r w' => r = some (.int (Int32.ofInt (paV v i t q n m1 m2 w1 w2))) ∧ GOK ad tys GG w' ∧ FRm [40] w w') 0 0 47 [(0, .ref (ad 0)), (1, .int v), (2, .int i), (3, .int t), (4, .int q), (5, .int n)] [] w := fun h => V_ipush mi_72_47 (V_retI mi_72_49 (fun h => absurd h (by decide +kernel)) ⟨by unfold paV; rw [if_pos ⟨hv, ht⟩, if_pos h], hG, FRm_rf⟩)
  refine V_aload (v := ad 0) mi_72_25 (by simp) ?_
  refine V_getO mi_72_26 hG e0 (rrO e0 t7 (by omega) hG) ?_
  refine V_iload (v := v) mi_72_29 (by simp) ?_
  refine V_callO (c := 39) (As := [.int v]) (st := []) mi_72_30 (by omega) (by decide +kernel) (show mCi 161 = 7 by decide +kernel) (by omega) e39 hG (bare_ct hv hG hm1) (by omega) (show 1 = mN 161 by decide +kernel) (by simp) ?_
  rintro r w ⟨rfl, rfl⟩
  by_cases hb1 : m1.toInt < 0
  · rw [decide_eq_true hb1]
    exact V_if mi_72_33 (fun _ => no6 (Or.inl hb1)) (fun h => absurd (show (1 : Int32) ≠ 0 by decide) h)
  rw [decide_eq_false hb1]
  refine V_if mi_72_33 (fun h => absurd (show (0 : Int32) = 0 from rfl) h) (fun _ => ?_)
  refine V_aload (v := ad 0) mi_72_36 (by simp) ?_
  refine V_getO mi_72_37 hG e0 (rrO e0 t7 (by omega) hG) ?_
  refine V_iload (v := t) mi_72_40 (by simp) ?_
  refine V_callO (c := 39) (As := [.int t]) (st := []) mi_72_41 (by omega) (by decide +kernel) (show mCi 161 = 7 by decide +kernel) (by omega) e39 hG (bare_ct ht hG hm2) (by omega) (show 1 = mN 161 by decide +kernel) (by simp) ?_
  rintro r w ⟨rfl, rfl⟩
  by_cases hb2 : m2.toInt < 0
  · rw [decide_eq_true hb2]
    exact V_if mi_72_44 (fun h => absurd (show (1 : Int32) = 0 from h) (by decide)) (fun _ => no6 (Or.inr hb2))
  rw [decide_eq_false hb2]
  refine V_if mi_72_44 (fun _ => ?_) (fun h => absurd (show (0 : Int32) = 0 from rfl) h)
  have hb : ¬ (m1.toInt < 0 ∨ m2.toInt < 0) := by omega
  refine V_aload (v := ad 0) mi_72_50 (by simp) ?_
  refine V_getO mi_72_51 hG e0 (rrO e0 t7 (by omega) hG) ?_
  refine V_iload (v := v) mi_72_54 (by simp) ?_
  refine V_callO (c := 39) (As := [.int v]) (st := []) mi_72_55 (by omega) (by decide +kernel) (show mCi 163 = 7 by decide +kernel) (by omega) e39 hG (wid_ct hv hG hw1) (by omega) (show 1 = mN 163 by decide +kernel) (by simp) ?_
  rintro r w ⟨rfl, rfl⟩
  refine V_aload (v := ad 0) mi_72_58 (by simp) ?_
  refine V_getO mi_72_59 hG e0 (rrO e0 t7 (by omega) hG) ?_
  refine V_iload (v := t) mi_72_62 (by simp) ?_
  refine V_callO (c := 39) (As := [.int t]) (st := [.int w1]) mi_72_63 (by omega) (by decide +kernel) (show mCi 163 = 7 by decide +kernel) (by omega) e39 hG (wid_ct ht hG hw2) (by omega) (show 1 = mN 163 by decide +kernel) (by simp [Value.category]) ?_
  rintro r w ⟨rfl, rfl⟩
  refine V_icmp mi_72_66 (fun hw => ?_) (fun hw => ?_)
  rotate_left
  · have hw : w1 ≠ w2 := hw
    refine V_ipush mi_72_69 ?_
    exact V_retI mi_72_71 (fun h => absurd h (by decide +kernel)) ⟨by unfold paV; rw [if_pos ⟨hv, ht⟩, if_neg hb, if_pos hw], hG, FRm_rf⟩
  have hw : w1 = w2 := hw
  have hw' : ¬ (w1 ≠ w2) := fun z => z hw
  have no7 : ¬ (RG i n m1 ∧ RG q n m2) → V l D tys A 72 6 0 0 (fun r w' => r = some (.int (Int32.ofInt (paV v i t q n m1 m2 w1 w2))) ∧ GOK ad tys GG w' ∧ FRm [40] w w') 0 0 101 [(0, .ref (ad 0)), (1, .int v), (2, .int i), (3, .int t), (4, .int q), (5, .int n)] [] w := fun h => V_ipush mi_72_101 (V_retI mi_72_103 (fun h => absurd h (by decide +kernel)) ⟨by unfold paV; rw [if_pos ⟨hv, ht⟩, if_neg hb, if_neg hw', if_neg h], hG, FRm_rf⟩)
  refine V_aload (v := ad 0) mi_72_72 (by simp) ?_
  refine V_getO mi_72_73 hG e0 (rrO e0 t7 (by omega) hG) ?_
  refine V_iload (v := v) mi_72_76 (by simp) ?_
  refine V_iload (v := i) mi_72_77 (by simp) ?_
  refine V_iload (v := n) mi_72_78 (by simp) ?_
  refine V_callO (c := 39) (As := [.int v, .int i, .int n]) (st := []) mi_72_80 (by omega) (by decide +kernel) (show mCi 168 = 7 by decide +kernel) (by omega) e39 hG (ran_ct hv hG hm1) (by omega) (show 3 = mN 168 by decide +kernel) (by simp) ?_
  rintro r w ⟨rfl, rfl⟩
  by_cases hr1 : RG i n m1
  case neg =>
    rw [decide_eq_false hr1]
    exact V_if mi_72_83 (fun _ => no7 (fun z => hr1 z.1)) (fun h => absurd (show (0 : Int32) = 0 from rfl) h)
  rw [decide_eq_true hr1]
  refine V_if mi_72_83 (fun h => absurd (show (1 : Int32) = 0 from h) (by decide)) (fun _ => ?_)
  refine V_aload (v := ad 0) mi_72_86 (by simp) ?_
  refine V_getO mi_72_87 hG e0 (rrO e0 t7 (by omega) hG) ?_
  refine V_iload (v := t) mi_72_90 (by simp) ?_
  refine V_iload (v := q) mi_72_91 (by simp) ?_
  refine V_iload (v := n) mi_72_93 (by simp) ?_
  refine V_callO (c := 39) (As := [.int t, .int q, .int n]) (st := []) mi_72_95 (by omega) (by decide +kernel) (show mCi 168 = 7 by decide +kernel) (by omega) e39 hG (ran_ct ht hG hm2) (by omega) (show 3 = mN 168 by decide +kernel) (by simp) ?_
  rintro r w ⟨rfl, rfl⟩
  by_cases hr2 : RG q n m2
  case neg =>
    rw [decide_eq_false hr2]
    exact V_if mi_72_98 (fun h => absurd (show (0 : Int32) = 0 from rfl) h) (fun _ => no7 (fun z => hr2 z.2))
  rw [decide_eq_true hr2]
  refine V_if mi_72_98 (fun _ => ?_) (fun h => absurd (show (1 : Int32) ≠ 0 by decide) h)
  obtain ⟨s42, e42, f42⟩ := gx42
  have bd : ∀ {u m : Int32}, SL u → rd w 42 u.toInt.toNat = some (.int m) → m.toInt ≤ 60 := by
    intro u m hu hm
    obtain ⟨zz, hz, z1, z2⟩ := cel (j := u.toInt.toNat) hG e42 (sl_nat hu).2 (f42 _ (sl_nat hu).2)
    rw [hm] at hz
    have q := congrArg Int32.toInt (Value.int.inj (Option.some.inj hz))
    rw [tIi zz (by omega) (by omega)] at q
    omega
  have bd1 := bd hv hm1
  have bd2 := bd ht hm2
  obtain ⟨p1, p2, p3⟩ := hr1
  obtain ⟨p4, p5, p6⟩ := hr2
  refine V_aload (v := ad 0) mi_72_104 (by simp) ?_
  refine V_getO mi_72_105 hG e0 (rrO e0 t7 (by omega) hG) ?_
  refine V_iload (v := v) mi_72_108 (by simp) ?_
  refine V_iload (v := i) mi_72_109 (by simp) ?_
  refine V_iload (v := t) mi_72_110 (by simp) ?_
  refine V_iload (v := q) mi_72_111 (by simp) ?_
  refine V_iload (v := n) mi_72_113 (by simp) ?_
  obtain ⟨d', k1, k2⟩ := CR_of_vrf (l := l) (tys := tys) (A := A) (dep := 4) hAD (fun c hc => by cases hc) T2OK_nil mSh [.ref (ad 39), .int v, .int i, .int t, .int q, .int n] w ⟨rfl, okI hv.1 hv.2, okI p1 (by omega), okI ht.1 ht.2, okI p4 (by omega), okI p2 (by omega), trivial⟩ hG (fun q hq => by cases hq)
  refine V_callO (c := 39) (As := [.int v, .int i, .int t, .int q, .int n]) (st := []) mi_72_115 (by omega) (by decide +kernel) (show mCi 169 = 7 by decide +kernel) (by omega) e39 hG k2 (by omega) (show 5 = mN 169 by decide +kernel) (by simp) ?_
  rintro r w2 ⟨G2, F2, g3, -⟩
  cases r with
  | some v => exact g3.elim
  | none =>
    refine V_ipush mi_72_118 ?_
    exact V_retI mi_72_119 (fun h => absurd h (by decide +kernel)) ⟨by unfold paV; rw [if_pos ⟨hv, ht⟩, if_neg hb, if_neg hw', if_pos ⟨⟨p1, p2, p3⟩, p4, p5, p6⟩], G2, F2⟩
end PAS
section PAT
variable {l : Launch} {D : va_G} {tys : List (ClassId × FieldType)} {A : Nat → Prop} {ad : Nat → Nat} {ws : va_W}
noncomputable def LPa (ad : Nat → Nat) (v i t q n : Int32) (x : Nat) : List (Nat × Value) := [(0, .ref (ad 90)), (1, .int v), (2, .int i), (3, .int t), (4, .int q), (5, .int n), (6, .int (Int32.ofInt (x : Int)))]
theorem ge_ {x : Nat} {n : Int32} (hx : x ≤ 1000) : cdP 3 (Int32.ofInt (x : Int)) n ↔ n.toInt ≤ x := by
  rw [cmp_g, tIi (x : Int) (by omega) (by omega)]
theorem idx3 {v i : Int32} {x : Nat} (hv : SL v) (h0 : 0 ≤ i.toInt) (h1 : i.toInt + x < 60) : ibF 0 (ibF 0 (ibF 2 (Int32.ofInt 60) v) i) (Int32.ofInt (x : Int)) = Int32.ofInt (((60 * v.toInt + i.toInt + x).toNat : Nat) : Int) := by
  obtain ⟨a, b⟩ := hv
  have e1 : v = Int32.ofInt v.toInt := by rw [Int32.ofInt_toInt]
  have e2 : i = Int32.ofInt i.toInt := by rw [Int32.ofInt_toInt]
  rw [Int.toNat_of_nonneg (by omega)]
  show Int32.ofInt 60 * v + i + Int32.ofInt (x : Int) = _
  conv => lhs; rw [e1, e2]
  rw [← Int32.ofInt_mul, ← Int32.ofInt_add, ← Int32.ofInt_add]
theorem pm_2 {p0 : Int} {w0 : va_W} {v i t q n : Int32} (hv : SL v) (ht : SL t) (q0 : 0 ≤ q.toInt) (n0 : 0 ≤ n.toInt) (qn : q.toInt + n.toInt ≤ 60) : ∀ (f x : Nat) (w : va_W), n.toInt - x < (f : Int) → (x : Int) ≤ n.toInt → GOK ad tys GG w → FRm [109, 110] w0 w → V l D tys A 340 2 0 0 (fun r w' => r = some (.int (Int32.ofInt 0)) ∧ GOK ad tys GG w' ∧ FRm [109, 110] w0 w') 0 0 150 (LPa ad v i t q n x) [] w
  | 0, x, w, h, hx, _, _ => by omega
  | f + 1, x, w, h, hx, G, F => by
    obtain ⟨s9, e9, f9⟩ := gl109
    obtain ⟨s10, e10, f10⟩ := gl110
    refine V_iload (v := Int32.ofInt (x : Int)) mi_340_150 (by simp [LPa]) ?_
    refine V_iload (v := n) mi_340_152 (by simp [LPa]) ?_
    refine V_icmp mi_340_154 (fun _ => ?_) (fun hlt => ?_)
    · refine V_ipush mi_340_185 ?_
      exact V_retI mi_340_186 (fun h => absurd h (by decide +kernel)) ⟨rfl, G, F⟩
    have hlt : (x : Int) < n.toInt := by
      rcases Int.lt_or_le (x : Int) n.toInt with z | z
      · exact z
      · exact absurd ((ge_ (by omega)).mpr z) hlt
    refine V_aload (v := ad 90) mi_340_157 (by simp [LPa]) ?_
    refine V_getR mi_340_158 gr34 (by omega) G ?_
    refine V_ipush mi_340_161 ?_
    refine V_iload (v := t) mi_340_163 (by simp [LPa]) ?_
    refine V_ibin mi_340_164 (by omega) ?_
    refine V_iload (v := q) mi_340_165 (by simp [LPa]) ?_
    refine V_ibin mi_340_167 (by omega) ?_
    refine V_iload (v := Int32.ofInt (x : Int)) mi_340_168 (by simp [LPa]) ?_
    refine V_ibin mi_340_170 (by omega) ?_
    refine V_aload (v := ad 90) mi_340_171 (by simp [LPa]) ?_
    refine V_getR mi_340_172 gr35 (by omega) G ?_
    refine V_iload (v := Int32.ofInt (x : Int)) mi_340_175 (by simp [LPa]) ?_
    refine V_laldI (j := x) mi_340_177 rfl G e10 (by omega) (by omega) (fun u => ?_)
    have hj : (60 * t.toInt + q.toInt + x).toNat < 240 := by have := ht.1; have := ht.2; omega
    refine V_lastI (j := (60 * t.toInt + q.toInt + x).toNat) mi_340_178 (idx3 ht q0 (by omega)) G e9 hj (by omega) (f9 _ hj) (fun w2 G2 U2 => ?_)
    refine V_iinc (v := Int32.ofInt (x : Int)) mi_340_179 (by simp [LPa]) ?_
    refine V_goto mi_340_182 ?_
    refine V_sub (lv' := LPa ad v i t q n (x + 1)) (fun p hp => ?_) (pm_2 (p0 := p0) hv ht q0 n0 qn f (x + 1) w2 (by omega) (by omega) G2 (FRm_upd F U2 (by simp) (n8c (by omega))))
    simp only [LPa, List.mem_cons, List.not_mem_nil, or_false] at hp
    rcases hp with h | h | h | h | h | h | h <;> simp [h, LPa, stL, Value.category, Int32.ofInt_add]
theorem pm_1 {w0 : va_W} {v i t q n : Int32} (hv : SL v) (ht : SL t) (i0 : 0 ≤ i.toInt) (q0 : 0 ≤ q.toInt) (n0 : 0 ≤ n.toInt) (hin : i.toInt + n.toInt ≤ 60) (qn : q.toInt + n.toInt ≤ 60) : ∀ (f x : Nat) (w : va_W), n.toInt - x < (f : Int) → (x : Int) ≤ n.toInt → GOK ad tys GG w → FRm [109, 110] w0 w → V l D tys A 340 2 0 0 (fun r w' => r = some (.int (Int32.ofInt 0)) ∧ GOK ad tys GG w' ∧ FRm [109, 110] w0 w') 0 0 113 (LPa ad v i t q n x) [] w
  | 0, x, w, h, hx, _, _ => by omega
  | f + 1, x, w, h, hx, G, F => by
    obtain ⟨s9, e9, f9⟩ := gl109
    obtain ⟨s10, e10, f10⟩ := gl110
    refine V_iload (v := Int32.ofInt (x : Int)) mi_340_113 (by simp [LPa]) ?_
    refine V_iload (v := n) mi_340_115 (by simp [LPa]) ?_
    refine V_icmp mi_340_117 (fun _ => ?_) (fun hlt => ?_)
    · refine V_ipush mi_340_147 ?_
      refine V_istore mi_340_148 ?_
      refine V_sub (lv' := LPa ad v i t q n 0) (fun p hp => ?_) (pm_2 (p0 := 0) hv ht q0 n0 qn 61 0 w (by omega) (by omega) G F)
      simp only [LPa, List.mem_cons, List.not_mem_nil, or_false] at hp
      rcases hp with h | h | h | h | h | h | h <;> simp [h, LPa, stL, Value.category]
    have hlt : (x : Int) < n.toInt := by
      rcases Int.lt_or_le (x : Int) n.toInt with z | z
      · exact z
      · exact absurd ((ge_ (by omega)).mpr z) hlt
    refine V_aload (v := ad 90) mi_340_120 (by simp [LPa]) ?_
    refine V_getR mi_340_121 gr35 (by omega) G ?_
    refine V_iload (v := Int32.ofInt (x : Int)) mi_340_124 (by simp [LPa]) ?_
    refine V_aload (v := ad 90) mi_340_126 (by simp [LPa]) ?_
    refine V_getR mi_340_127 gr34 (by omega) G ?_
    refine V_ipush mi_340_130 ?_
    refine V_iload (v := v) mi_340_132 (by simp [LPa]) ?_
    refine V_ibin mi_340_133 (by omega) ?_
    refine V_iload (v := i) mi_340_134 (by simp [LPa]) ?_
    refine V_ibin mi_340_135 (by omega) ?_
    refine V_iload (v := Int32.ofInt (x : Int)) mi_340_136 (by simp [LPa]) ?_
    refine V_ibin mi_340_138 (by omega) ?_
    have hj : (60 * v.toInt + i.toInt + x).toNat < 240 := by have := hv.1; have := hv.2; omega
    refine V_laldI (j := (60 * v.toInt + i.toInt + x).toNat) mi_340_139 (idx3 hv i0 (by omega)) G e9 hj (by omega) (fun u => ?_)
    refine V_lastI (j := x) mi_340_140 rfl G e10 (by omega) (by omega) (f10 _ (by omega)) (fun w2 G2 U2 => ?_)
    refine V_iinc (v := Int32.ofInt (x : Int)) mi_340_141 (by simp [LPa]) ?_
    refine V_goto mi_340_144 ?_
    refine V_sub (lv' := LPa ad v i t q n (x + 1)) (fun p hp => ?_) (pm_1 hv ht i0 q0 n0 hin qn f (x + 1) w2 (by omega) (by omega) G2 (FRm_upd F U2 (by simp) (n8c (by omega))))
    simp only [LPa, List.mem_cons, List.not_mem_nil, or_false] at hp
    rcases hp with h | h | h | h | h | h | h <;> simp [h, LPa, stL, Value.category, Int32.ofInt_add]
theorem pastem_ct (v i t q n : Int32) {m1 m2 w1 w2 : Int32} (hm1 : SL v → rd ws 107 v.toInt.toNat = some (.int m1)) (hm2 : SL t → rd ws 107 t.toInt.toNat = some (.int m2)) (hw1 : SL v → rd ws 108 v.toInt.toNat = some (.int w1)) (hw2 : SL t → rd ws 108 t.toInt.toNat = some (.int w2)) (hG : GOK ad tys GG ws) : CT l D tys A 340 2 0 0 [.ref (ad 90), .int v, .int i, .int t, .int q, .int n] ws (fun r w => r = some (.int (Int32.ofInt (paV v i t q n m1 m2 w1 w2))) ∧ GOK ad tys GG w ∧ FRm [109, 110] ws w) := by
  refine CT_of_V (by omega) (show (6 : Nat) ≤ mML 340 by decide +kernel) ?_
  have lvs : lv_args 0 [Value.ref (ad 90), .int v, .int i, .int t, .int q, .int n] = [(0, .ref (ad 90)), (1, .int v), (2, .int i), (3, .int t), (4, .int q), (5, .int n)] := rfl
  rw [lvs]
  have no2 : ¬ (SL v ∧ SL t) → V l D tys A 340 2 0 0 (fun r w => r = some (.int (Int32.ofInt (paV v i t q n m1 m2 w1 w2))) ∧ GOK ad tys GG w ∧ FRm [109, 110] ws w) 0 0 14 [(0, .ref (ad 90)), (1, .int v), (2, .int i), (3, .int t), (4, .int q), (5, .int n)] [] ws := fun h => V_ipush mi_340_14 (V_retI mi_340_16 (fun h => absurd h (by decide +kernel)) ⟨by unfold paV; rw [if_neg h], hG, FRm_rf⟩)
  refine V_iload (v := v) mi_340_0 (by simp) ?_
  refine V_stat (As := [.int v]) (st := []) mi_340_1 (by omega) (slot_ct v) (by omega) (show 1 = mN 336 by decide +kernel) (by simp) ⟨Nat.le_refl _, Nat.le_refl _⟩ ?_
  rintro r w ⟨rfl, rfl⟩
  by_cases hv : SL v
  case neg =>
    rw [decide_eq_false hv]
    exact V_if mi_340_4 (fun _ => no2 (fun z => hv z.1)) (fun h => absurd (show (0 : Int32) = 0 from rfl) h)
  rw [decide_eq_true hv]
  refine V_if mi_340_4 (fun h => absurd (show (1 : Int32) = 0 from h) (by decide)) (fun _ => ?_)
  refine V_iload (v := t) mi_340_7 (by simp) ?_
  refine V_stat (As := [.int t]) (st := []) mi_340_8 (by omega) (slot_ct t) (by omega) (show 1 = mN 336 by decide +kernel) (by simp) ⟨Nat.le_refl _, Nat.le_refl _⟩ ?_
  rintro r w ⟨rfl, rfl⟩
  by_cases ht : SL t
  case neg =>
    rw [decide_eq_false ht]
    exact V_if mi_340_11 (fun h => absurd (show (0 : Int32) = 0 from rfl) h) (fun _ => no2 (fun z => ht z.2))
  rw [decide_eq_true ht]
  refine V_if mi_340_11 (fun _ => ?_) (fun h => absurd (show (1 : Int32) ≠ 0 by decide) h)
  have hm1 := hm1 hv
  have hm2 := hm2 ht
  have hw1 := hw1 hv
  have hw2 := hw2 ht
  obtain ⟨ev, sv⟩ := sl_nat hv
  obtain ⟨et, s_t⟩ := sl_nat ht
  obtain ⟨s7, e7, f7⟩ := gm107
  obtain ⟨s8, e8, f8⟩ := gm108
  have bd : ∀ {u m : Int32}, SL u → rd w 107 u.toInt.toNat = some (.int m) → -1 ≤ m.toInt ∧ m.toInt ≤ 60 := by
    intro u m hu hm
    obtain ⟨zz, hz, z1, z2⟩ := cel (j := u.toInt.toNat) hG e7 (sl_nat hu).2 (f7 _ (sl_nat hu).2)
    rw [hm] at hz
    have q := congrArg Int32.toInt (Value.int.inj (Option.some.inj hz))
    rw [tIi zz (by omega) (by omega)] at q
    omega
  obtain ⟨bd1, bd1'⟩ := bd hv hm1
  obtain ⟨bd2, bd2'⟩ := bd ht hm2
  have no6 : m1.toInt < 0 ∨ m2.toInt < 0 → V l D tys A 340 2 0 0 (fun r w' => r = some (.int (Int32.ofInt (paV v i t q n m1 m2 w1 w2))) ∧ GOK ad tys GG w' ∧ FRm [109, 110] w w') 0 0 37 [(0, .ref (ad 90)), (1, .int v), (2, .int i), (3, .int t), (4, .int q), (5, .int n)] [] w := fun h => V_ipush mi_340_37 (V_retI mi_340_39 (fun h => absurd h (by decide +kernel)) ⟨by unfold paV; rw [if_pos ⟨hv, ht⟩, if_pos h], hG, FRm_rf⟩)
  have em : ∀ {m : Int32}, -1 ≤ m.toInt → m.toInt ≤ 60 → (m = Int32.ofInt (-1) ↔ m.toInt < 0) := by
    intro m h1 h2
    constructor
    · intro h
      rw [h, tIi (-1) (by omega) (by omega)]
      omega
    · intro h
      rw [← Int32.ofInt_toInt m, show m.toInt = -1 by omega]
  refine V_aload (v := ad 90) mi_340_17 (by simp) ?_
  refine V_getR mi_340_18 gr32 (by omega) hG ?_
  refine V_iload (v := v) mi_340_21 (by simp) ?_
  refine V_aldX (j := v.toInt.toNat) mi_340_22 ev hG e7 sv (by omega) hm1 ?_
  refine V_ipush mi_340_23 ?_
  refine V_icmp mi_340_24 (fun h => no6 (Or.inl ((em bd1 bd1').mp h))) (fun hb1 => ?_)
  have hb1 : ¬ (m1.toInt < 0) := fun h => hb1 ((em bd1 bd1').mpr h)
  refine V_aload (v := ad 90) mi_340_27 (by simp) ?_
  refine V_getR mi_340_28 gr32 (by omega) hG ?_
  refine V_iload (v := t) mi_340_31 (by simp) ?_
  refine V_aldX (j := t.toInt.toNat) mi_340_32 et hG e7 s_t (by omega) hm2 ?_
  refine V_ipush mi_340_33 ?_
  refine V_icmp mi_340_34 (fun hb2 => ?_) (fun h => no6 (Or.inr ((em bd2 bd2').mp (by
    rcases Classical.em (m2 = Int32.ofInt (-1)) with z | z
    · exact z
    · exact absurd z h))))
  have hb2 : ¬ (m2.toInt < 0) := fun h => absurd ((em bd2 bd2').mpr h) hb2
  have hb : ¬ (m1.toInt < 0 ∨ m2.toInt < 0) := by omega
  refine V_aload (v := ad 90) mi_340_40 (by simp) ?_
  refine V_getR mi_340_41 gr33 (by omega) hG ?_
  refine V_iload (v := v) mi_340_44 (by simp) ?_
  refine V_aldX (j := v.toInt.toNat) mi_340_45 ev hG e8 sv (by omega) hw1 ?_
  refine V_aload (v := ad 90) mi_340_46 (by simp) ?_
  refine V_getR mi_340_47 gr33 (by omega) hG ?_
  refine V_iload (v := t) mi_340_50 (by simp) ?_
  refine V_aldX (j := t.toInt.toNat) mi_340_51 et hG e8 s_t (by omega) hw2 ?_
  refine V_icmp mi_340_52 (fun hw => ?_) (fun hw => ?_)
  rotate_left
  · have hw : w1 ≠ w2 := hw
    refine V_ipush mi_340_55 ?_
    exact V_retI mi_340_57 (fun h => absurd h (by decide +kernel)) ⟨by unfold paV; rw [if_pos ⟨hv, ht⟩, if_neg hb, if_pos hw], hG, FRm_rf⟩
  have hw : w1 = w2 := hw
  have hw' : ¬ (w1 ≠ w2) := fun z => z hw
  have no7 : ¬ (RG i n m1 ∧ RG q n m2) → V l D tys A 340 2 0 0 (fun r w' => r = some (.int (Int32.ofInt (paV v i t q n m1 m2 w1 w2))) ∧ GOK ad tys GG w' ∧ FRm [109, 110] w w') 0 0 107 [(0, .ref (ad 90)), (1, .int v), (2, .int i), (3, .int t), (4, .int q), (5, .int n)] [] w := fun h => V_ipush mi_340_107 (V_retI mi_340_109 (fun h => absurd h (by decide +kernel)) ⟨by unfold paV; rw [if_pos ⟨hv, ht⟩, if_neg hb, if_neg hw', if_neg h], hG, FRm_rf⟩)
  have i1 := Int32.le_toInt i
  have i2 := Int32.toInt_lt i
  have n1 := Int32.le_toInt n
  have n2 := Int32.toInt_lt n
  have q1 := Int32.le_toInt q
  have q2 := Int32.toInt_lt q
  refine V_iload (v := i) mi_340_58 (by simp) ?_
  refine V_if mi_340_59 (fun h => no7 (fun z => by have := l0 h; have := z.1.1; omega)) (fun h1 => ?_)
  have h1 := nl0 h1
  refine V_iload (v := q) mi_340_62 (by simp) ?_
  refine V_if mi_340_64 (fun h => no7 (fun z => by have := l0 h; have := z.2.1; omega)) (fun h2 => ?_)
  have h2 := nl0 h2
  refine V_iload (v := n) mi_340_67 (by simp) ?_
  refine V_if mi_340_69 (fun h => no7 (fun z => by have := l0 h; have := z.1.2.1; omega)) (fun h3 => ?_)
  have h3 := nl0 h3
  refine V_iload (v := i) mi_340_72 (by simp) ?_
  refine V_i2l mi_340_73 ?_
  refine V_iload (v := n) mi_340_74 (by simp) ?_
  refine V_i2l mi_340_76 ?_
  refine V_lbin mi_340_77 (by omega) ?_
  rw [el_ i, el_ n, ladd_]
  refine V_aload (v := ad 90) mi_340_78 (by simp) ?_
  refine V_getR mi_340_79 gr32 (by omega) hG ?_
  refine V_iload (v := v) mi_340_82 (by simp) ?_
  refine V_aldX (j := v.toInt.toNat) mi_340_83 ev hG e7 sv (by omega) hm1 ?_
  refine V_i2l mi_340_84 ?_
  rw [el_ m1]
  refine V_lcmp mi_340_85 ?_
  have c1 := cdL_iff (x := 4) (a := i.toInt + n.toInt) (b := m1.toInt) (by omega) (by omega) (by omega) (by omega)
  refine V_if mi_340_86 (fun h => no7 (fun z => by have : i.toInt + n.toInt - m1.toInt > 0 := c1.mp h; have := z.1.2.2; omega)) (fun h4 => ?_)
  have h4 : i.toInt + n.toInt ≤ m1.toInt := by
    have : ¬ (i.toInt + n.toInt - m1.toInt > 0) := fun z => h4 (c1.mpr z)
    omega
  refine V_iload (v := q) mi_340_89 (by simp) ?_
  refine V_i2l mi_340_91 ?_
  refine V_iload (v := n) mi_340_92 (by simp) ?_
  refine V_i2l mi_340_94 ?_
  refine V_lbin mi_340_95 (by omega) ?_
  rw [el_ q, el_ n, ladd_]
  refine V_aload (v := ad 90) mi_340_96 (by simp) ?_
  refine V_getR mi_340_97 gr32 (by omega) hG ?_
  refine V_iload (v := t) mi_340_100 (by simp) ?_
  refine V_aldX (j := t.toInt.toNat) mi_340_101 et hG e7 s_t (by omega) hm2 ?_
  refine V_i2l mi_340_102 ?_
  rw [el_ m2]
  refine V_lcmp mi_340_103 ?_
  have c2 := cdL_iff (x := 5) (a := q.toInt + n.toInt) (b := m2.toInt) (by omega) (by omega) (by omega) (by omega)
  refine V_if mi_340_104 (fun h5 => ?_) (fun h => no7 (fun z => h (c2.mpr (show q.toInt + n.toInt - m2.toInt ≤ 0 by have := z.2.2.2; omega))))
  have h5 : q.toInt + n.toInt ≤ m2.toInt := by
    have : q.toInt + n.toInt - m2.toInt ≤ 0 := c2.mp h5
    omega
  refine V_ipush mi_340_110 ?_
  refine V_istore mi_340_111 ?_
  refine V_sub (lv' := LPa ad v i t q n 0) (fun p hp => ?_) (V_post (fun r w' hh => ⟨hh.1.trans (by unfold paV; rw [if_pos ⟨hv, ht⟩, if_neg hb, if_neg hw', if_pos ⟨⟨h1, h3, h4⟩, h2, h3, h5⟩]), hh.2⟩) (pm_1 (w0 := w) hv ht h1 h2 h3 (by omega) (by omega) 61 0 w (by omega) (by omega) hG FRm_rf))
  simp only [LPa, List.mem_cons, List.not_mem_nil, or_false] at hp
  rcases hp with h | h | h | h | h | h | h <;> simp [h, LPa, stL, Value.category]
end PAT
section PAU
variable {l : Launch} {D : va_G} {tys : List (ClassId × FieldType)} {A : Nat → Prop} {ad : Nat → Nat} {ws : va_W}
theorem upx (hAD : ∀ i : Nat, ad (1000 + i) = D.2 1000 i) (hG : GOK ad tys GG ws) (a1 a2 a3 a4 a5 : Int32) : ∃ d', d' < 11 ∧ CT l D tys A 72 d' 0 0 [.ref (ad 0), .int a1, .int a2, .int a3, .int a4, .int a5] ws (fun r w => (∃ v : Int32, r = some (.int v)) ∧ GOK ad tys GG w ∧ FRm [40] ws w) := by
  have hm : ∀ (c : Nat) (lo hi : Int), (∃ s, GG[c]? = some ((1, 0, 4), s) ∧ ∀ j, j < 4 → segAt s j = some (0, lo, hi)) → ∀ u : Int32, ∃ m : Int32, SL u → rd ws c u.toInt.toNat = some (.int m) := by
    intro c lo hi hc u
    by_cases h : SL u
    · obtain ⟨s42, e42, f42⟩ := hc
      obtain ⟨z, hz, -, -⟩ := cel (j := u.toInt.toNat) hG e42 (sl_nat h).2 (f42 _ (sl_nat h).2)
      exact ⟨_, fun _ => hz⟩
    · exact ⟨0, fun q => absurd q h⟩
  obtain ⟨m1, hm1⟩ := hm 42 _ _ gx42 a1
  obtain ⟨m2, hm2⟩ := hm 42 _ _ gx42 a3
  obtain ⟨w1, hw1⟩ := hm 41 _ _ gx41 a1
  obtain ⟨w2, hw2⟩ := hm 41 _ _ gx41 a3
  exact ⟨6, by omega, CT_post (pastex_ct hAD a1 a2 a3 a4 a5 hm1 hm2 hw1 hw2 hG) (fun r w h => ⟨⟨_, h.1⟩, h.2⟩)⟩
theorem upm (hG : GOK ad tys GG ws) (a1 a2 a3 a4 a5 : Int32) : ∃ d', d' < 11 ∧ CT l D tys A 340 d' 0 0 [.ref (ad 90), .int a1, .int a2, .int a3, .int a4, .int a5] ws (fun r w => (∃ v : Int32, r = some (.int v)) ∧ GOK ad tys GG w ∧ FRm [109, 110] ws w) := by
  have hm : ∀ (c : Nat) (lo hi : Int), (∃ s, GG[c]? = some ((1, 0, 4), s) ∧ ∀ j, j < 4 → segAt s j = some (0, lo, hi)) → ∀ u : Int32, ∃ m : Int32, SL u → rd ws c u.toInt.toNat = some (.int m) := by
    intro c lo hi hc u
    by_cases h : SL u
    · obtain ⟨s42, e42, f42⟩ := hc
      obtain ⟨z, hz, -, -⟩ := cel (j := u.toInt.toNat) hG e42 (sl_nat h).2 (f42 _ (sl_nat h).2)
      exact ⟨_, fun _ => hz⟩
    · exact ⟨0, fun q => absurd q h⟩
  obtain ⟨m1, hm1⟩ := hm 107 _ _ gm107 a1
  obtain ⟨m2, hm2⟩ := hm 107 _ _ gm107 a3
  obtain ⟨w1, hw1⟩ := hm 108 _ _ gm108 a1
  obtain ⟨w2, hw2⟩ := hm 108 _ _ gm108 a3
  exact ⟨2, by omega, CT_post (pastem_ct a1 a2 a3 a4 a5 hm1 hm2 hw1 hw2 hG) (fun r w h => ⟨⟨_, h.1⟩, h.2⟩)⟩
end PAU
end
section
theorem mi_1_0 : mI 1 0 = (5, 0, 0, 0, 0) := by decide +kernel
theorem mi_1_1 : mI 1 1 = (17, 298, 20, 10, 1) := by decide +kernel
theorem mi_1_4 : mI 1 4 = (17, 41, 84, 9, 1) := by decide +kernel
theorem mi_1_7 : mI 1 7 = (1, 20, 1, 0, 0) := by decide +kernel
theorem mi_1_9 : mI 1 9 = (10, 0, 0, 0, 0) := by decide +kernel
theorem mi_1_10 : mI 1 10 = (1, 1400, 2, 0, 0) := by decide +kernel
theorem mi_1_13 : mI 1 13 = (15, 5, 5, 18, 0) := by decide +kernel
theorem mi_1_16 : mI 1 16 = (1, (-1), 0, 0, 0) := by decide +kernel
theorem mi_1_17 : mI 1 17 = (27, 0, 0, 0, 0) := by decide +kernel
theorem mi_1_18 : mI 1 18 = (5, 0, 0, 0, 0) := by decide +kernel
theorem mi_1_19 : mI 1 19 = (17, 298, 20, 10, 1) := by decide +kernel
theorem mi_1_22 : mI 1 22 = (3, 0, 1, 0, 0) := by decide +kernel
theorem mi_1_23 : mI 1 23 = (26, 341, 90, 185, 0) := by decide +kernel
theorem mi_1_26 : mI 1 26 = (5, 0, 0, 0, 0) := by decide +kernel
theorem mi_1_27 : mI 1 27 = (17, 298, 20, 10, 1) := by decide +kernel
theorem mi_1_30 : mI 1 30 = (3, 0, 2, 0, 0) := by decide +kernel
theorem mi_1_31 : mI 1 31 = (26, 341, 90, 185, 0) := by decide +kernel
theorem mi_1_34 : mI 1 34 = (5, 0, 0, 0, 0) := by decide +kernel
theorem mi_1_35 : mI 1 35 = (17, 298, 20, 10, 1) := by decide +kernel
theorem mi_1_38 : mI 1 38 = (3, 0, 3, 0, 0) := by decide +kernel
theorem mi_1_39 : mI 1 39 = (26, 341, 90, 185, 0) := by decide +kernel
theorem mi_1_42 : mI 1 42 = (5, 0, 0, 0, 0) := by decide +kernel
theorem mi_1_43 : mI 1 43 = (17, 298, 20, 10, 1) := by decide +kernel
theorem mi_1_46 : mI 1 46 = (3, 0, 4, 1, 0) := by decide +kernel
theorem mi_1_48 : mI 1 48 = (26, 341, 90, 185, 0) := by decide +kernel
theorem mi_1_51 : mI 1 51 = (5, 0, 0, 0, 0) := by decide +kernel
theorem mi_1_52 : mI 1 52 = (17, 298, 20, 10, 1) := by decide +kernel
theorem mi_1_55 : mI 1 55 = (3, 0, 5, 1, 0) := by decide +kernel
theorem mi_1_57 : mI 1 57 = (26, 341, 90, 185, 0) := by decide +kernel
theorem mi_1_60 : mI 1 60 = (5, 0, 0, 0, 0) := by decide +kernel
theorem mi_1_61 : mI 1 61 = (17, 298, 20, 10, 1) := by decide +kernel
theorem mi_1_64 : mI 1 64 = (17, 41, 84, 9, 1) := by decide +kernel
theorem mi_1_67 : mI 1 67 = (27, 0, 0, 0, 0) := by decide +kernel
theorem mi_2_0 : mI 2 0 = (3, 0, 1, 0, 0) := by decide +kernel
theorem mi_2_1 : mI 2 1 = (14, 14, 2, 15, 0) := by decide +kernel
theorem mi_2_4 : mI 2 4 = (3, 0, 1, 0, 0) := by decide +kernel
theorem mi_2_5 : mI 2 5 = (5, 0, 0, 0, 0) := by decide +kernel
theorem mi_2_6 : mI 2 6 = (17, 298, 20, 10, 1) := by decide +kernel
theorem mi_2_9 : mI 2 9 = (17, 41, 84, 9, 1) := by decide +kernel
theorem mi_2_12 : mI 2 12 = (15, 5, 5, 17, 0) := by decide +kernel
theorem mi_2_15 : mI 2 15 = (1, (-1), 0, 0, 0) := by decide +kernel
theorem mi_2_16 : mI 2 16 = (27, 0, 0, 0, 0) := by decide +kernel
theorem mi_2_17 : mI 2 17 = (5, 0, 0, 0, 0) := by decide +kernel
theorem mi_2_18 : mI 2 18 = (17, 298, 20, 10, 1) := by decide +kernel
theorem mi_2_21 : mI 2 21 = (3, 0, 1, 0, 0) := by decide +kernel
theorem mi_2_22 : mI 2 22 = (18, 41, 84, 9, 1) := by decide +kernel
theorem mi_2_25 : mI 2 25 = (3, 0, 1, 0, 0) := by decide +kernel
theorem mi_2_26 : mI 2 26 = (27, 0, 0, 0, 0) := by decide +kernel
theorem mi_3_0 : mI 3 0 = (5, 0, 0, 0, 0) := by decide +kernel
theorem mi_3_1 : mI 3 1 = (17, 297, 12, 10, 0) := by decide +kernel
theorem mi_3_4 : mI 3 4 = (5, 0, 0, 0, 0) := by decide +kernel
theorem mi_3_5 : mI 3 5 = (17, 300, 28, 10, 3) := by decide +kernel
theorem mi_3_8 : mI 3 8 = (26, 353, 94, 133, 0) := by decide +kernel
theorem mi_3_11 : mI 3 11 = (5, 0, 0, 0, 0) := by decide +kernel
theorem mi_3_12 : mI 3 12 = (17, 298, 20, 10, 1) := by decide +kernel
theorem mi_3_15 : mI 3 15 = (1, 0, 0, 0, 0) := by decide +kernel
theorem mi_3_16 : mI 3 16 = (18, 41, 84, 9, 1) := by decide +kernel
theorem mi_3_19 : mI 3 19 = (5, 0, 0, 0, 0) := by decide +kernel
theorem mi_3_20 : mI 3 20 = (17, 297, 12, 10, 0) := by decide +kernel
theorem mi_3_23 : mI 3 23 = (17, 67, 98, 5, 1) := by decide +kernel
theorem mi_3_26 : mI 3 26 = (14, 6, 0, 32, 0) := by decide +kernel
theorem mi_3_29 : mI 3 29 = (1, (-4), 1, 0, 0) := by decide +kernel
theorem mi_3_31 : mI 3 31 = (27, 0, 0, 0, 0) := by decide +kernel
theorem mi_3_32 : mI 3 32 = (5, 0, 0, 0, 0) := by decide +kernel
theorem mi_3_33 : mI 3 33 = (17, 299, 24, 10, 2) := by decide +kernel
theorem mi_3_36 : mI 3 36 = (5, 0, 0, 0, 0) := by decide +kernel
theorem mi_3_37 : mI 3 37 = (17, 300, 28, 10, 3) := by decide +kernel
theorem mi_3_40 : mI 3 40 = (26, 521, 101, 100, 0) := by decide +kernel
theorem mi_3_43 : mI 3 43 = (5, 0, 0, 0, 0) := by decide +kernel
theorem mi_3_44 : mI 3 44 = (26, 528, 104, 73, 0) := by decide +kernel
theorem mi_3_47 : mI 3 47 = (5, 0, 0, 0, 0) := by decide +kernel
theorem mi_3_48 : mI 3 48 = (17, 299, 24, 10, 2) := by decide +kernel
theorem mi_3_51 : mI 3 51 = (17, 85, 107, 2, 0) := by decide +kernel
theorem mi_3_54 : mI 3 54 = (27, 0, 0, 0, 0) := by decide +kernel
theorem mi_185_0 : mI 185 0 = (1, 24, 1, 0, 0) := by decide +kernel
theorem mi_185_2 : mI 185 2 = (6, 0, 2, 0, 0) := by decide +kernel
theorem mi_185_3 : mI 185 3 = (3, 0, 2, 0, 0) := by decide +kernel
theorem mi_185_4 : mI 185 4 = (14, 51, 2, 55, 0) := by decide +kernel
theorem mi_185_7 : mI 185 7 = (5, 0, 0, 0, 0) := by decide +kernel
theorem mi_185_8 : mI 185 8 = (17, 42, 15, 9, 1) := by decide +kernel
theorem mi_185_11 : mI 185 11 = (14, 38, 2, 49, 0) := by decide +kernel
theorem mi_185_14 : mI 185 14 = (5, 0, 0, 0, 0) := by decide +kernel
theorem mi_185_15 : mI 185 15 = (17, 42, 15, 9, 1) := by decide +kernel
theorem mi_185_18 : mI 185 18 = (5, 0, 0, 0, 0) := by decide +kernel
theorem mi_185_19 : mI 185 19 = (17, 40, 9, 9, 0) := by decide +kernel
theorem mi_185_22 : mI 185 22 = (21, 0, 0, 0, 0) := by decide +kernel
theorem mi_185_23 : mI 185 23 = (15, 26, 3, 49, 0) := by decide +kernel
theorem mi_185_26 : mI 185 26 = (5, 0, 0, 0, 0) := by decide +kernel
theorem mi_185_27 : mI 185 27 = (17, 40, 9, 9, 0) := by decide +kernel
theorem mi_185_30 : mI 185 30 = (5, 0, 0, 0, 0) := by decide +kernel
theorem mi_185_31 : mI 185 31 = (17, 42, 15, 9, 1) := by decide +kernel
theorem mi_185_34 : mI 185 34 = (3, 0, 1, 0, 0) := by decide +kernel
theorem mi_185_35 : mI 185 35 = (3, 0, 2, 0, 0) := by decide +kernel
theorem mi_185_36 : mI 185 36 = (10, 0, 10, 0, 0) := by decide +kernel
theorem mi_185_37 : mI 185 37 = (12, 0, 3, 0, 0) := by decide +kernel
theorem mi_185_38 : mI 185 38 = (20, 0, 1, 0, 0) := by decide +kernel
theorem mi_185_39 : mI 185 39 = (5, 0, 0, 0, 0) := by decide +kernel
theorem mi_185_40 : mI 185 40 = (22, 0, 0, 0, 0) := by decide +kernel
theorem mi_185_41 : mI 185 41 = (17, 42, 15, 9, 1) := by decide +kernel
theorem mi_185_44 : mI 185 44 = (1, 1, 0, 0, 0) := by decide +kernel
theorem mi_185_45 : mI 185 45 = (10, 0, 0, 0, 0) := by decide +kernel
theorem mi_185_46 : mI 185 46 = (18, 42, 15, 9, 1) := by decide +kernel
theorem mi_185_49 : mI 185 49 = (9, (-8), 2, 0, 0) := by decide +kernel
theorem mi_185_52 : mI 185 52 = (16, (-49), 0, 3, 0) := by decide +kernel
theorem mi_185_55 : mI 185 55 = (27, 0, 2, 0, 0) := by decide +kernel
theorem mi_210_0 : mI 210 0 = (5, 0, 0, 0, 0) := by decide +kernel
theorem mi_210_1 : mI 210 1 = (17, 1211, 97, 11, 5) := by decide +kernel
theorem mi_210_4 : mI 210 4 = (1, 20, 1, 0, 0) := by decide +kernel
theorem mi_210_6 : mI 210 6 = (10, 0, 0, 0, 0) := by decide +kernel
theorem mi_210_7 : mI 210 7 = (1, 1400, 2, 0, 0) := by decide +kernel
theorem mi_210_10 : mI 210 10 = (15, 5, 5, 15, 0) := by decide +kernel
theorem mi_210_13 : mI 210 13 = (1, (-1), 0, 0, 0) := by decide +kernel
theorem mi_210_14 : mI 210 14 = (27, 0, 0, 0, 0) := by decide +kernel
theorem mi_210_15 : mI 210 15 = (5, 0, 0, 0, 0) := by decide +kernel
theorem mi_210_16 : mI 210 16 = (17, 1212, 24, 11, 6) := by decide +kernel
theorem mi_210_19 : mI 210 19 = (1, 0, 0, 0, 0) := by decide +kernel
theorem mi_210_20 : mI 210 20 = (3, 0, 1, 0, 0) := by decide +kernel
theorem mi_210_21 : mI 210 21 = (20, 0, 0, 0, 0) := by decide +kernel
theorem mi_210_22 : mI 210 22 = (5, 0, 0, 0, 0) := by decide +kernel
theorem mi_210_23 : mI 210 23 = (17, 1212, 24, 11, 6) := by decide +kernel
theorem mi_210_26 : mI 210 26 = (1, 1, 0, 0, 0) := by decide +kernel
theorem mi_210_27 : mI 210 27 = (3, 0, 2, 0, 0) := by decide +kernel
theorem mi_210_28 : mI 210 28 = (20, 0, 0, 0, 0) := by decide +kernel
theorem mi_210_29 : mI 210 29 = (5, 0, 0, 0, 0) := by decide +kernel
theorem mi_210_30 : mI 210 30 = (17, 1212, 24, 11, 6) := by decide +kernel
theorem mi_210_33 : mI 210 33 = (1, 2, 0, 0, 0) := by decide +kernel
theorem mi_210_34 : mI 210 34 = (3, 0, 3, 0, 0) := by decide +kernel
theorem mi_210_35 : mI 210 35 = (20, 0, 0, 0, 0) := by decide +kernel
theorem mi_210_36 : mI 210 36 = (5, 0, 0, 0, 0) := by decide +kernel
theorem mi_210_37 : mI 210 37 = (17, 1212, 24, 11, 6) := by decide +kernel
theorem mi_210_40 : mI 210 40 = (1, 3, 0, 0, 0) := by decide +kernel
theorem mi_210_41 : mI 210 41 = (3, 0, 4, 1, 0) := by decide +kernel
theorem mi_210_43 : mI 210 43 = (20, 0, 0, 0, 0) := by decide +kernel
theorem mi_210_44 : mI 210 44 = (5, 0, 0, 0, 0) := by decide +kernel
theorem mi_210_45 : mI 210 45 = (17, 1212, 24, 11, 6) := by decide +kernel
theorem mi_210_48 : mI 210 48 = (1, 4, 0, 0, 0) := by decide +kernel
theorem mi_210_49 : mI 210 49 = (3, 0, 5, 1, 0) := by decide +kernel
theorem mi_210_51 : mI 210 51 = (20, 0, 0, 0, 0) := by decide +kernel
theorem mi_210_52 : mI 210 52 = (1, 0, 0, 0, 0) := by decide +kernel
theorem mi_210_53 : mI 210 53 = (6, 0, 6, 1, 0) := by decide +kernel
theorem mi_210_55 : mI 210 55 = (3, 0, 6, 1, 0) := by decide +kernel
theorem mi_210_57 : mI 210 57 = (1, 20, 1, 0, 0) := by decide +kernel
theorem mi_210_59 : mI 210 59 = (15, 42, 3, 101, 0) := by decide +kernel
theorem mi_210_62 : mI 210 62 = (5, 0, 0, 0, 0) := by decide +kernel
theorem mi_210_63 : mI 210 63 = (17, 1210, 20, 11, 4) := by decide +kernel
theorem mi_210_66 : mI 210 66 = (5, 0, 0, 0, 0) := by decide +kernel
theorem mi_210_67 : mI 210 67 = (17, 1211, 97, 11, 5) := by decide +kernel
theorem mi_210_70 : mI 210 70 = (3, 0, 6, 1, 0) := by decide +kernel
theorem mi_210_72 : mI 210 72 = (10, 0, 0, 0, 0) := by decide +kernel
theorem mi_210_73 : mI 210 73 = (5, 0, 0, 0, 0) := by decide +kernel
theorem mi_210_74 : mI 210 74 = (17, 1212, 24, 11, 6) := by decide +kernel
theorem mi_210_77 : mI 210 77 = (3, 0, 6, 1, 0) := by decide +kernel
theorem mi_210_79 : mI 210 79 = (1, 4, 0, 0, 0) := by decide +kernel
theorem mi_210_80 : mI 210 80 = (10, 0, 3, 0, 0) := by decide +kernel
theorem mi_210_81 : mI 210 81 = (19, 0, 0, 0, 0) := by decide +kernel
theorem mi_210_82 : mI 210 82 = (1, 24, 1, 0, 0) := by decide +kernel
theorem mi_210_84 : mI 210 84 = (1, 8, 1, 0, 0) := by decide +kernel
theorem mi_210_86 : mI 210 86 = (3, 0, 6, 1, 0) := by decide +kernel
theorem mi_210_88 : mI 210 88 = (1, 4, 0, 0, 0) := by decide +kernel
theorem mi_210_89 : mI 210 89 = (10, 0, 4, 0, 0) := by decide +kernel
theorem mi_210_90 : mI 210 90 = (10, 0, 2, 0, 0) := by decide +kernel
theorem mi_210_91 : mI 210 91 = (10, 0, 1, 0, 0) := by decide +kernel
theorem mi_210_92 : mI 210 92 = (10, 0, 9, 0, 0) := by decide +kernel
theorem mi_210_93 : mI 210 93 = (12, 0, 3, 0, 0) := by decide +kernel
theorem mi_210_94 : mI 210 94 = (20, 0, 1, 0, 0) := by decide +kernel
theorem mi_210_95 : mI 210 95 = (9, 1, 6, 0, 0) := by decide +kernel
theorem mi_210_98 : mI 210 98 = (16, (-43), 0, 55, 0) := by decide +kernel
theorem mi_210_101 : mI 210 101 = (5, 0, 0, 0, 0) := by decide +kernel
theorem mi_210_102 : mI 210 102 = (22, 0, 0, 0, 0) := by decide +kernel
theorem mi_210_103 : mI 210 103 = (17, 1211, 97, 11, 5) := by decide +kernel
theorem mi_210_106 : mI 210 106 = (1, 20, 1, 0, 0) := by decide +kernel
theorem mi_210_108 : mI 210 108 = (10, 0, 0, 0, 0) := by decide +kernel
theorem mi_210_109 : mI 210 109 = (18, 1211, 97, 11, 5) := by decide +kernel
theorem mi_210_112 : mI 210 112 = (5, 0, 0, 0, 0) := by decide +kernel
theorem mi_210_113 : mI 210 113 = (17, 1211, 97, 11, 5) := by decide +kernel
theorem mi_210_116 : mI 210 116 = (27, 0, 0, 0, 0) := by decide +kernel
theorem mi_211_0 : mI 211 0 = (3, 0, 1, 0, 0) := by decide +kernel
theorem mi_211_1 : mI 211 1 = (12, 0, 1, 0, 0) := by decide +kernel
theorem mi_211_2 : mI 211 2 = (2, 0, 0, 0, 0) := by decide +kernel
theorem mi_211_3 : mI 211 3 = (5, 0, 0, 0, 0) := by decide +kernel
theorem mi_211_4 : mI 211 4 = (17, 1211, 97, 11, 5) := by decide +kernel
theorem mi_211_7 : mI 211 7 = (12, 0, 1, 0, 0) := by decide +kernel
theorem mi_211_8 : mI 211 8 = (26, 1321, 85, 193, 1) := by decide +kernel
theorem mi_211_11 : mI 211 11 = (14, 5, 1, 16, 0) := by decide +kernel
theorem mi_211_14 : mI 211 14 = (1, (-1), 0, 0, 0) := by decide +kernel
theorem mi_211_15 : mI 211 15 = (27, 0, 0, 0, 0) := by decide +kernel
theorem mi_211_16 : mI 211 16 = (5, 0, 0, 0, 0) := by decide +kernel
theorem mi_211_17 : mI 211 17 = (3, 0, 1, 0, 0) := by decide +kernel
theorem mi_211_18 : mI 211 18 = (18, 1211, 97, 11, 5) := by decide +kernel
theorem mi_211_21 : mI 211 21 = (3, 0, 1, 0, 0) := by decide +kernel
theorem mi_211_22 : mI 211 22 = (27, 0, 0, 0, 0) := by decide +kernel
section TAP
variable {l : Launch} {D : va_G} {tys : List (ClassId × FieldType)} {A : Nat → Prop} {ad : Nat → Nat} {ws : va_W} {k d : Nat} {post : Option Value → va_W → Prop} {pc : Nat} {lv : List (Nat × Value)} {st : List Value} {a : Int} {x y z : Nat}
theorem V_putO {c ci nf i : Nat} {segs : List SG} {lo hi : Int} {v : Int32} (hi0 : mI k pc = (18, a, x, ci, i)) (hG : GOK ad tys GG ws) (hg : GG[c]? = some ((0, ci, nf), segs)) (hs : segAt segs i = some (0, lo, hi)) (hn2 : i < nf) (hty : clTy ci i = .int) (hn : nfin ci i = true) (h1 : lo ≤ v.toInt) (h2 : v.toInt ≤ hi) (kk : ∀ w : va_W, GOK ad tys GG w → Upd1 ws w c i (.int v) → V l D tys A k d 0 0 post 0 0 (pc + 3) lv st w) : V l D tys A k d 0 0 post 0 0 pc lv (.int v :: .ref (ad c) :: st) ws := by
  obtain ⟨e, a1, a2, a3⟩ := hG c _ hg
  obtain ⟨fs, rfl, hl⟩ := a2
  refine V_put hi0 a1 (by omega) (fun C T N hc => ?_) (by rw [hty]; rfl) (by rw [hty]; rfl) ?_
  · unfold nfin at hn
    rw [hc] at hn
    simpa using hn
  · obtain ⟨u1, u2⟩ := GOK_upd (e' := .inr (ci, fs.set i (.int v))) hG hg a1 ⟨_, rfl, by rw [List.length_set]; exact hl⟩ (rdE_obj (by omega) _) hs ⟨v.toInt, by rw [Int32.ofInt_toInt], h1, h2⟩
    exact kk _ u1 u2
theorem gx2 : ∃ s, GG[2]? = some ((0, 9, 6), s) ∧ segAt s 1 = some (0, 0, 1400) := ⟨_, rfl, by decide +kernel⟩
theorem gx0t : ∃ s, GG[0]? = some ((0, 10, 13), s) ∧ segAt s 1 = some (2, ((2 : Nat) : Int), ((2 : Nat) : Int)) := ⟨_, rfl, by decide +kernel⟩
noncomputable def edV (z : Int) (n : Int32) : Int32 := if 0 ≤ n.toInt ∧ n.toInt ≤ z then n else Int32.ofInt (-1)
noncomputable def edT (z : Int) (n : Int32) : Int := if 0 ≤ n.toInt ∧ n.toInt ≤ z then n.toInt else z
theorem endx_ct (hG : GOK ad tys GG ws) (n : Int32) {z : Int} (hz : rd ws 2 1 = some (.int (Int32.ofInt z))) (z0 : 0 ≤ z) (z1 : z ≤ 1400) : CT l D tys A 2 0 0 0 [.ref (ad 0), .int n] ws (fun r w => r = some (.int (edV z n)) ∧ GOK ad tys GG w ∧ FRm [2] ws w ∧ rd w 2 1 = some (.int (Int32.ofInt (edT z n)))) := by
  refine CT_of_V (by omega) (show (2 : Nat) ≤ mML 2 by decide +kernel) ?_
  obtain ⟨s0, e0, t1⟩ := gx0t
  obtain ⟨s2, e2, t2⟩ := gx2
  have no : ∀ lv : List (Nat × Value), ¬ (0 ≤ n.toInt ∧ n.toInt ≤ z) → V l D tys A 2 0 0 0 (fun r w => r = some (.int (edV z n)) ∧ GOK ad tys GG w ∧ FRm [2] ws w ∧ rd w 2 1 = some (.int (Int32.ofInt (edT z n)))) 0 0 15 lv [] ws := fun lv h => V_ipush mi_2_15 (V_retI mi_2_16 (fun h => absurd h (by decide +kernel)) ⟨by unfold edV; rw [if_neg h], hG, FRm_rf, by unfold edT; rw [if_neg h]; exact hz⟩)
  have lvs : lv_args 0 [Value.ref (ad 0), .int n] = [(0, .ref (ad 0)), (1, .int n)] := rfl
  rw [lvs]
  refine V_iload (v := n) mi_2_0 (by simp) ?_
  refine V_if mi_2_1 (fun h => no _ (fun q => by have := cmp_l.mp h; have e : (0 : Int32).toInt = 0 := rfl; omega)) (fun h1 => ?_)
  have h1 : 0 ≤ n.toInt := by
    rcases Int.lt_or_le n.toInt 0 with q | q
    · exact absurd (cmp_l.mpr (show n.toInt < (0 : Int32).toInt from q)) h1
    · exact q
  refine V_iload (v := n) mi_2_4 (by simp) ?_
  refine V_aload (v := ad 0) mi_2_5 (by simp) ?_
  refine V_getO mi_2_6 hG e0 (rrO e0 t1 (by omega) hG) ?_
  refine V_getO mi_2_9 hG e2 hz ?_
  have ez : (Int32.ofInt z).toInt = z := tIi z (by omega) (by omega)
  refine V_icmp mi_2_12 (fun h2 => ?_) (fun h2 => no _ (fun q => h2 (cmp_le.mpr (by omega))))
  have h2 : n.toInt ≤ z := by have := cmp_le.mp h2; omega
  refine V_aload (v := ad 0) mi_2_17 (by simp) ?_
  refine V_getO mi_2_18 hG e0 (rrO e0 t1 (by omega) hG) ?_
  refine V_iload (v := n) mi_2_21 (by simp) ?_
  refine V_putO mi_2_22 hG e2 t2 (by omega) rfl (by decide +kernel) h1 (by omega) (fun w1 G1 U1 => ?_)
  refine V_iload (v := n) mi_2_25 (by simp) ?_
  exact V_retI mi_2_26 (fun h => absurd h (by decide +kernel)) ⟨by unfold edV; rw [if_pos ⟨h1, h2⟩], G1, FRm_upd FRm_rf U1 (by simp) (n8c (by omega)), by unfold edT; rw [if_pos ⟨h1, h2⟩, Int32.ofInt_toInt]; exact upd_eq U1⟩
end TAP
end
section
section TOK
variable {l : Launch} {D : va_G} {tys : List (ClassId × FieldType)} {A : Nat → Prop} {ad : Nat → Nat} {ws : va_W}
/-- the byte at a place, as both sides see it -/
noncomputable def seeS (B : Nat → Int) (n k : Nat) : Int := if k < n then B k % 256 else -1
noncomputable def blB (c : Int) : Bool := decide (c = 32) || decide (c = 10)
noncomputable def leB (c : Int) : Bool := decide (97 ≤ c) && decide (c ≤ 122)
noncomputable def diB (c : Int) : Bool := decide (48 ≤ c) && decide (c ≤ 57)
/-- behind a run of bytes that P holds of -/
noncomputable def runS (P : Int → Bool) (B : Nat → Int) (n : Nat) : Nat → Nat → Nat
  | 0, i => i
  | f + 1, i => if P (seeS B n i) = true then runS P B n f (i + 1) else i
noncomputable def numS (B : Nat → Int) (n : Nat) : Nat → Nat → Int → Int
  | 0, _, v => v
  | f + 1, i, v => if diB (seeS B n i) = true then numS B n f (i + 1) (min 99999 (10 * v + seeS B n i - 48)) else v
/-- one token: its kind, start, stop, number -/
noncomputable def tkI (B : Nat → Int) (n a : Nat) : Nat := runS blB B n 1401 a
noncomputable def tkC (B : Nat → Int) (n a : Nat) : Int := seeS B n (tkI B n a)
noncomputable def tkK (B : Nat → Int) (n a : Nat) : Int := if tkC B n a = -1 then 0 else if leB (tkC B n a) = true then 1 else if diB (tkC B n a) = true then 2 else if tkC B n a = 59 then 3 else 4
noncomputable def tkE (B : Nat → Int) (n a : Nat) : Nat := if tkC B n a = -1 then tkI B n a else if leB (tkC B n a) = true then runS leB B n 1401 (tkI B n a) else if diB (tkC B n a) = true then runS diB B n 1401 (tkI B n a) else tkI B n a + 1
noncomputable def tkV (B : Nat → Int) (n a : Nat) (v : Int) : Int := if tkC B n a = -1 then v else if leB (tkC B n a) = true then v else if diB (tkC B n a) = true then numS B n 1401 (tkI B n a) 0 else v
theorem see_bd (B : Nat → Int) (n k : Nat) : -1 ≤ seeS B n k ∧ seeS B n k ≤ 255 := by
  unfold seeS
  split <;> omega
theorem see_lt {B : Nat → Int} {n k : Nat} (h : seeS B n k ≠ -1) : k < n := by
  unfold seeS at h
  split at h
  · assumption
  · exact absurd rfl h
theorem run_ge {P : Int → Bool} {B : Nat → Int} {n : Nat} : ∀ {f i : Nat}, i ≤ runS P B n f i
  | 0, i => Nat.le_refl _
  | f + 1, i => by
    unfold runS
    split
    · exact Nat.le_trans (Nat.le_succ _) run_ge
    · exact Nat.le_refl _
theorem run_le {P : Int → Bool} {B : Nat → Int} {n : Nat} (hP : P (-1) = false) : ∀ {f i : Nat}, i ≤ n → runS P B n f i ≤ n
  | 0, i, h => h
  | f + 1, i, h => by
    unfold runS
    split
    · next hp =>
      have : i < n := see_lt (fun e => by rw [e, hP] at hp; cases hp)
      exact run_le hP this
    · exact h
/-- what a run stops at -/
theorem run_end {P : Int → Bool} {B : Nat → Int} {n : Nat} (hP : P (-1) = false) : ∀ {f i : Nat}, i ≤ n → n - i < f → P (seeS B n (runS P B n f i)) = false
  | 0, i, _, h => by omega
  | f + 1, i, hi, h => by
    unfold runS
    split
    · next hp =>
      have : i < n := see_lt (fun e => by rw [e, hP] at hp; cases hp)
      exact run_end hP (by omega) (by omega)
    · next hp => exact Bool.eq_false_iff.mpr hp
/-- one step of a run, whatever the fuel -/
theorem run_fuel {P : Int → Bool} {B : Nat → Int} {n : Nat} (hP : P (-1) = false) : ∀ {f g i : Nat}, i ≤ n → n - i < f → n - i < g → runS P B n f i = runS P B n g i
  | 0, _, i, _, h, _ => by omega
  | _, 0, i, _, _, h => by omega
  | f + 1, g + 1, i, hi, h1, h2 => by
    unfold runS
    split
    · next hp =>
      have : i < n := see_lt (fun e => by rw [e, hP] at hp; cases hp)
      exact run_fuel hP (by omega) (by omega) (by omega)
    · rfl
theorem run_step {P : Int → Bool} {B : Nat → Int} {n i : Nat} (hP : P (-1) = false) (hn : n ≤ 1400) (hi : i ≤ n) (h : P (seeS B n i) = true) : runS P B n 1401 i = runS P B n 1401 (i + 1) := by
  have hl : i < n := see_lt (fun e => by rw [e, hP] at h; cases h)
  have e : runS P B n 1401 i = runS P B n 1400 (i + 1) := by
    show (if P (seeS B n i) = true then runS P B n 1400 (i + 1) else i) = _
    rw [if_pos h]
  rw [e]
  exact run_fuel hP (by omega) (by omega) (by omega)
theorem run_stop {P : Int → Bool} {B : Nat → Int} {n i : Nat} (h : P (seeS B n i) = false) : runS P B n 1401 i = i := by
  show (if P (seeS B n i) = true then runS P B n 1400 (i + 1) else i) = _
  rw [if_neg (by rw [h]; exact Bool.false_ne_true)]
theorem num_fuel {B : Nat → Int} {n : Nat} : ∀ {f g i : Nat} {v : Int}, i ≤ n → n - i < f → n - i < g → numS B n f i v = numS B n g i v
  | 0, _, i, _, _, h, _ => by omega
  | _, 0, i, _, _, _, h => by omega
  | f + 1, g + 1, i, v, hi, h1, h2 => by
    unfold numS
    split
    · next hp =>
      have : i < n := see_lt (fun e => by rw [e] at hp; exact absurd hp (by decide))
      exact num_fuel (by omega) (by omega) (by omega)
    · rfl
theorem num_step {B : Nat → Int} {n i : Nat} {v : Int} (hn : n ≤ 1400) (hi : i ≤ n) (h : diB (seeS B n i) = true) : numS B n 1401 i v = numS B n 1401 (i + 1) (min 99999 (10 * v + seeS B n i - 48)) := by
  have hl : i < n := see_lt (fun e => by rw [e] at h; exact absurd h (by decide))
  have e : numS B n 1401 i v = numS B n 1400 (i + 1) (min 99999 (10 * v + seeS B n i - 48)) := by
    show (if diB (seeS B n i) = true then _ else v) = _
    rw [if_pos h]
  rw [e]
  exact num_fuel (by omega) (by omega) (by omega)
theorem num_stop {B : Nat → Int} {n i : Nat} {v : Int} (h : diB (seeS B n i) = false) : numS B n 1401 i v = v := by
  show (if diB (seeS B n i) = true then _ else v) = _
  rw [if_neg (by rw [h]; exact Bool.false_ne_true)]
/-- the bytes of a cell, up to n -/
noncomputable def TB (w : va_W) (c n : Nat) (B : Nat → Int) : Prop := ∀ k, k < n → rd w c k = some (.int (Int32.ofInt (B k))) ∧ -128 ≤ B k ∧ B k ≤ 127
theorem and255v {b : Int} (h1 : -128 ≤ b) (h2 : b ≤ 127) : ibF 5 (Int32.ofInt b) (Int32.ofInt 255) = Int32.ofInt (b % 256) := by
  have h : ∀ m : Nat, m < 256 → ibF 5 (Int32.ofInt ((m : Int) - 128)) (Int32.ofInt 255) = Int32.ofInt (((m : Int) - 128) % 256) := by decide +kernel
  have q := h (b + 128).toNat (by omega)
  rw [Int.toNat_of_nonneg (by omega), show b + 128 - 128 = b by omega] at q
  exact q
end TOK
section TKM
variable {l : Launch} {D : va_G} {tys : List (ClassId × FieldType)} {A : Nat → Prop} {ad : Nat → Nat} {ws : va_W}
/-- the reference's text: how long it is, and its bytes -/
noncomputable def TXM (w : va_W) (n : Nat) (B : Nat → Int) : Prop := rd w 90 7 = some (.int (Int32.ofInt (n : Int))) ∧ n ≤ 1400 ∧ TB w 94 n B
theorem TXM_upd {w w' : va_W} {n j : Nat} {B : Nat → Int} {v : Value} (h : TXM w n B) (hu : Upd1 w w' 90 j v) (hj : j ≠ 7) : TXM w' n B := ⟨(upd_ne hu (fun q => hj q.2.symm)).trans h.1, h.2.1, fun k hk => ⟨(upd_ne hu (by omega)).trans (h.2.2 k hk).1, (h.2.2 k hk).2⟩⟩
theorem seeM (hG : GOK ad tys GG ws) {n p : Nat} {B : Nat → Int} (hT : TXM ws n B) (hp : p ≤ 1400) : CT l D tys A 212 0 0 0 [.ref (ad 90), .int (Int32.ofInt (p : Int))] ws (fun r w' => w' = ws ∧ r = some (.int (Int32.ofInt (seeS B n p)))) := by
  obtain ⟨h7, n1, hB⟩ := hT
  refine CT_of_V (by omega) (show (2 : Nat) ≤ mML 212 by decide +kernel) ?_
  have hc := cdP_iff (x := 3) (a := (p : Int)) (b := (n : Int)) (by omega) (by omega) (by omega) (by omega)
  refine V_iload (v := Int32.ofInt (p : Int)) mi_212_0 (List.Mem.tail _ (List.Mem.head _)) ?_
  refine V_aload (v := ad 90) mi_212_1 (List.Mem.head _) ?_
  refine V_getI mi_212_2 hG h7 ?_
  refine V_icmp mi_212_5 (fun h => ?_) (fun h => ?_)
  · have h : 0 ≤ (p : Int) - n := hc.mp h
    refine V_ipush mi_212_21 ?_
    exact V_retI mi_212_22 (fun h => absurd h (by decide +kernel)) ⟨rfl, by unfold seeS; rw [if_neg (by omega)]⟩
  · have h : p < n := by
      have : ¬ (0 ≤ (p : Int) - n) := fun q => h (hc.mpr q)
      omega
    obtain ⟨b1, b2, b3⟩ := hB p h
    obtain ⟨s4, e4, f4⟩ := gt94
    refine V_aload (v := ad 90) mi_212_8 (List.Mem.head _) ?_
    refine V_getI mi_212_9 hG (rref gr4 (by omega) hG) ?_
    refine V_iload (v := Int32.ofInt (p : Int)) mi_212_12 (List.Mem.tail _ (List.Mem.head _)) ?_
    refine V_bldI (j := p) mi_212_13 rfl hG e4 (by omega) (by omega) b1 ?_
    refine V_ipush mi_212_14 ?_
    refine V_ibin mi_212_17 (by omega) ?_
    rw [and255v b2 b3]
    refine V_goto mi_212_18 ?_
    exact V_retI mi_212_22 (fun h => absurd h (by decide +kernel)) ⟨rfl, by unfold seeS; rw [if_pos h]⟩
/-- nothing but the token's four places -/
noncomputable def TKO (w0 w : va_W) : Prop := ∀ c j, ¬ (c = 90 ∧ 8 ≤ j ∧ j ≤ 11) → rd w c j = rd w0 c j
theorem TKO_rf {w : va_W} : TKO w w := fun _ _ _ => rfl
theorem TKO_upd {w0 w w' : va_W} {j : Nat} {v : Value} (h : TKO w0 w) (hu : Upd1 w w' 90 j v) (h8 : 8 ≤ j) (h11 : j ≤ 11) : TKO w0 w' := fun c' j' hn => (upd_ne hu (fun q => hn ⟨q.1, by omega, by omega⟩)).trans (h c' j' hn)
noncomputable def ADM (ad : Nat → Nat) (tys : List (ClassId × FieldType)) (w0 : va_W) (K Vn : Int) (S E : Nat) (r : Option Value) (w : va_W) : Prop := r = none ∧ GOK ad tys GG w ∧ TKO w0 w ∧ rd w 90 8 = some (.int (Int32.ofInt (E : Int))) ∧ rd w 90 9 = some (.int (Int32.ofInt (S : Int))) ∧ rd w 90 10 = some (.int (Int32.ofInt K)) ∧ rd w 90 11 = some (.int (Int32.ofInt Vn))
theorem addn1 {a : Nat} : ibF 0 (Int32.ofInt (a : Int)) (Int32.ofInt 1) = Int32.ofInt ((a + 1 : Nat) : Int) := by
  show Int32.ofInt (a : Int) + Int32.ofInt 1 = _
  rw [← Int32.ofInt_add]; rfl
theorem inM {m lo hi : Int} (h1 : -1 ≤ m) (h2 : m ≤ 255) (a1 : 0 ≤ lo) (a2 : lo ≤ 1000) (b1 : 0 ≤ hi) (b2 : hi ≤ 1000) : CT l D tys A 193 0 0 0 [.long (Int64.ofInt m), .long (Int64.ofInt lo), .long (Int64.ofInt hi)] ws (fun r w => w = ws ∧ r = some (.int (bI (decide (lo ≤ m) && decide (m ≤ hi))))) := by
  refine CT_post (in2_ct (v := m) (lo := lo) (hi := hi) (by omega) (by omega) (by omega) (by omega) (by omega) (by omega)) (fun r w h => ⟨h.1, ?_⟩)
  rcases h.2 with ⟨e, q1, q2⟩ | ⟨e, q⟩
  · rw [e, decide_eq_true q1, decide_eq_true q2]; rfl
  · rw [e]
    by_cases q1 : lo ≤ m
    · by_cases q2 : m ≤ hi
      · exact absurd ⟨q1, q2⟩ q
      · rw [decide_eq_true q1, decide_eq_false q2]; rfl
    · rw [decide_eq_false q1]; rfl
/-- a word's letters -/
theorem adm_word {w0 : va_W} {n S : Nat} {B : Nat → Int} {Vn : Int} {E : Nat} (lvx : List (Nat × Value)) (l0 : (0, Value.ref (ad 90)) ∈ lvx) : ∀ (f i : Nat) (w : va_W), n - i < f → i ≤ n → GOK ad tys GG w → TXM w n B → TKO w0 w → rd w 90 8 = some (.int (Int32.ofInt (i : Int))) → rd w 90 9 = some (.int (Int32.ofInt (S : Int))) → rd w 90 11 = some (.int (Int32.ofInt Vn)) → runS leB B n 1401 i = E → V l D tys A 213 1 0 0 (ADM ad tys w0 1 Vn S E) 0 0 83 lvx [] w
  | 0, i, w, h, hi, _, _, _, _, _, _, _ => by omega
  | f + 1, i, w, h, hi, G, T, O, h8, h9, h11, hE => by
    have n1 := T.2.1
    obtain ⟨m0, m1⟩ := see_bd B n i
    refine V_aload (v := ad 90) mi_213_83 l0 ?_
    refine V_aload (v := ad 90) mi_213_84 l0 ?_
    refine V_getI mi_213_85 G h8 ?_
    refine V_callM (As := [.int (Int32.ofInt (i : Int))]) (st := []) mi_213_88 (by omega) (by decide +kernel) (by decide +kernel) G (seeM G T (by omega)) (by omega) (show 1 = mN 212 by decide +kernel) (by simp) ?_
    rintro r w' ⟨rfl, rfl⟩
    refine V_i2l mi_213_91 ?_
    rw [i2lm m0 m1]
    refine V_lpush mi_213_92 ?_
    refine V_lpush mi_213_95 ?_
    refine V_stat (As := [.long (Int64.ofInt (seeS B n i)), .long (Int64.ofInt 97), .long (Int64.ofInt 122)]) (st := []) mi_213_98 (by omega) (inM m0 m1 (by omega) (by omega) (by omega) (by omega)) (by omega) (show 3 = mN 193 by decide +kernel) (by simp) ⟨Nat.le_refl _, Nat.le_refl _⟩ ?_
    rintro r w' ⟨rfl, rfl⟩
    cases hb : leB (seeS B n i) with
    | true =>
      rw [show (decide ((97 : Int) ≤ seeS B n i) && decide (seeS B n i ≤ 122)) = true from hb]
      refine V_if mi_213_101 (fun h1 => absurd (show (1 : Int32) = 0 from h1) (by decide)) (fun _ => ?_)
      have hin : i < n := see_lt (fun e => by rw [e] at hb; exact absurd hb (by decide))
      refine V_aload (v := ad 90) mi_213_104 l0 ?_
      refine V_dup mi_213_105 rfl ?_
      refine V_getI mi_213_106 G h8 ?_
      refine V_ipush mi_213_109 ?_
      refine V_ibin mi_213_110 (by omega) ?_
      rw [addn1]
      have t1 : (Int32.ofInt ((i + 1 : Nat) : Int)).toInt = ((i + 1 : Nat) : Int) := Int32.toInt_ofInt_of_le (by omega) (by omega)
      refine V_putI mi_213_111 G f8 (by omega) rfl (by decide +kernel) (by omega) (by omega) (fun w2 G2 U2 => ?_)
      refine V_goto mi_213_114 ?_
      exact adm_word lvx l0 f (i + 1) w2 (by omega) (by omega) G2 (TXM_upd T U2 (by omega)) (TKO_upd O U2 (by omega) (by omega)) (upd_eq U2) ((upd_ne U2 (by omega)).trans h9) ((upd_ne U2 (by omega)).trans h11) (by rw [← hE]; exact (run_step (by decide) n1 hi hb).symm)
    | false =>
      rw [show (decide ((97 : Int) ≤ seeS B n i) && decide (seeS B n i ≤ 122)) = false from hb]
      refine V_if mi_213_101 (fun _ => ?_) (fun h1 => absurd (show (0 : Int32) = 0 from rfl) h1)
      have eE : E = i := by rw [← hE]; exact run_stop hb
      subst eE
      refine V_aload (v := ad 90) mi_213_117 l0 ?_
      refine V_ipush mi_213_118 ?_
      refine V_putI mi_213_119 G f10 (by omega) rfl (by decide +kernel) (by decide) (by decide) (fun w2 G2 U2 => ?_)
      refine V_goto mi_213_122 ?_
      exact V_retV mi_213_239 ⟨rfl, G2, TKO_upd O U2 (by omega) (by omega), (upd_ne U2 (by omega)).trans h8, (upd_ne U2 (by omega)).trans h9, upd_eq U2, (upd_ne U2 (by omega)).trans h11⟩
theorem min_i {a b : Int} (a1 : -1000000000 ≤ a) (a2 : a ≤ 1000000000) (b1 : -1000000000 ≤ b) (b2 : b ≤ 1000000000) : CT l D tys A 342 0 0 0 [.int (Int32.ofInt a), .int (Int32.ofInt b)] ws (fun r w => w = ws ∧ r = some (.int (Int32.ofInt (min a b)))) := by
  have hc := cdP_iff (x := 4) (a := a) (b := b) (by omega) (by omega) (by omega) (by omega)
  refine CT_of_V (by omega) (show (2 : Nat) ≤ mML 342 by decide +kernel) ?_
  refine V_iload (v := Int32.ofInt a) mi_342_0 (List.Mem.head _) ?_
  refine V_iload (v := Int32.ofInt b) mi_342_1 (List.Mem.tail _ (List.Mem.head _)) ?_
  refine V_icmp mi_342_2 (fun h => ?_) (fun h => ?_)
  · have h : a - b > 0 := hc.mp h
    refine V_iload (v := Int32.ofInt b) mi_342_9 (List.Mem.tail _ (List.Mem.head _)) ?_
    exact V_retI mi_342_10 (fun h => absurd h (by decide +kernel)) ⟨rfl, by rw [show min a b = b by omega]⟩
  · have h : ¬ (a - b > 0) := fun q => h (hc.mpr q)
    refine V_iload (v := Int32.ofInt a) mi_342_5 (List.Mem.head _) ?_
    refine V_goto mi_342_6 ?_
    exact V_retI mi_342_10 (fun h => absurd h (by decide +kernel)) ⟨rfl, by rw [show min a b = a by omega]⟩
/-- a number's digits -/
theorem adm_num {w0 : va_W} {n S : Nat} {B : Nat → Int} {Vn : Int} {E : Nat} (lvx : List (Nat × Value)) (l0 : (0, Value.ref (ad 90)) ∈ lvx) : ∀ (f i : Nat) (v : Int) (w : va_W), n - i < f → i ≤ n → 0 ≤ v → v ≤ 99999 → GOK ad tys GG w → TXM w n B → TKO w0 w → rd w 90 8 = some (.int (Int32.ofInt (i : Int))) → rd w 90 9 = some (.int (Int32.ofInt (S : Int))) → rd w 90 11 = some (.int (Int32.ofInt v)) → runS diB B n 1401 i = E → numS B n 1401 i v = Vn → V l D tys A 213 1 0 0 (ADM ad tys w0 2 Vn S E) 0 0 144 lvx [] w
  | 0, i, v, w, h, hi, _, _, _, _, _, _, _, _, _, _ => by omega
  | f + 1, i, v, w, h, hi, v0, v9, G, T, O, h8, h9, h11, hE, hV => by
    have n1 := T.2.1
    obtain ⟨m0, m1⟩ := see_bd B n i
    refine V_aload (v := ad 90) mi_213_144 l0 ?_
    refine V_aload (v := ad 90) mi_213_145 l0 ?_
    refine V_getI mi_213_146 G h8 ?_
    refine V_callM (As := [.int (Int32.ofInt (i : Int))]) (st := []) mi_213_149 (by omega) (by decide +kernel) (by decide +kernel) G (seeM G T (by omega)) (by omega) (show 1 = mN 212 by decide +kernel) (by simp) ?_
    rintro r w' ⟨rfl, rfl⟩
    refine V_i2l mi_213_152 ?_
    rw [i2lm m0 m1]
    refine V_lpush mi_213_153 ?_
    refine V_lpush mi_213_156 ?_
    refine V_stat (As := [.long (Int64.ofInt (seeS B n i)), .long (Int64.ofInt 48), .long (Int64.ofInt 57)]) (st := []) mi_213_159 (by omega) (inM m0 m1 (by omega) (by omega) (by omega) (by omega)) (by omega) (show 3 = mN 193 by decide +kernel) (by simp) ⟨Nat.le_refl _, Nat.le_refl _⟩ ?_
    rintro r w' ⟨rfl, rfl⟩
    cases hb : diB (seeS B n i) with
    | true =>
      rw [show (decide ((48 : Int) ≤ seeS B n i) && decide (seeS B n i ≤ 57)) = true from hb]
      refine V_if mi_213_162 (fun h1 => absurd (show (1 : Int32) = 0 from h1) (by decide)) (fun _ => ?_)
      have hin : i < n := see_lt (fun e => by rw [e] at hb; exact absurd hb (by decide))
      have hd : 48 ≤ seeS B n i ∧ seeS B n i ≤ 57 := by
        unfold diB at hb
        rw [Bool.and_eq_true] at hb
        exact ⟨of_decide_eq_true hb.1, of_decide_eq_true hb.2⟩
      refine V_aload (v := ad 90) mi_213_165 l0 ?_
      refine V_ipush mi_213_166 ?_
      refine V_ipush mi_213_168 ?_
      refine V_aload (v := ad 90) mi_213_170 l0 ?_
      refine V_getI mi_213_171 G h11 ?_
      refine V_ibin mi_213_174 (by omega) ?_
      refine V_aload (v := ad 90) mi_213_175 l0 ?_
      refine V_aload (v := ad 90) mi_213_176 l0 ?_
      refine V_getI mi_213_177 G h8 ?_
      refine V_callM (As := [.int (Int32.ofInt (i : Int))]) (st := [.int (ibF 2 (Int32.ofInt 10) (Int32.ofInt v)), .int (Int32.ofInt 99999), .ref (ad 90)]) mi_213_180 (by omega) (by decide +kernel) (by decide +kernel) G (seeM G T (by omega)) (by omega) (show 1 = mN 212 by decide +kernel) (by simp [Value.category]) ?_
      rintro r w' ⟨rfl, rfl⟩
      refine V_ibin mi_213_183 (by omega) ?_
      refine V_ipush mi_213_184 ?_
      refine V_ibin mi_213_186 (by omega) ?_
      rw [show ibF 1 (ibF 0 (ibF 2 (Int32.ofInt 10) (Int32.ofInt v)) (Int32.ofInt (seeS B n i))) (Int32.ofInt 48) = Int32.ofInt (10 * v + seeS B n i - 48) by show Int32.ofInt 10 * Int32.ofInt v + Int32.ofInt (seeS B n i) - Int32.ofInt 48 = _; rw [← Int32.ofInt_mul, ← Int32.ofInt_add, ← Int32.ofInt_sub]]
      refine V_stat (As := [.int (Int32.ofInt 99999), .int (Int32.ofInt (10 * v + seeS B n i - 48))]) (st := [.ref (ad 90)]) mi_213_187 (by omega) (min_i (by omega) (by omega) (by omega) (by omega)) (by omega) (show 2 = mN 342 by decide +kernel) (by simp [Value.category]) ⟨Nat.le_refl _, Nat.le_refl _⟩ ?_
      rintro r w' ⟨rfl, rfl⟩
      have b1 := Int32.le_toInt (Int32.ofInt (min 99999 (10 * v + seeS B n i - 48)))
      have b2 := Int32.toInt_lt (Int32.ofInt (min 99999 (10 * v + seeS B n i - 48)))
      refine V_putI mi_213_190 G f11 (by omega) rfl (by decide +kernel) (by omega) (by omega) (fun w1 G1 U1 => ?_)
      have h8' : rd w1 90 8 = some (.int (Int32.ofInt (i : Int))) := (upd_ne U1 (by omega)).trans h8
      refine V_aload (v := ad 90) mi_213_193 l0 ?_
      refine V_dup mi_213_194 rfl ?_
      refine V_getI mi_213_195 G1 h8' ?_
      refine V_ipush mi_213_198 ?_
      refine V_ibin mi_213_199 (by omega) ?_
      rw [addn1]
      have t1 : (Int32.ofInt ((i + 1 : Nat) : Int)).toInt = ((i + 1 : Nat) : Int) := Int32.toInt_ofInt_of_le (by omega) (by omega)
      refine V_putI mi_213_200 G1 f8 (by omega) rfl (by decide +kernel) (by omega) (by omega) (fun w2 G2 U2 => ?_)
      refine V_goto mi_213_203 ?_
      exact adm_num lvx l0 f (i + 1) (min 99999 (10 * v + seeS B n i - 48)) w2 (by omega) (by omega) (by omega) (by omega) G2 (TXM_upd (TXM_upd T U1 (by omega)) U2 (by omega)) (TKO_upd (TKO_upd O U1 (by omega) (by omega)) U2 (by omega) (by omega)) (upd_eq U2) ((upd_ne U2 (by omega)).trans ((upd_ne U1 (by omega)).trans h9)) ((upd_ne U2 (by omega)).trans (upd_eq U1)) (by rw [← hE]; exact (run_step (by decide) n1 hi hb).symm) (by rw [← hV]; exact (num_step n1 hi hb).symm)
    | false =>
      rw [show (decide ((48 : Int) ≤ seeS B n i) && decide (seeS B n i ≤ 57)) = false from hb]
      refine V_if mi_213_162 (fun _ => ?_) (fun h1 => absurd (show (0 : Int32) = 0 from rfl) h1)
      have eE : E = i := by rw [← hE]; exact run_stop hb
      have eV : Vn = v := by rw [← hV]; exact num_stop hb
      subst eE
      subst eV
      refine V_aload (v := ad 90) mi_213_206 l0 ?_
      refine V_ipush mi_213_207 ?_
      refine V_putI mi_213_208 G f10 (by omega) rfl (by decide +kernel) (by decide) (by decide) (fun w2 G2 U2 => ?_)
      refine V_goto mi_213_211 ?_
      exact V_retV mi_213_239 ⟨rfl, G2, TKO_upd O U2 (by omega) (by omega), (upd_ne U2 (by omega)).trans h8, (upd_ne U2 (by omega)).trans h9, upd_eq U2, (upd_ne U2 (by omega)).trans h11⟩
end TKM
section TKN
variable {l : Launch} {D : va_G} {tys : List (ClassId × FieldType)} {A : Nat → Prop} {ad : Nat → Nat} {ws : va_W}
/-- what a token at a leaves: kind, number, start, stop -/
noncomputable def ADT (ad : Nat → Nat) (tys : List (ClassId × FieldType)) (B : Nat → Int) (n a : Nat) (v0 : Int) (w0 : va_W) : Option Value → va_W → Prop := ADM ad tys w0 (tkK B n a) (tkV B n a v0) (tkI B n a) (tkE B n a)
theorem adm_39 {w0 w : va_W} {n i a : Nat} {B : Nat → Int} {v0 : Int} (G : GOK ad tys GG w) (T : TXM w n B) (O : TKO w0 w) (hi : i ≤ n) (h8 : rd w 90 8 = some (.int (Int32.ofInt (i : Int)))) (h11 : rd w 90 11 = some (.int (Int32.ofInt v0))) (ei : tkI B n a = i) : V l D tys A 213 1 0 0 (ADT ad tys B n a v0 w0) 0 0 39 [(0, .ref (ad 90))] [] w := by
  have n1 := T.2.1
  obtain ⟨m0, m1⟩ := see_bd B n i
  have ta : (Int32.ofInt (i : Int)).toInt = (i : Int) := Int32.toInt_ofInt_of_le (by omega) (by omega)
  unfold ADT tkK tkV tkE tkC
  rw [ei]
  refine V_aload (v := ad 90) mi_213_39 (List.Mem.head _) ?_
  refine V_aload (v := ad 90) mi_213_40 (List.Mem.head _) ?_
  refine V_getI mi_213_41 G h8 ?_
  refine V_putI mi_213_44 G f9 (by omega) rfl (by decide +kernel) (by omega) (by omega) (fun w1 G1 U1 => ?_)
  have T1 := TXM_upd T U1 (by omega)
  have O1 := TKO_upd O U1 (by omega) (by omega)
  have g8 : rd w1 90 8 = some (.int (Int32.ofInt (i : Int))) := (upd_ne U1 (by omega)).trans h8
  have g11 : rd w1 90 11 = some (.int (Int32.ofInt v0)) := (upd_ne U1 (by omega)).trans h11
  have g9 : rd w1 90 9 = some (.int (Int32.ofInt (i : Int))) := upd_eq U1
  refine V_aload (v := ad 90) mi_213_47 (List.Mem.head _) ?_
  refine V_aload (v := ad 90) mi_213_48 (List.Mem.head _) ?_
  refine V_getI mi_213_49 G1 g8 ?_
  refine V_callM (As := [.int (Int32.ofInt (i : Int))]) (st := []) mi_213_52 (by omega) (by decide +kernel) (by decide +kernel) G1 (seeM G1 T1 (by omega)) (by omega) (show 1 = mN 212 by decide +kernel) (by simp) ?_
  rintro r w' ⟨rfl, rfl⟩
  refine V_istore mi_213_55 ?_
  have l0 : (0, Value.ref (ad 90)) ∈ stL 1 (.int (Int32.ofInt (seeS B n i))) [(0, Value.ref (ad 90))] := by simp [stL, Value.category]
  have l1 : (1, Value.int (Int32.ofInt (seeS B n i))) ∈ stL 1 (.int (Int32.ofInt (seeS B n i))) [(0, Value.ref (ad 90))] := by simp [stL]
  refine V_iload (v := Int32.ofInt (seeS B n i)) mi_213_56 l1 ?_
  refine V_ipush mi_213_57 ?_
  have hc := cdP_iff (x := 1) (a := seeS B n i) (b := -1) (by omega) (by omega) (by omega) (by omega)
  by_cases hm1 : seeS B n i = -1
  · rw [if_pos hm1, if_pos hm1, if_pos hm1]
    refine V_icmp mi_213_58 (fun h => absurd (show seeS B n i - (-1) ≠ 0 from hc.mp h) (by omega)) (fun _ => ?_)
    refine V_aload (v := ad 90) mi_213_61 l0 ?_
    refine V_ipush mi_213_62 ?_
    refine V_putI mi_213_63 G1 f10 (by omega) rfl (by decide +kernel) (by decide) (by decide) (fun w2 G2 U2 => ?_)
    refine V_goto mi_213_66 ?_
    exact V_retV mi_213_239 ⟨rfl, G2, TKO_upd O1 U2 (by omega) (by omega), (upd_ne U2 (by omega)).trans g8, (upd_ne U2 (by omega)).trans g9, upd_eq U2, (upd_ne U2 (by omega)).trans g11⟩
  rw [if_neg hm1, if_neg hm1, if_neg hm1]
  refine V_icmp mi_213_58 (fun _ => ?_) (fun h => absurd (hc.mpr (show seeS B n i - (-1) ≠ 0 by omega)) h)
  have hin : i < n := see_lt hm1
  refine V_iload (v := Int32.ofInt (seeS B n i)) mi_213_69 l1 ?_
  refine V_i2l mi_213_70 ?_
  rw [i2lm m0 m1]
  refine V_lpush mi_213_71 ?_
  refine V_lpush mi_213_74 ?_
  refine V_stat (As := [.long (Int64.ofInt (seeS B n i)), .long (Int64.ofInt 97), .long (Int64.ofInt 122)]) (st := []) mi_213_77 (by omega) (inM m0 m1 (by omega) (by omega) (by omega) (by omega)) (by omega) (show 3 = mN 193 by decide +kernel) (by simp) ⟨Nat.le_refl _, Nat.le_refl _⟩ ?_
  rintro r w' ⟨rfl, rfl⟩
  cases hb : leB (seeS B n i) with
  | true =>
    rw [show (decide ((97 : Int) ≤ seeS B n i) && decide (seeS B n i ≤ 122)) = true from hb, if_pos rfl, if_pos rfl, if_pos rfl]
    refine V_if mi_213_80 (fun h1 => absurd (show (1 : Int32) = 0 from h1) (by decide)) (fun _ => ?_)
    exact adm_word _ l0 (n - i + 1) i _ (by omega) hi G1 T1 O1 g8 g9 g11 rfl
  | false =>
    rw [show (decide ((97 : Int) ≤ seeS B n i) && decide (seeS B n i ≤ 122)) = false from hb, if_neg Bool.false_ne_true, if_neg Bool.false_ne_true, if_neg Bool.false_ne_true]
    refine V_if mi_213_80 (fun _ => ?_) (fun h1 => absurd (show (0 : Int32) = 0 from rfl) h1)
    refine V_iload (v := Int32.ofInt (seeS B n i)) mi_213_125 l1 ?_
    refine V_i2l mi_213_126 ?_
    rw [i2lm m0 m1]
    refine V_lpush mi_213_127 ?_
    refine V_lpush mi_213_130 ?_
    refine V_stat (As := [.long (Int64.ofInt (seeS B n i)), .long (Int64.ofInt 48), .long (Int64.ofInt 57)]) (st := []) mi_213_133 (by omega) (inM m0 m1 (by omega) (by omega) (by omega) (by omega)) (by omega) (show 3 = mN 193 by decide +kernel) (by simp) ⟨Nat.le_refl _, Nat.le_refl _⟩ ?_
    rintro r w' ⟨rfl, rfl⟩
    cases hd : diB (seeS B n i) with
    | true =>
      rw [show (decide ((48 : Int) ≤ seeS B n i) && decide (seeS B n i ≤ 57)) = true from hd, if_pos rfl, if_pos rfl, if_pos rfl]
      refine V_if mi_213_136 (fun h1 => absurd (show (1 : Int32) = 0 from h1) (by decide)) (fun _ => ?_)
      refine V_aload (v := ad 90) mi_213_139 l0 ?_
      refine V_ipush mi_213_140 ?_
      refine V_putI mi_213_141 G1 f11 (by omega) rfl (by decide +kernel) (by decide) (by decide) (fun w2 G2 U2 => ?_)
      exact adm_num _ l0 (n - i + 1) i 0 w2 (by omega) hi (by omega) (by omega) G2 (TXM_upd T1 U2 (by omega)) (TKO_upd O1 U2 (by omega) (by omega)) ((upd_ne U2 (by omega)).trans g8) ((upd_ne U2 (by omega)).trans g9) (upd_eq U2) rfl rfl
    | false =>
      rw [show (decide ((48 : Int) ≤ seeS B n i) && decide (seeS B n i ≤ 57)) = false from hd, if_neg Bool.false_ne_true, if_neg Bool.false_ne_true, if_neg Bool.false_ne_true]
      refine V_if mi_213_136 (fun _ => ?_) (fun h1 => absurd (show (0 : Int32) = 0 from rfl) h1)
      have fin : ∀ t : Int, 0 ≤ t → t ≤ 4 → t = (if seeS B n i = 59 then 3 else 4) → V l D tys A 213 1 0 0 (ADM ad tys w0 (if seeS B n i = 59 then 3 else 4) v0 i (i + 1)) 0 0 226 (stL 1 (.int (Int32.ofInt (seeS B n i))) [(0, Value.ref (ad 90))]) [.int (Int32.ofInt t), .ref (ad 90)] w' := by
        intro t t0 t4 et
        rw [← et]
        have tt : (Int32.ofInt t).toInt = t := Int32.toInt_ofInt_of_le (by omega) (by omega)
        refine V_putI mi_213_226 G1 f10 (by omega) rfl (by decide +kernel) (by omega) (by omega) (fun w2 G2 U2 => ?_)
        refine V_aload (v := ad 90) mi_213_229 l0 ?_
        refine V_dup mi_213_230 rfl ?_
        refine V_getI mi_213_231 G2 ((upd_ne U2 (by omega)).trans g8) ?_
        refine V_ipush mi_213_234 ?_
        refine V_ibin mi_213_235 (by omega) ?_
        rw [addn1]
        have t1 : (Int32.ofInt ((i + 1 : Nat) : Int)).toInt = ((i + 1 : Nat) : Int) := Int32.toInt_ofInt_of_le (by omega) (by omega)
        refine V_putI mi_213_236 G2 f8 (by omega) rfl (by decide +kernel) (by omega) (by omega) (fun w3 G3 U3 => ?_)
        exact V_retV mi_213_239 ⟨rfl, G3, TKO_upd (TKO_upd O1 U2 (by omega) (by omega)) U3 (by omega) (by omega), upd_eq U3, (upd_ne U3 (by omega)).trans ((upd_ne U2 (by omega)).trans g9), (upd_ne U3 (by omega)).trans (upd_eq U2), (upd_ne U3 (by omega)).trans ((upd_ne U2 (by omega)).trans g11)⟩
      refine V_aload (v := ad 90) mi_213_214 l0 ?_
      refine V_iload (v := Int32.ofInt (seeS B n i)) mi_213_215 l1 ?_
      refine V_ipush mi_213_216 ?_
      have h59 := cdP_iff (x := 1) (a := seeS B n i) (b := 59) (by omega) (by omega) (by omega) (by omega)
      refine V_icmp mi_213_218 (fun h => ?_) (fun h => ?_)
      · have h : seeS B n i - 59 ≠ 0 := h59.mp h
        refine V_ipush mi_213_225 ?_
        exact fin 4 (by omega) (by omega) (by rw [if_neg (by omega)])
      · have h : ¬ (seeS B n i - 59 ≠ 0) := fun q => h (h59.mpr q)
        refine V_ipush mi_213_221 ?_
        refine V_goto mi_213_222 ?_
        exact fin 3 (by omega) (by omega) (by rw [if_pos (by omega)])
theorem adm_0 {w0 : va_W} {n a : Nat} {B : Nat → Int} {v0 : Int} : ∀ (f i : Nat) (w : va_W), n - i < f → i ≤ n → GOK ad tys GG w → TXM w n B → TKO w0 w → rd w 90 8 = some (.int (Int32.ofInt (i : Int))) → rd w 90 11 = some (.int (Int32.ofInt v0)) → tkI B n a = runS blB B n 1401 i → V l D tys A 213 1 0 0 (ADT ad tys B n a v0 w0) 0 0 0 [(0, .ref (ad 90))] [] w
  | 0, i, w, h, hi, _, _, _, _, _, _ => by omega
  | f + 1, i, w, h, hi, G, T, O, h8, h11, ei => by
    have n1 := T.2.1
    obtain ⟨m0, m1⟩ := see_bd B n i
    have go26 : blB (seeS B n i) = true → V l D tys A 213 1 0 0 (ADT ad tys B n a v0 w0) 0 0 26 [(0, .ref (ad 90))] [] w := by
      intro hb
      have hin : i < n := see_lt (fun e => by rw [e] at hb; exact absurd hb (by decide))
      refine V_aload (v := ad 90) mi_213_26 (List.Mem.head _) ?_
      refine V_dup mi_213_27 rfl ?_
      refine V_getI mi_213_28 G h8 ?_
      refine V_ipush mi_213_31 ?_
      refine V_ibin mi_213_32 (by omega) ?_
      rw [addn1]
      have t1 : (Int32.ofInt ((i + 1 : Nat) : Int)).toInt = ((i + 1 : Nat) : Int) := Int32.toInt_ofInt_of_le (by omega) (by omega)
      refine V_putI mi_213_33 G f8 (by omega) rfl (by decide +kernel) (by omega) (by omega) (fun w2 G2 U2 => ?_)
      refine V_goto mi_213_36 ?_
      exact adm_0 f (i + 1) w2 (by omega) (by omega) G2 (TXM_upd T U2 (by omega)) (TKO_upd O U2 (by omega) (by omega)) (upd_eq U2) ((upd_ne U2 (by omega)).trans h11) (ei.trans (run_step (by decide) n1 hi hb))
    refine V_aload (v := ad 90) mi_213_0 (List.Mem.head _) ?_
    refine V_aload (v := ad 90) mi_213_1 (List.Mem.head _) ?_
    refine V_getI mi_213_2 G h8 ?_
    refine V_callM (As := [.int (Int32.ofInt (i : Int))]) (st := []) mi_213_5 (by omega) (by decide +kernel) (by decide +kernel) G (seeM G T (by omega)) (by omega) (show 1 = mN 212 by decide +kernel) (by simp) ?_
    rintro r w' ⟨rfl, rfl⟩
    refine V_ipush mi_213_8 ?_
    have c1 := cdP_iff (x := 0) (a := seeS B n i) (b := 32) (by omega) (by omega) (by omega) (by omega)
    refine V_icmp mi_213_10 (fun h => go26 (by
      have h : seeS B n i - 32 = 0 := c1.mp h
      unfold blB
      rw [decide_eq_true (show seeS B n i = 32 by omega), Bool.true_or])) (fun hn32 => ?_)
    refine V_aload (v := ad 90) mi_213_13 (List.Mem.head _) ?_
    refine V_aload (v := ad 90) mi_213_14 (List.Mem.head _) ?_
    refine V_getI mi_213_15 G h8 ?_
    refine V_callM (As := [.int (Int32.ofInt (i : Int))]) (st := []) mi_213_18 (by omega) (by decide +kernel) (by decide +kernel) G (seeM G T (by omega)) (by omega) (show 1 = mN 212 by decide +kernel) (by simp) ?_
    rintro r w' ⟨rfl, rfl⟩
    refine V_ipush mi_213_21 ?_
    have c2 := cdP_iff (x := 1) (a := seeS B n i) (b := 10) (by omega) (by omega) (by omega) (by omega)
    refine V_icmp mi_213_23 (fun hn10 => ?_) (fun h => go26 (by
      have : ¬ (seeS B n i - 10 ≠ 0) := fun q => h (c2.mpr q)
      unfold blB
      rw [decide_eq_true (show seeS B n i = 10 by omega), Bool.or_true]))
    have hb : blB (seeS B n i) = false := by
      have h1 : seeS B n i - 10 ≠ 0 := c2.mp hn10
      have h2 : ¬ (seeS B n i - 32 = 0) := fun q => hn32 (c1.mpr q)
      unfold blB
      rw [decide_eq_false (show ¬ seeS B n i = 32 by omega), decide_eq_false (show ¬ seeS B n i = 10 by omega)]
      rfl
    exact adm_39 G T O hi h8 h11 (ei.trans (run_stop hb))
theorem adm_ct (hG : GOK ad tys GG ws) {n a : Nat} {B : Nat → Int} {v0 : Int} (T : TXM ws n B) (ha : a ≤ n) (h8 : rd ws 90 8 = some (.int (Int32.ofInt (a : Int)))) (h11 : rd ws 90 11 = some (.int (Int32.ofInt v0))) : CT l D tys A 213 1 0 0 [.ref (ad 90)] ws (ADT ad tys B n a v0 ws) := CT_of_V (by omega) (show (1 : Nat) ≤ mML 213 by decide +kernel) (adm_0 (n - a + 1) a ws (by omega) ha hG T TKO_rf h8 h11 rfl)
end TKN
end
section
theorem mi_186_0 : mI 186 0 = (3, 0, 1, 0, 0) := by decide +kernel
theorem mi_186_1 : mI 186 1 = (14, 33, 2, 34, 0) := by decide +kernel
theorem mi_186_4 : mI 186 4 = (3, 0, 1, 0, 0) := by decide +kernel
theorem mi_186_5 : mI 186 5 = (5, 0, 0, 0, 0) := by decide +kernel
theorem mi_186_6 : mI 186 6 = (17, 42, 15, 9, 1) := by decide +kernel
theorem mi_186_9 : mI 186 9 = (15, 25, 3, 34, 0) := by decide +kernel
theorem mi_186_12 : mI 186 12 = (3, 0, 1, 0, 0) := by decide +kernel
theorem mi_186_13 : mI 186 13 = (5, 0, 0, 0, 0) := by decide +kernel
theorem mi_186_14 : mI 186 14 = (17, 40, 9, 9, 0) := by decide +kernel
theorem mi_186_17 : mI 186 17 = (21, 0, 0, 0, 0) := by decide +kernel
theorem mi_186_18 : mI 186 18 = (15, 16, 3, 34, 0) := by decide +kernel
theorem mi_186_21 : mI 186 21 = (5, 0, 0, 0, 0) := by decide +kernel
theorem mi_186_22 : mI 186 22 = (17, 40, 9, 9, 0) := by decide +kernel
theorem mi_186_25 : mI 186 25 = (3, 0, 1, 0, 0) := by decide +kernel
theorem mi_186_26 : mI 186 26 = (19, 0, 1, 0, 0) := by decide +kernel
theorem mi_186_27 : mI 186 27 = (1, 255, 2, 0, 0) := by decide +kernel
theorem mi_186_30 : mI 186 30 = (10, 0, 5, 0, 0) := by decide +kernel
theorem mi_186_31 : mI 186 31 = (16, 4, 0, 35, 0) := by decide +kernel
theorem mi_186_34 : mI 186 34 = (1, (-1), 0, 0, 0) := by decide +kernel
theorem mi_186_35 : mI 186 35 = (27, 0, 0, 0, 0) := by decide +kernel
theorem mi_187_0 : mI 187 0 = (5, 0, 0, 0, 0) := by decide +kernel
theorem mi_187_1 : mI 187 1 = (1, 0, 0, 0, 0) := by decide +kernel
theorem mi_187_2 : mI 187 2 = (18, 44, 19, 9, 2) := by decide +kernel
theorem mi_187_5 : mI 187 5 = (5, 0, 0, 0, 0) := by decide +kernel
theorem mi_187_6 : mI 187 6 = (1, 0, 0, 0, 0) := by decide +kernel
theorem mi_187_7 : mI 187 7 = (18, 45, 22, 9, 3) := by decide +kernel
theorem mi_187_10 : mI 187 10 = (5, 0, 0, 0, 0) := by decide +kernel
theorem mi_187_11 : mI 187 11 = (1, 0, 0, 0, 0) := by decide +kernel
theorem mi_187_12 : mI 187 12 = (18, 47, 25, 9, 4) := by decide +kernel
theorem mi_187_15 : mI 187 15 = (5, 0, 0, 0, 0) := by decide +kernel
theorem mi_187_16 : mI 187 16 = (1, 0, 0, 0, 0) := by decide +kernel
theorem mi_187_17 : mI 187 17 = (18, 48, 28, 9, 5) := by decide +kernel
theorem mi_187_20 : mI 187 20 = (27, 0, 2, 0, 0) := by decide +kernel
theorem mi_188_0 : mI 188 0 = (5, 0, 0, 0, 0) := by decide +kernel
theorem mi_188_1 : mI 188 1 = (17, 47, 25, 9, 4) := by decide +kernel
theorem mi_188_4 : mI 188 4 = (6, 0, 1, 0, 0) := by decide +kernel
theorem mi_188_5 : mI 188 5 = (3, 0, 1, 0, 0) := by decide +kernel
theorem mi_188_6 : mI 188 6 = (5, 0, 0, 0, 0) := by decide +kernel
theorem mi_188_7 : mI 188 7 = (17, 42, 15, 9, 1) := by decide +kernel
theorem mi_188_10 : mI 188 10 = (15, 29, 3, 39, 0) := by decide +kernel
theorem mi_188_13 : mI 188 13 = (5, 0, 0, 0, 0) := by decide +kernel
theorem mi_188_14 : mI 188 14 = (3, 0, 1, 0, 0) := by decide +kernel
theorem mi_188_15 : mI 188 15 = (26, 372, 31, 186, 0) := by decide +kernel
theorem mi_188_18 : mI 188 18 = (1, 32, 1, 0, 0) := by decide +kernel
theorem mi_188_20 : mI 188 20 = (15, 13, 0, 33, 0) := by decide +kernel
theorem mi_188_23 : mI 188 23 = (5, 0, 0, 0, 0) := by decide +kernel
theorem mi_188_24 : mI 188 24 = (3, 0, 1, 0, 0) := by decide +kernel
theorem mi_188_25 : mI 188 25 = (26, 372, 31, 186, 0) := by decide +kernel
theorem mi_188_28 : mI 188 28 = (1, 10, 1, 0, 0) := by decide +kernel
theorem mi_188_30 : mI 188 30 = (15, 9, 1, 39, 0) := by decide +kernel
theorem mi_188_33 : mI 188 33 = (9, 1, 1, 0, 0) := by decide +kernel
theorem mi_188_36 : mI 188 36 = (16, (-31), 0, 5, 0) := by decide +kernel
theorem mi_188_39 : mI 188 39 = (5, 0, 0, 0, 0) := by decide +kernel
theorem mi_188_40 : mI 188 40 = (3, 0, 1, 0, 0) := by decide +kernel
theorem mi_188_41 : mI 188 41 = (18, 45, 22, 9, 3) := by decide +kernel
theorem mi_188_44 : mI 188 44 = (5, 0, 0, 0, 0) := by decide +kernel
theorem mi_188_45 : mI 188 45 = (3, 0, 1, 0, 0) := by decide +kernel
theorem mi_188_46 : mI 188 46 = (26, 372, 31, 186, 0) := by decide +kernel
theorem mi_188_49 : mI 188 49 = (6, 0, 2, 0, 0) := by decide +kernel
theorem mi_188_50 : mI 188 50 = (3, 0, 2, 0, 0) := by decide +kernel
theorem mi_188_51 : mI 188 51 = (14, 16, 3, 67, 0) := by decide +kernel
theorem mi_188_54 : mI 188 54 = (5, 0, 0, 0, 0) := by decide +kernel
theorem mi_188_55 : mI 188 55 = (1, 0, 0, 0, 0) := by decide +kernel
theorem mi_188_56 : mI 188 56 = (18, 44, 19, 9, 2) := by decide +kernel
theorem mi_188_59 : mI 188 59 = (5, 0, 0, 0, 0) := by decide +kernel
theorem mi_188_60 : mI 188 60 = (3, 0, 1, 0, 0) := by decide +kernel
theorem mi_188_61 : mI 188 61 = (18, 47, 25, 9, 4) := by decide +kernel
theorem mi_188_64 : mI 188 64 = (16, 103, 0, 167, 0) := by decide +kernel
theorem mi_188_67 : mI 188 67 = (3, 0, 2, 0, 0) := by decide +kernel
theorem mi_188_68 : mI 188 68 = (1, 97, 1, 0, 0) := by decide +kernel
theorem mi_188_70 : mI 188 70 = (15, 30, 2, 100, 0) := by decide +kernel
theorem mi_188_73 : mI 188 73 = (3, 0, 2, 0, 0) := by decide +kernel
theorem mi_188_74 : mI 188 74 = (1, 122, 1, 0, 0) := by decide +kernel
theorem mi_188_76 : mI 188 76 = (15, 24, 4, 100, 0) := by decide +kernel
theorem mi_188_79 : mI 188 79 = (5, 0, 0, 0, 0) := by decide +kernel
theorem mi_188_80 : mI 188 80 = (1, 1, 0, 0, 0) := by decide +kernel
theorem mi_188_81 : mI 188 81 = (18, 44, 19, 9, 2) := by decide +kernel
theorem mi_188_84 : mI 188 84 = (5, 0, 0, 0, 0) := by decide +kernel
theorem mi_188_85 : mI 188 85 = (5, 0, 0, 0, 0) := by decide +kernel
theorem mi_188_86 : mI 188 86 = (3, 0, 1, 0, 0) := by decide +kernel
theorem mi_188_87 : mI 188 87 = (1, 97, 1, 0, 0) := by decide +kernel
theorem mi_188_89 : mI 188 89 = (1, 122, 1, 0, 0) := by decide +kernel
theorem mi_188_91 : mI 188 91 = (26, 376, 35, 189, 0) := by decide +kernel
theorem mi_188_94 : mI 188 94 = (18, 47, 25, 9, 4) := by decide +kernel
theorem mi_188_97 : mI 188 97 = (16, 70, 0, 167, 0) := by decide +kernel
theorem mi_188_100 : mI 188 100 = (3, 0, 2, 0, 0) := by decide +kernel
theorem mi_188_101 : mI 188 101 = (1, 48, 1, 0, 0) := by decide +kernel
theorem mi_188_103 : mI 188 103 = (15, 42, 2, 145, 0) := by decide +kernel
theorem mi_188_106 : mI 188 106 = (3, 0, 2, 0, 0) := by decide +kernel
theorem mi_188_107 : mI 188 107 = (1, 57, 1, 0, 0) := by decide +kernel
theorem mi_188_109 : mI 188 109 = (15, 36, 4, 145, 0) := by decide +kernel
theorem mi_188_112 : mI 188 112 = (5, 0, 0, 0, 0) := by decide +kernel
theorem mi_188_113 : mI 188 113 = (1, 2, 0, 0, 0) := by decide +kernel
theorem mi_188_114 : mI 188 114 = (18, 44, 19, 9, 2) := by decide +kernel
theorem mi_188_117 : mI 188 117 = (5, 0, 0, 0, 0) := by decide +kernel
theorem mi_188_118 : mI 188 118 = (5, 0, 0, 0, 0) := by decide +kernel
theorem mi_188_119 : mI 188 119 = (3, 0, 1, 0, 0) := by decide +kernel
theorem mi_188_120 : mI 188 120 = (1, 48, 1, 0, 0) := by decide +kernel
theorem mi_188_122 : mI 188 122 = (1, 57, 1, 0, 0) := by decide +kernel
theorem mi_188_124 : mI 188 124 = (26, 376, 35, 189, 0) := by decide +kernel
theorem mi_188_127 : mI 188 127 = (18, 47, 25, 9, 4) := by decide +kernel
theorem mi_188_130 : mI 188 130 = (5, 0, 0, 0, 0) := by decide +kernel
theorem mi_188_131 : mI 188 131 = (5, 0, 0, 0, 0) := by decide +kernel
theorem mi_188_132 : mI 188 132 = (5, 0, 0, 0, 0) := by decide +kernel
theorem mi_188_133 : mI 188 133 = (17, 47, 25, 9, 4) := by decide +kernel
theorem mi_188_136 : mI 188 136 = (26, 380, 39, 190, 0) := by decide +kernel
theorem mi_188_139 : mI 188 139 = (18, 48, 28, 9, 5) := by decide +kernel
theorem mi_188_142 : mI 188 142 = (16, 25, 0, 167, 0) := by decide +kernel
theorem mi_188_145 : mI 188 145 = (5, 0, 0, 0, 0) := by decide +kernel
theorem mi_188_146 : mI 188 146 = (3, 0, 2, 0, 0) := by decide +kernel
theorem mi_188_147 : mI 188 147 = (1, 59, 1, 0, 0) := by decide +kernel
theorem mi_188_149 : mI 188 149 = (15, 7, 1, 156, 0) := by decide +kernel
theorem mi_188_152 : mI 188 152 = (1, 3, 0, 0, 0) := by decide +kernel
theorem mi_188_153 : mI 188 153 = (16, 4, 0, 157, 0) := by decide +kernel
theorem mi_188_156 : mI 188 156 = (1, 4, 0, 0, 0) := by decide +kernel
theorem mi_188_157 : mI 188 157 = (18, 44, 19, 9, 2) := by decide +kernel
theorem mi_188_160 : mI 188 160 = (5, 0, 0, 0, 0) := by decide +kernel
theorem mi_188_161 : mI 188 161 = (3, 0, 1, 0, 0) := by decide +kernel
theorem mi_188_162 : mI 188 162 = (1, 1, 0, 0, 0) := by decide +kernel
theorem mi_188_163 : mI 188 163 = (10, 0, 0, 0, 0) := by decide +kernel
theorem mi_188_164 : mI 188 164 = (18, 47, 25, 9, 4) := by decide +kernel
theorem mi_188_167 : mI 188 167 = (27, 0, 2, 0, 0) := by decide +kernel
theorem mi_189_0 : mI 189 0 = (3, 0, 1, 0, 0) := by decide +kernel
theorem mi_189_1 : mI 189 1 = (6, 0, 4, 1, 0) := by decide +kernel
theorem mi_189_3 : mI 189 3 = (3, 0, 4, 1, 0) := by decide +kernel
theorem mi_189_5 : mI 189 5 = (14, 50, 2, 55, 0) := by decide +kernel
theorem mi_189_8 : mI 189 8 = (3, 0, 4, 1, 0) := by decide +kernel
theorem mi_189_10 : mI 189 10 = (5, 0, 0, 0, 0) := by decide +kernel
theorem mi_189_11 : mI 189 11 = (17, 42, 15, 9, 1) := by decide +kernel
theorem mi_189_14 : mI 189 14 = (15, 41, 3, 55, 0) := by decide +kernel
theorem mi_189_17 : mI 189 17 = (3, 0, 4, 1, 0) := by decide +kernel
theorem mi_189_19 : mI 189 19 = (5, 0, 0, 0, 0) := by decide +kernel
theorem mi_189_20 : mI 189 20 = (17, 40, 9, 9, 0) := by decide +kernel
theorem mi_189_23 : mI 189 23 = (21, 0, 0, 0, 0) := by decide +kernel
theorem mi_189_24 : mI 189 24 = (15, 31, 3, 55, 0) := by decide +kernel
theorem mi_189_27 : mI 189 27 = (5, 0, 0, 0, 0) := by decide +kernel
theorem mi_189_28 : mI 189 28 = (17, 40, 9, 9, 0) := by decide +kernel
theorem mi_189_31 : mI 189 31 = (3, 0, 4, 1, 0) := by decide +kernel
theorem mi_189_33 : mI 189 33 = (19, 0, 1, 0, 0) := by decide +kernel
theorem mi_189_34 : mI 189 34 = (3, 0, 2, 0, 0) := by decide +kernel
theorem mi_189_35 : mI 189 35 = (15, 20, 2, 55, 0) := by decide +kernel
theorem mi_189_38 : mI 189 38 = (5, 0, 0, 0, 0) := by decide +kernel
theorem mi_189_39 : mI 189 39 = (17, 40, 9, 9, 0) := by decide +kernel
theorem mi_189_42 : mI 189 42 = (3, 0, 4, 1, 0) := by decide +kernel
theorem mi_189_44 : mI 189 44 = (19, 0, 1, 0, 0) := by decide +kernel
theorem mi_189_45 : mI 189 45 = (3, 0, 3, 0, 0) := by decide +kernel
theorem mi_189_46 : mI 189 46 = (15, 9, 4, 55, 0) := by decide +kernel
theorem mi_189_49 : mI 189 49 = (9, 1, 4, 0, 0) := by decide +kernel
theorem mi_189_52 : mI 189 52 = (16, (-49), 0, 3, 0) := by decide +kernel
theorem mi_189_55 : mI 189 55 = (3, 0, 4, 1, 0) := by decide +kernel
theorem mi_189_57 : mI 189 57 = (27, 0, 0, 0, 0) := by decide +kernel
theorem mi_190_0 : mI 190 0 = (1, 0, 0, 0, 0) := by decide +kernel
theorem mi_190_1 : mI 190 1 = (6, 0, 2, 0, 0) := by decide +kernel
theorem mi_190_2 : mI 190 2 = (5, 0, 0, 0, 0) := by decide +kernel
theorem mi_190_3 : mI 190 3 = (17, 45, 22, 9, 3) := by decide +kernel
theorem mi_190_6 : mI 190 6 = (6, 0, 3, 0, 0) := by decide +kernel
theorem mi_190_7 : mI 190 7 = (3, 0, 3, 0, 0) := by decide +kernel
theorem mi_190_8 : mI 190 8 = (14, 44, 2, 52, 0) := by decide +kernel
theorem mi_190_11 : mI 190 11 = (3, 0, 3, 0, 0) := by decide +kernel
theorem mi_190_12 : mI 190 12 = (3, 0, 1, 0, 0) := by decide +kernel
theorem mi_190_13 : mI 190 13 = (15, 39, 3, 52, 0) := by decide +kernel
theorem mi_190_16 : mI 190 16 = (3, 0, 3, 0, 0) := by decide +kernel
theorem mi_190_17 : mI 190 17 = (5, 0, 0, 0, 0) := by decide +kernel
theorem mi_190_18 : mI 190 18 = (17, 40, 9, 9, 0) := by decide +kernel
theorem mi_190_21 : mI 190 21 = (21, 0, 0, 0, 0) := by decide +kernel
theorem mi_190_22 : mI 190 22 = (15, 30, 3, 52, 0) := by decide +kernel
theorem mi_190_25 : mI 190 25 = (3, 0, 2, 0, 0) := by decide +kernel
theorem mi_190_26 : mI 190 26 = (1, 1000000, 3, 42, 384) := by decide +kernel
theorem mi_190_28 : mI 190 28 = (15, 24, 3, 52, 0) := by decide +kernel
theorem mi_190_31 : mI 190 31 = (3, 0, 2, 0, 0) := by decide +kernel
theorem mi_190_32 : mI 190 32 = (1, 10, 1, 0, 0) := by decide +kernel
theorem mi_190_34 : mI 190 34 = (10, 0, 2, 0, 0) := by decide +kernel
theorem mi_190_35 : mI 190 35 = (5, 0, 0, 0, 0) := by decide +kernel
theorem mi_190_36 : mI 190 36 = (17, 40, 9, 9, 0) := by decide +kernel
theorem mi_190_39 : mI 190 39 = (3, 0, 3, 0, 0) := by decide +kernel
theorem mi_190_40 : mI 190 40 = (19, 0, 1, 0, 0) := by decide +kernel
theorem mi_190_41 : mI 190 41 = (10, 0, 0, 0, 0) := by decide +kernel
theorem mi_190_42 : mI 190 42 = (1, 48, 1, 0, 0) := by decide +kernel
theorem mi_190_44 : mI 190 44 = (10, 0, 1, 0, 0) := by decide +kernel
theorem mi_190_45 : mI 190 45 = (6, 0, 2, 0, 0) := by decide +kernel
theorem mi_190_46 : mI 190 46 = (9, 1, 3, 0, 0) := by decide +kernel
theorem mi_190_49 : mI 190 49 = (16, (-42), 0, 7, 0) := by decide +kernel
theorem mi_190_52 : mI 190 52 = (3, 0, 2, 0, 0) := by decide +kernel
theorem mi_190_53 : mI 190 53 = (27, 0, 0, 0, 0) := by decide +kernel
theorem mi_191_0 : mI 191 0 = (5, 0, 0, 0, 0) := by decide +kernel
theorem mi_191_1 : mI 191 1 = (17, 44, 19, 9, 2) := by decide +kernel
theorem mi_191_4 : mI 191 4 = (1, 1, 0, 0, 0) := by decide +kernel
theorem mi_191_5 : mI 191 5 = (15, 19, 1, 24, 0) := by decide +kernel
theorem mi_191_8 : mI 191 8 = (5, 0, 1, 0, 0) := by decide +kernel
theorem mi_191_9 : mI 191 9 = (26, 398, 43, 345, 0) := by decide +kernel
theorem mi_191_12 : mI 191 12 = (5, 0, 0, 0, 0) := by decide +kernel
theorem mi_191_13 : mI 191 13 = (17, 47, 25, 9, 4) := by decide +kernel
theorem mi_191_16 : mI 191 16 = (5, 0, 0, 0, 0) := by decide +kernel
theorem mi_191_17 : mI 191 17 = (17, 45, 22, 9, 3) := by decide +kernel
theorem mi_191_20 : mI 191 20 = (10, 0, 1, 0, 0) := by decide +kernel
theorem mi_191_21 : mI 191 21 = (15, 5, 0, 26, 0) := by decide +kernel
theorem mi_191_24 : mI 191 24 = (1, 0, 0, 0, 0) := by decide +kernel
theorem mi_191_25 : mI 191 25 = (27, 0, 0, 0, 0) := by decide +kernel
theorem mi_191_26 : mI 191 26 = (1, 0, 0, 0, 0) := by decide +kernel
theorem mi_191_27 : mI 191 27 = (6, 0, 2, 0, 0) := by decide +kernel
theorem mi_191_28 : mI 191 28 = (3, 0, 2, 0, 0) := by decide +kernel
theorem mi_191_29 : mI 191 29 = (5, 0, 1, 0, 0) := by decide +kernel
theorem mi_191_30 : mI 191 30 = (26, 398, 43, 345, 0) := by decide +kernel
theorem mi_191_33 : mI 191 33 = (15, 29, 3, 62, 0) := by decide +kernel
theorem mi_191_36 : mI 191 36 = (5, 0, 0, 0, 0) := by decide +kernel
theorem mi_191_37 : mI 191 37 = (5, 0, 0, 0, 0) := by decide +kernel
theorem mi_191_38 : mI 191 38 = (17, 45, 22, 9, 3) := by decide +kernel
theorem mi_191_41 : mI 191 41 = (3, 0, 2, 0, 0) := by decide +kernel
theorem mi_191_42 : mI 191 42 = (10, 0, 0, 0, 0) := by decide +kernel
theorem mi_191_43 : mI 191 43 = (26, 372, 31, 186, 0) := by decide +kernel
theorem mi_191_46 : mI 191 46 = (5, 0, 1, 0, 0) := by decide +kernel
theorem mi_191_47 : mI 191 47 = (3, 0, 2, 0, 0) := by decide +kernel
theorem mi_191_48 : mI 191 48 = (26, 408, 49, 346, 0) := by decide +kernel
theorem mi_191_51 : mI 191 51 = (15, 5, 0, 56, 0) := by decide +kernel
theorem mi_191_54 : mI 191 54 = (1, 0, 0, 0, 0) := by decide +kernel
theorem mi_191_55 : mI 191 55 = (27, 0, 0, 0, 0) := by decide +kernel
theorem mi_191_56 : mI 191 56 = (9, 1, 2, 0, 0) := by decide +kernel
theorem mi_191_59 : mI 191 59 = (16, (-31), 0, 28, 0) := by decide +kernel
theorem mi_191_62 : mI 191 62 = (1, 1, 0, 0, 0) := by decide +kernel
theorem mi_191_63 : mI 191 63 = (27, 0, 0, 0, 0) := by decide +kernel
section TKX
variable {l : Launch} {D : va_G} {tys : List (ClassId × FieldType)} {A : Nat → Prop} {ad : Nat → Nat} {ws : va_W}
theorem gx2a : ∃ s, GG[2]? = some ((0, 9, 6), s) ∧ segAt s 0 = some (2, ((3 : Nat) : Int), ((3 : Nat) : Int)) ∧ segAt s 1 = some (0, 0, 1400) ∧ segAt s 2 = some (0, 0, 4) ∧ segAt s 3 = some (0, 0, 1401) ∧ segAt s 4 = some (0, 0, 1401) ∧ segAt s 5 = some (0, -2147483648, 2147483647) := ⟨_, rfl, by decide +kernel, by decide +kernel, by decide +kernel, by decide +kernel, by decide +kernel, by decide +kernel⟩
theorem gt3 : ∃ s, GG[3]? = some ((1, 1, 1400), s) ∧ ∀ j, j < 1400 → segAt s j = some (0, -128, 127) := by
  refine ⟨_, rfl, fun j hj => ?_⟩
  show (bif Nat.blt j 1400 then some _ else _) = _
  rw [show Nat.blt j 1400 = true from Nat.blt_eq.mpr hj]
  rfl
/-- the class's text: how long it is, and its bytes -/
noncomputable def TXX (w : va_W) (n : Nat) (B : Nat → Int) : Prop := rd w 2 1 = some (.int (Int32.ofInt (n : Int))) ∧ n ≤ 1400 ∧ TB w 3 n B
theorem TXX_upd {w w' : va_W} {n j : Nat} {B : Nat → Int} {v : Value} (h : TXX w n B) (hu : Upd1 w w' 2 j v) (hj : j ≠ 1) : TXX w' n B := ⟨(upd_ne hu (fun q => hj q.2.symm)).trans h.1, h.2.1, fun k hk => ⟨(upd_ne hu (by omega)).trans (h.2.2 k hk).1, (h.2.2 k hk).2⟩⟩
theorem ge_n {a b : Nat} (ha : a ≤ 100000) (hb : b ≤ 100000) : cdP 3 (Int32.ofInt (a : Int)) (Int32.ofInt (b : Int)) ↔ b ≤ a := by
  rw [cdP_iff (x := 3) (a := (a : Int)) (b := (b : Int)) (by omega) (by omega) (by omega) (by omega)]
  show 0 ≤ (a : Int) - b ↔ _
  omega
theorem neg_n {a : Nat} (ha : a ≤ 100000) : ¬ cdP 2 (Int32.ofInt (a : Int)) 0 := by
  have h : cdP 2 (Int32.ofInt (a : Int)) 0 ↔ cdZ 2 ((a : Int) - 0) := cdP_iff (x := 2) (a := (a : Int)) (b := 0) (by omega) (by omega) (by omega) (by omega)
  rw [h]
  show ¬ ((a : Int) - 0 < 0)
  omega
theorem cz {x : Nat} {a b : Int} (a1 : -100000 ≤ a) (a2 : a ≤ 100000) (b1 : -100000 ≤ b) (b2 : b ≤ 100000) : cdP x (Int32.ofInt a) (Int32.ofInt b) ↔ cdZ x (a - b) := cdP_iff (by omega) (by omega) (by omega) (by omega)
theorem bytX (hG : GOK ad tys GG ws) {n p : Nat} {B : Nat → Int} (hT : TXX ws n B) (hp : p ≤ 1401) : CT l D tys A 186 0 0 0 [.ref (ad 2), .int (Int32.ofInt (p : Int))] ws (fun r w' => w' = ws ∧ r = some (.int (Int32.ofInt (seeS B n p)))) := by
  obtain ⟨h1, n1, hB⟩ := hT
  obtain ⟨s2, e2, t0, t1, -, -, -, -⟩ := gx2a
  obtain ⟨s3, e3, f3⟩ := gt3
  refine CT_of_V (by omega) (show (2 : Nat) ≤ mML 186 by decide +kernel) ?_
  have lvs : lv_args 0 [Value.ref (ad 2), .int (Int32.ofInt (p : Int))] = [(0, .ref (ad 2)), (1, .int (Int32.ofInt (p : Int)))] := rfl
  rw [lvs]
  refine V_iload (v := Int32.ofInt (p : Int)) mi_186_0 (by simp) ?_
  refine V_if mi_186_1 (fun h => absurd h (neg_n (by omega))) (fun _ => ?_)
  refine V_iload (v := Int32.ofInt (p : Int)) mi_186_4 (by simp) ?_
  refine V_aload (v := ad 2) mi_186_5 (by simp) ?_
  refine V_getO mi_186_6 hG e2 h1 ?_
  have no : ¬ p < n → V l D tys A 186 0 0 0 (fun r w' => w' = ws ∧ r = some (.int (Int32.ofInt (seeS B n p)))) 0 0 34 [(0, .ref (ad 2)), (1, .int (Int32.ofInt (p : Int)))] [] ws := fun h => V_ipush mi_186_34 (V_retI mi_186_35 (fun h => absurd h (by decide +kernel)) ⟨rfl, by unfold seeS; rw [if_neg h]⟩)
  refine V_icmp mi_186_9 (fun h => no (by have := (ge_n (by omega) (by omega)).mp h; omega)) (fun h => ?_)
  have h : p < n := by
    rcases Nat.lt_or_ge p n with q | q
    · exact q
    · exact absurd ((ge_n (by omega) (by omega)).mpr q) h
  obtain ⟨b1, b2, b3⟩ := hB p h
  refine V_iload (v := Int32.ofInt (p : Int)) mi_186_12 (by simp) ?_
  refine V_aload (v := ad 2) mi_186_13 (by simp) ?_
  refine V_getO mi_186_14 hG e2 (rrO e2 t0 (by omega) hG) ?_
  refine V_lenA mi_186_17 hG e3 ?_
  refine V_icmp mi_186_18 (fun q => absurd ((ge_n (b := 1400) (by omega) (by omega)).mp q) (by omega)) (fun _ => ?_)
  refine V_aload (v := ad 2) mi_186_21 (by simp) ?_
  refine V_getO mi_186_22 hG e2 (rrO e2 t0 (by omega) hG) ?_
  refine V_iload (v := Int32.ofInt (p : Int)) mi_186_25 (by simp) ?_
  refine V_bldI (j := p) mi_186_26 rfl hG e3 (by omega) (by omega) b1 ?_
  refine V_ipush mi_186_27 ?_
  refine V_ibin mi_186_30 (by omega) ?_
  rw [and255v b2 b3]
  refine V_goto mi_186_31 ?_
  exact V_retI mi_186_35 (fun h => absurd h (by decide +kernel)) ⟨rfl, by unfold seeS; rw [if_pos h]⟩
/-- a run between two bytes below 128 -/
noncomputable def rgB (lo hi c : Int) : Bool := decide (lo ≤ c) && decide (c ≤ hi)
theorem see_b {B : Nat → Int} {n i : Nat} {w : va_W} {c : Nat} (h : TB w c n B) (hi : i < n) {lo hi' : Int} (l0 : 1 ≤ lo) (h1 : hi' ≤ 127) : rgB lo hi' (seeS B n i) = rgB lo hi' (B i) := by
  obtain ⟨-, b2, b3⟩ := h i hi
  unfold seeS rgB
  rw [if_pos hi]
  by_cases hb : 0 ≤ B i
  · rw [show B i % 256 = B i by omega]
  · rw [decide_eq_false (show ¬ B i % 256 ≤ hi' by omega), decide_eq_false (show ¬ lo ≤ B i by omega)]
    simp
theorem runX (hG : GOK ad tys GG ws) {n i : Nat} {B : Nat → Int} {lo hi' : Int} (hT : TXX ws n B) (l0 : 1 ≤ lo) (l1 : lo ≤ 127) (h0 : 0 ≤ hi') (h1 : hi' ≤ 127) (hi : i ≤ n) : CT l D tys A 189 0 0 0 [.ref (ad 2), .int (Int32.ofInt (i : Int)), .int (Int32.ofInt lo), .int (Int32.ofInt hi')] ws (fun r w' => w' = ws ∧ r = some (.int (Int32.ofInt ((runS (rgB lo hi') B n 1401 i : Nat) : Int)))) := by
  have n1 := hT.2.1
  obtain ⟨s2, e2, t0, t1, -, -, -, -⟩ := gx2a
  obtain ⟨s3, e3, f3⟩ := gt3
  refine CT_of_V (by omega) (show (4 : Nat) ≤ mML 189 by decide +kernel) ?_
  have lvs : lv_args 0 [Value.ref (ad 2), .int (Int32.ofInt (i : Int)), .int (Int32.ofInt lo), .int (Int32.ofInt hi')] = [(0, .ref (ad 2)), (1, .int (Int32.ofInt (i : Int))), (2, .int (Int32.ofInt lo)), (3, .int (Int32.ofInt hi'))] := rfl
  rw [lvs]
  have hP : rgB lo hi' (-1) = false := by unfold rgB; rw [decide_eq_false (show ¬ lo ≤ -1 by omega)]; rfl
  have loop : ∀ (f j : Nat), n - j < f → j ≤ n → runS (rgB lo hi') B n 1401 j = runS (rgB lo hi') B n 1401 i → V l D tys A 189 0 0 0 (fun r w' => w' = ws ∧ r = some (.int (Int32.ofInt ((runS (rgB lo hi') B n 1401 i : Nat) : Int)))) 0 0 3 [(0, .ref (ad 2)), (2, .int (Int32.ofInt lo)), (3, .int (Int32.ofInt hi')), (4, .int (Int32.ofInt (j : Int)))] [] ws := by
    intro f
    induction f with
    | zero => intro j h; omega
    | succ f ih =>
      intro j hf hj er
      have out : rgB lo hi' (seeS B n j) = false → V l D tys A 189 0 0 0 (fun r w' => w' = ws ∧ r = some (.int (Int32.ofInt ((runS (rgB lo hi') B n 1401 i : Nat) : Int)))) 0 0 55 [(0, .ref (ad 2)), (2, .int (Int32.ofInt lo)), (3, .int (Int32.ofInt hi')), (4, .int (Int32.ofInt (j : Int)))] [] ws := by
        intro hb
        refine V_iload (v := Int32.ofInt (j : Int)) mi_189_55 (by simp) ?_
        exact V_retI mi_189_57 (fun h => absurd h (by decide +kernel)) ⟨rfl, by rw [← er, run_stop hb]⟩
      refine V_iload (v := Int32.ofInt (j : Int)) mi_189_3 (by simp) ?_
      refine V_if mi_189_5 (fun h => absurd h (neg_n (by omega))) (fun _ => ?_)
      refine V_iload (v := Int32.ofInt (j : Int)) mi_189_8 (by simp) ?_
      refine V_aload (v := ad 2) mi_189_10 (by simp) ?_
      refine V_getO mi_189_11 hG e2 hT.1 ?_
      refine V_icmp mi_189_14 (fun h => out (by
        have := (ge_n (by omega) (by omega)).mp h
        have e : seeS B n j = -1 := by unfold seeS; rw [if_neg (by omega)]
        rw [e]; exact hP)) (fun h => ?_)
      have hjn : j < n := by
        rcases Nat.lt_or_ge j n with q | q
        · exact q
        · exact absurd ((ge_n (by omega) (by omega)).mpr q) h
      obtain ⟨b1, b2, b3⟩ := hT.2.2 j hjn
      have sb := see_b (lo := lo) (hi' := hi') hT.2.2 hjn l0 h1
      refine V_iload (v := Int32.ofInt (j : Int)) mi_189_17 (by simp) ?_
      refine V_aload (v := ad 2) mi_189_19 (by simp) ?_
      refine V_getO mi_189_20 hG e2 (rrO e2 t0 (by omega) hG) ?_
      refine V_lenA mi_189_23 hG e3 ?_
      refine V_icmp mi_189_24 (fun q => absurd ((ge_n (b := 1400) (by omega) (by omega)).mp q) (by omega)) (fun _ => ?_)
      refine V_aload (v := ad 2) mi_189_27 (by simp) ?_
      refine V_getO mi_189_28 hG e2 (rrO e2 t0 (by omega) hG) ?_
      refine V_iload (v := Int32.ofInt (j : Int)) mi_189_31 (by simp) ?_
      refine V_bldI (j := j) mi_189_33 rfl hG e3 (by omega) (by omega) b1 ?_
      refine V_iload (v := Int32.ofInt lo) mi_189_34 (by simp) ?_
      have c1 := cz (x := 2) (a := B j) (b := lo) (by omega) (by omega) (by omega) (by omega)
      refine V_icmp mi_189_35 (fun h => out (by
        have h : B j - lo < 0 := c1.mp h
        rw [sb]; unfold rgB; rw [decide_eq_false (show ¬ lo ≤ B j by omega)]; rfl)) (fun h2 => ?_)
      have h2 : ¬ (B j - lo < 0) := fun q => h2 (c1.mpr q)
      refine V_aload (v := ad 2) mi_189_38 (by simp) ?_
      refine V_getO mi_189_39 hG e2 (rrO e2 t0 (by omega) hG) ?_
      refine V_iload (v := Int32.ofInt (j : Int)) mi_189_42 (by simp) ?_
      refine V_bldI (j := j) mi_189_44 rfl hG e3 (by omega) (by omega) b1 ?_
      refine V_iload (v := Int32.ofInt hi') mi_189_45 (by simp) ?_
      have c2 := cz (x := 4) (a := B j) (b := hi') (by omega) (by omega) (by omega) (by omega)
      refine V_icmp mi_189_46 (fun h => out (by
        have h : B j - hi' > 0 := c2.mp h
        rw [sb]; unfold rgB; rw [decide_eq_false (show ¬ B j ≤ hi' by omega), Bool.and_false])) (fun h3 => ?_)
      have h3 : ¬ (B j - hi' > 0) := fun q => h3 (c2.mpr q)
      have hb : rgB lo hi' (seeS B n j) = true := by rw [sb]; unfold rgB; rw [decide_eq_true (show lo ≤ B j by omega), decide_eq_true (show B j ≤ hi' by omega)]; rfl
      refine V_iinc (v := Int32.ofInt (j : Int)) mi_189_49 (by simp) ?_
      refine V_goto mi_189_52 ?_
      refine V_sub (lv' := [(0, .ref (ad 2)), (2, .int (Int32.ofInt lo)), (3, .int (Int32.ofInt hi')), (4, .int (Int32.ofInt ((j + 1 : Nat) : Int)))]) (fun p hp => ?_) (ih (j + 1) (by omega) (by omega) (by rw [← er]; exact (run_step hP n1 hj hb).symm))
      simp only [List.mem_cons, List.not_mem_nil, or_false] at hp
      rcases hp with h | h | h | h <;> simp [h, stL, Value.category, Int32.ofInt_add]
  refine V_iload (v := Int32.ofInt (i : Int)) mi_189_0 (by simp) ?_
  refine V_istore mi_189_1 ?_
  refine V_sub (lv' := [(0, .ref (ad 2)), (2, .int (Int32.ofInt lo)), (3, .int (Int32.ofInt hi')), (4, .int (Int32.ofInt (i : Int)))]) (fun p hp => ?_) (loop (n - i + 1) i (by omega) hi rfl)
  simp only [List.mem_cons, List.not_mem_nil, or_false] at hp
  rcases hp with h | h | h | h <;> simp [h, stL, Value.category]
/-- the class's number: cut off once it is above 999999 -/
noncomputable def numXS (B : Nat → Int) (E : Nat) : Nat → Nat → Int → Int
  | 0, _, v => v
  | f + 1, i, v => if i < E ∧ v < 1000000 then numXS B E f (i + 1) (v * 10 + B i - 48) else v
theorem num_cap {B : Nat → Int} {n : Nat} : ∀ {f i : Nat}, numS B n f i 99999 = 99999
  | 0, i => rfl
  | f + 1, i => by
    unfold numS
    split
    · next hp =>
      have hd : 48 ≤ seeS B n i := by
        unfold diB at hp
        rw [Bool.and_eq_true] at hp
        exact of_decide_eq_true hp.1
      rw [show min 99999 (10 * 99999 + seeS B n i - 48) = (99999 : Int) by omega]
      exact num_cap
    · rfl
end TKX
section TKY
variable {l : Launch} {D : va_G} {tys : List (ClassId × FieldType)} {A : Nat → Prop} {ad : Nat → Nat} {ws : va_W}
theorem dig_b {B : Nat → Int} {n i : Nat} {w : va_W} {c : Nat} (h : TB w c n B) (hi : i < n) (hd : diB (seeS B n i) = true) : 48 ≤ B i ∧ B i ≤ 57 ∧ seeS B n i = B i := by
  obtain ⟨-, b2, b3⟩ := h i hi
  unfold diB at hd
  rw [Bool.and_eq_true] at hd
  have d1 := of_decide_eq_true hd.1
  have d2 := of_decide_eq_true hd.2
  unfold seeS at d1 d2 ⊢
  rw [if_pos hi] at d1 d2 ⊢
  omega
/-- every byte of a run -/
theorem run_all {P : Int → Bool} {B : Nat → Int} {n : Nat} (hP : P (-1) = false) : ∀ {f i j : Nat}, i ≤ n → n - i < f → i ≤ j → j < runS P B n f i → P (seeS B n j) = true ∧ j < n
  | 0, i, j, _, h, _, _ => by omega
  | f + 1, i, j, hi, hf, h1, h2 => by
    unfold runS at h2
    split at h2
    · next hp =>
      have hl : i < n := see_lt (fun e => by rw [e, hP] at hp; cases hp)
      by_cases e : i = j
      · subst e; exact ⟨hp, hl⟩
      · exact run_all hP (by omega) (by omega) (by omega) h2
    · omega
theorem num_rel {B : Nat → Int} {n E : Nat} {w : va_W} {c : Nat} (hB : TB w c n B) (hE : E ≤ n) (he : diB (seeS B n E) = false) : ∀ (f g i : Nat) (v : Int), E - i < f → n - i < g → i ≤ E → 0 ≤ v → (∀ j, i ≤ j → j < E → diB (seeS B n j) = true) → min 99999 (numXS B E f i v) = numS B n g i (min 99999 v) ∧ 0 ≤ numXS B E f i v
  | 0, g, i, v, h, _, _, _, _ => by omega
  | _, 0, i, v, _, h, _, _, _ => by omega
  | f + 1, g + 1, i, v, h1, h2, hi, hv, hd => by
    by_cases hiE : i < E
    · have hdi := hd i (Nat.le_refl _) hiE
      obtain ⟨b1, b2, b3⟩ := dig_b hB (by omega) hdi
      by_cases hv6 : v < 1000000
      · have e1 : numXS B E (f + 1) i v = numXS B E f (i + 1) (v * 10 + B i - 48) := by
          show (if i < E ∧ v < 1000000 then _ else v) = _
          rw [if_pos ⟨hiE, hv6⟩]
        have e2 : numS B n (g + 1) i (min 99999 v) = numS B n g (i + 1) (min 99999 (10 * min 99999 v + seeS B n i - 48)) := by
          show (if diB (seeS B n i) = true then _ else _) = _
          rw [if_pos hdi]
        rw [e1, e2, b3, show min 99999 (10 * min 99999 v + B i - 48) = min 99999 (v * 10 + B i - 48) by omega]
        exact num_rel hB hE he f g (i + 1) (v * 10 + B i - 48) (by omega) (by omega) (by omega) (by omega) (fun j a b => hd j (by omega) b)
      · have e1 : numXS B E (f + 1) i v = v := by
          show (if i < E ∧ v < 1000000 then _ else v) = _
          rw [if_neg (fun q => hv6 q.2)]
        rw [e1, show min 99999 v = 99999 by omega]
        exact ⟨num_cap.symm, hv⟩
    · have e : i = E := by omega
      subst e
      have e1 : numXS B i (f + 1) i v = v := by
        show (if i < i ∧ v < 1000000 then _ else v) = _
        rw [if_neg (fun q => hiE q.1)]
      have e2 : numS B n (g + 1) i (min 99999 v) = min 99999 v := by
        show (if diB (seeS B n i) = true then _ else _) = _
        rw [if_neg (by rw [he]; exact Bool.false_ne_true)]
      rw [e1, e2]
      exact ⟨rfl, hv⟩
theorem numX_ct (hG : GOK ad tys GG ws) {n S E : Nat} {B : Nat → Int} (hT : TXX ws n B) (hS : rd ws 2 3 = some (.int (Int32.ofInt (S : Int)))) (hSE : S ≤ E) (hE : E ≤ n) (hd : ∀ j, S ≤ j → j < E → diB (seeS B n j) = true) : CT l D tys A 190 0 0 0 [.ref (ad 2), .int (Int32.ofInt (E : Int))] ws (fun r w' => w' = ws ∧ r = some (.int (Int32.ofInt (numXS B E 1401 S 0)))) := by
  have n1 := hT.2.1
  obtain ⟨s2, e2, t0, t1, -, t3, -, -⟩ := gx2a
  obtain ⟨s3, e3, f3⟩ := gt3
  refine CT_of_V (by omega) (show (2 : Nat) ≤ mML 190 by decide +kernel) ?_
  have lvs : lv_args 0 [Value.ref (ad 2), .int (Int32.ofInt (E : Int))] = [(0, .ref (ad 2)), (1, .int (Int32.ofInt (E : Int)))] := rfl
  rw [lvs]
  have loop : ∀ (f j : Nat) (v : Int), E - j < f → j ≤ E → S ≤ j → 0 ≤ v → v ≤ 10000000 → numXS B E f j v = numXS B E 1401 S 0 → V l D tys A 190 0 0 0 (fun r w' => w' = ws ∧ r = some (.int (Int32.ofInt (numXS B E 1401 S 0)))) 0 0 7 [(0, .ref (ad 2)), (1, .int (Int32.ofInt (E : Int))), (2, .int (Int32.ofInt v)), (3, .int (Int32.ofInt (j : Int)))] [] ws := by
    intro f
    induction f with
    | zero => intro j v h; omega
    | succ f ih =>
      intro j v hf hj hSj v0 v1 er
      have out : ¬ (j < E ∧ v < 1000000) → V l D tys A 190 0 0 0 (fun r w' => w' = ws ∧ r = some (.int (Int32.ofInt (numXS B E 1401 S 0)))) 0 0 52 [(0, .ref (ad 2)), (1, .int (Int32.ofInt (E : Int))), (2, .int (Int32.ofInt v)), (3, .int (Int32.ofInt (j : Int)))] [] ws := by
        intro hn
        refine V_iload (v := Int32.ofInt v) mi_190_52 (by simp) ?_
        refine V_retI mi_190_53 (fun h => absurd h (by decide +kernel)) ⟨rfl, ?_⟩
        rw [← er]
        show some (Value.int (Int32.ofInt v)) = some (.int (Int32.ofInt (if j < E ∧ v < 1000000 then _ else v)))
        rw [if_neg hn]
      refine V_iload (v := Int32.ofInt (j : Int)) mi_190_7 (by simp) ?_
      refine V_if mi_190_8 (fun h => absurd h (neg_n (by omega))) (fun _ => ?_)
      refine V_iload (v := Int32.ofInt (j : Int)) mi_190_11 (by simp) ?_
      refine V_iload (v := Int32.ofInt (E : Int)) mi_190_12 (by simp) ?_
      refine V_icmp mi_190_13 (fun h => out (by have := (ge_n (by omega) (by omega)).mp h; omega)) (fun h => ?_)
      have hjE : j < E := by
        rcases Nat.lt_or_ge j E with q | q
        · exact q
        · exact absurd ((ge_n (by omega) (by omega)).mpr q) h
      obtain ⟨b1, b2, b3⟩ := hT.2.2 j (by omega)
      obtain ⟨d1, d2, d3⟩ := dig_b hT.2.2 (by omega) (hd j hSj hjE)
      refine V_iload (v := Int32.ofInt (j : Int)) mi_190_16 (by simp) ?_
      refine V_aload (v := ad 2) mi_190_17 (by simp) ?_
      refine V_getO mi_190_18 hG e2 (rrO e2 t0 (by omega) hG) ?_
      refine V_lenA mi_190_21 hG e3 ?_
      refine V_icmp mi_190_22 (fun q => absurd ((ge_n (b := 1400) (by omega) (by omega)).mp q) (by omega)) (fun _ => ?_)
      refine V_iload (v := Int32.ofInt v) mi_190_25 (by simp) ?_
      refine V_ipush mi_190_26 ?_
      have c6 := cdP_iff (x := 3) (a := v) (b := 1000000) (by omega) (by omega) (by omega) (by omega)
      refine V_icmp mi_190_28 (fun h => out (by have h : 0 ≤ v - 1000000 := c6.mp h; omega)) (fun h6 => ?_)
      have h6 : ¬ (0 ≤ v - 1000000) := fun q => h6 (c6.mpr q)
      refine V_iload (v := Int32.ofInt v) mi_190_31 (by simp) ?_
      refine V_ipush mi_190_32 ?_
      refine V_ibin mi_190_34 (by omega) ?_
      refine V_aload (v := ad 2) mi_190_35 (by simp) ?_
      refine V_getO mi_190_36 hG e2 (rrO e2 t0 (by omega) hG) ?_
      refine V_iload (v := Int32.ofInt (j : Int)) mi_190_39 (by simp) ?_
      refine V_bldI (j := j) mi_190_40 rfl hG e3 (by omega) (by omega) b1 ?_
      refine V_ibin mi_190_41 (by omega) ?_
      refine V_ipush mi_190_42 ?_
      refine V_ibin mi_190_44 (by omega) ?_
      rw [show ibF 1 (ibF 0 (ibF 2 (Int32.ofInt v) (Int32.ofInt 10)) (Int32.ofInt (B j))) (Int32.ofInt 48) = Int32.ofInt (v * 10 + B j - 48) by show Int32.ofInt v * Int32.ofInt 10 + Int32.ofInt (B j) - Int32.ofInt 48 = _; rw [← Int32.ofInt_mul, ← Int32.ofInt_add, ← Int32.ofInt_sub]]
      refine V_istore mi_190_45 ?_
      refine V_iinc (v := Int32.ofInt (j : Int)) mi_190_46 (by simp [stL, Value.category]) ?_
      refine V_goto mi_190_49 ?_
      refine V_sub (lv' := [(0, .ref (ad 2)), (1, .int (Int32.ofInt (E : Int))), (2, .int (Int32.ofInt (v * 10 + B j - 48))), (3, .int (Int32.ofInt ((j + 1 : Nat) : Int)))]) (fun p hp => ?_) (ih (j + 1) (v * 10 + B j - 48) (by omega) (by omega) (by omega) (by omega) (by omega) (by
        rw [← er]
        show _ = (if j < E ∧ v < 1000000 then _ else v)
        rw [if_pos ⟨hjE, by omega⟩]))
      simp only [List.mem_cons, List.not_mem_nil, or_false] at hp
      rcases hp with h | h | h | h <;> simp [h, stL, Value.category, Int32.ofInt_add]
  refine V_ipush mi_190_0 ?_
  refine V_istore mi_190_1 ?_
  refine V_aload (v := ad 2) mi_190_2 (by simp [stL, Value.category]) ?_
  refine V_getO mi_190_3 hG e2 hS ?_
  refine V_istore mi_190_6 ?_
  refine V_sub (lv' := [(0, .ref (ad 2)), (1, .int (Int32.ofInt (E : Int))), (2, .int (Int32.ofInt 0)), (3, .int (Int32.ofInt (S : Int)))]) (fun p hp => ?_) (loop 1401 S 0 (by omega) hSE (Nat.le_refl _) (by omega) (by omega) rfl)
  simp only [List.mem_cons, List.not_mem_nil, or_false] at hp
  rcases hp with h | h | h | h <;> simp [h, stL, Value.category]
/-- nothing but the token's four places, on the class's side -/
noncomputable def TXO (w0 w : va_W) : Prop := ∀ c j, ¬ (c = 2 ∧ 2 ≤ j ∧ j ≤ 5) → rd w c j = rd w0 c j
theorem TXO_rf {w : va_W} : TXO w w := fun _ _ _ => rfl
theorem TXO_upd {w0 w w' : va_W} {j : Nat} {v : Value} (h : TXO w0 w) (hu : Upd1 w w' 2 j v) (h8 : 2 ≤ j) (h11 : j ≤ 5) : TXO w0 w' := fun c' j' hn => (upd_ne hu (fun q => hn ⟨q.1, by omega, by omega⟩)).trans (h c' j' hn)
/-- the number behind a token, on the class's side -/
noncomputable def tkN (B : Nat → Int) (n a : Nat) (v : Int) : Int := if tkC B n a = -1 then v else if leB (tkC B n a) = true then v else if diB (tkC B n a) = true then numXS B (tkE B n a) 1401 (tkI B n a) 0 else v
noncomputable def ADX (ad : Nat → Nat) (tys : List (ClassId × FieldType)) (B : Nat → Int) (n a : Nat) (v0 : Int) (w0 : va_W) (r : Option Value) (w : va_W) : Prop := r = none ∧ GOK ad tys GG w ∧ TXO w0 w ∧ rd w 2 2 = some (.int (Int32.ofInt (tkK B n a))) ∧ rd w 2 3 = some (.int (Int32.ofInt (tkI B n a : Int))) ∧ rd w 2 4 = some (.int (Int32.ofInt (tkE B n a : Int))) ∧ rd w 2 5 = some (.int (Int32.ofInt (tkN B n a v0)))
end TKY
section PUO
variable {l : Launch} {D : va_G} {tys : List (ClassId × FieldType)} {A : Nat → Prop} {ad : Nat → Nat} {ws : va_W} {k d : Nat} {post : Option Value → va_W → Prop} {pc : Nat} {lv : List (Nat × Value)} {st : List Value} {a : Int} {x y z : Nat}
end PUO
section TKZ
variable {l : Launch} {D : va_G} {tys : List (ClassId × FieldType)} {A : Nat → Prop} {ad : Nat → Nat} {ws : va_W}
noncomputable def LX1 (ad : Nat → Nat) (i : Nat) : List (Nat × Value) := [(0, .ref (ad 2)), (1, .int (Int32.ofInt (i : Int)))]
theorem lt_i {a b : Int} (a1 : -100000 ≤ a) (a2 : a ≤ 100000) (b1 : -100000 ≤ b) (b2 : b ≤ 100000) : cdP 2 (Int32.ofInt a) (Int32.ofInt b) ↔ a < b := by
  rw [cz a1 a2 b1 b2]
  show a - b < 0 ↔ _
  omega
theorem gt_i {a b : Int} (a1 : -100000 ≤ a) (a2 : a ≤ 100000) (b1 : -100000 ≤ b) (b2 : b ≤ 100000) : cdP 4 (Int32.ofInt a) (Int32.ofInt b) ↔ b < a := by
  rw [cz a1 a2 b1 b2]
  show a - b > 0 ↔ _
  omega
theorem adx_39 {w0 w : va_W} {n i a : Nat} {B : Nat → Int} {v0 : Int} (G : GOK ad tys GG w) (T : TXX w n B) (O : TXO w0 w) (hi : i ≤ n) (h5 : rd w 2 5 = some (.int (Int32.ofInt v0))) (ei : tkI B n a = i) (eb : blB (seeS B n i) = false) : V l D tys A 188 1 0 0 (ADX ad tys B n a v0 w0) 0 0 39 (LX1 ad i) [] w := by
  have n1 := T.2.1
  obtain ⟨m0, m1⟩ := see_bd B n i
  obtain ⟨s2, e2, t0, t1, t2, t3, t4, t5⟩ := gx2a
  have ta : (Int32.ofInt (i : Int)).toInt = (i : Int) := Int32.toInt_ofInt_of_le (by omega) (by omega)
  have hpl : leB (-1) = false := by decide
  have hpd : diB (-1) = false := by decide
  refine V_aload (v := ad 2) mi_188_39 (by simp [LX1]) ?_
  refine V_iload (v := Int32.ofInt (i : Int)) mi_188_40 (by simp [LX1]) ?_
  refine V_putO mi_188_41 G e2 t3 (by omega) rfl (by decide +kernel) (by omega) (by omega) (fun w1 G1 U1 => ?_)
  have T1 := TXX_upd T U1 (by omega)
  have O1 := TXO_upd O U1 (by omega) (by omega)
  have g3 : rd w1 2 3 = some (.int (Int32.ofInt (i : Int))) := upd_eq U1
  have g5 : rd w1 2 5 = some (.int (Int32.ofInt v0)) := (upd_ne U1 (by omega)).trans h5
  refine V_aload (v := ad 2) mi_188_44 (by simp [LX1]) ?_
  refine V_iload (v := Int32.ofInt (i : Int)) mi_188_45 (by simp [LX1]) ?_
  refine V_callO (c := 2) (As := [.int (Int32.ofInt (i : Int))]) (st := []) mi_188_46 (by omega) (by decide +kernel) (show mCi 186 = 9 by decide +kernel) (by omega) e2 G1 (bytX G1 T1 (by omega)) (by omega) (show 1 = mN 186 by decide +kernel) (by simp) ?_
  rintro r w' ⟨rfl, rfl⟩
  refine V_istore mi_188_49 ?_
  have l0 : (0, Value.ref (ad 2)) ∈ stL 2 (.int (Int32.ofInt (seeS B n i))) (LX1 ad i) := by simp [stL, LX1, Value.category]
  have l1 : (1, Value.int (Int32.ofInt (i : Int))) ∈ stL 2 (.int (Int32.ofInt (seeS B n i))) (LX1 ad i) := by simp [stL, LX1, Value.category]
  have l2 : (2, Value.int (Int32.ofInt (seeS B n i))) ∈ stL 2 (.int (Int32.ofInt (seeS B n i))) (LX1 ad i) := by simp [stL]
  refine V_iload (v := Int32.ofInt (seeS B n i)) mi_188_50 l2 ?_
  have c0 : cdP 3 (Int32.ofInt (seeS B n i)) 0 ↔ cdZ 3 (seeS B n i - 0) := cdP_iff (x := 3) (a := seeS B n i) (b := 0) (by omega) (by omega) (by omega) (by omega)
  by_cases hm1 : seeS B n i = -1
  · refine V_if mi_188_51 (fun h => absurd (show 0 ≤ seeS B n i - 0 from c0.mp h) (by omega)) (fun _ => ?_)
    refine V_aload (v := ad 2) mi_188_54 l0 ?_
    refine V_ipush mi_188_55 ?_
    refine V_putO mi_188_56 G1 e2 t2 (by omega) rfl (by decide +kernel) (by decide) (by decide) (fun w2 G2 U2 => ?_)
    refine V_aload (v := ad 2) mi_188_59 l0 ?_
    refine V_iload (v := Int32.ofInt (i : Int)) mi_188_60 l1 ?_
    refine V_putO mi_188_61 G2 e2 t4 (by omega) rfl (by decide +kernel) (by omega) (by omega) (fun w3 G3 U3 => ?_)
    refine V_goto mi_188_64 ?_
    unfold ADX tkK tkN tkE tkC
    rw [ei, if_pos hm1, if_pos hm1, if_pos hm1]
    exact V_retV mi_188_167 ⟨rfl, G3, TXO_upd (TXO_upd O1 U2 (by omega) (by omega)) U3 (by omega) (by omega), (upd_ne U3 (by omega)).trans (upd_eq U2), (upd_ne U3 (by omega)).trans ((upd_ne U2 (by omega)).trans g3), upd_eq U3, (upd_ne U3 (by omega)).trans ((upd_ne U2 (by omega)).trans g5)⟩
  have hin : i < n := see_lt hm1
  refine V_if mi_188_51 (fun _ => ?_) (fun h => absurd (c0.mpr (show 0 ≤ seeS B n i - 0 by omega)) h)
  have other : leB (seeS B n i) = false → V l D tys A 188 1 0 0 (ADX ad tys B n a v0 w0) 0 0 100 (stL 2 (.int (Int32.ofInt (seeS B n i))) (LX1 ad i)) [] w' := by
    intro hl
    have sign : diB (seeS B n i) = false → V l D tys A 188 1 0 0 (ADX ad tys B n a v0 w0) 0 0 145 (stL 2 (.int (Int32.ofInt (seeS B n i))) (LX1 ad i)) [] w' := by
      intro hd
      have fin : ∀ t : Int, 0 ≤ t → t ≤ 4 → t = (if seeS B n i = 59 then 3 else 4) → V l D tys A 188 1 0 0 (ADX ad tys B n a v0 w0) 0 0 157 (stL 2 (.int (Int32.ofInt (seeS B n i))) (LX1 ad i)) [.int (Int32.ofInt t), .ref (ad 2)] w' := by
        intro t q0 q4 et
        have tt : (Int32.ofInt t).toInt = t := Int32.toInt_ofInt_of_le (by omega) (by omega)
        refine V_putO mi_188_157 G1 e2 t2 (by omega) rfl (by decide +kernel) (by omega) (by omega) (fun w2 G2 U2 => ?_)
        refine V_aload (v := ad 2) mi_188_160 l0 ?_
        refine V_iload (v := Int32.ofInt (i : Int)) mi_188_161 l1 ?_
        refine V_ipush mi_188_162 ?_
        refine V_ibin mi_188_163 (by omega) ?_
        rw [addn1]
        have t1' : (Int32.ofInt ((i + 1 : Nat) : Int)).toInt = ((i + 1 : Nat) : Int) := Int32.toInt_ofInt_of_le (by omega) (by omega)
        refine V_putO mi_188_164 G2 e2 t4 (by omega) rfl (by decide +kernel) (by omega) (by omega) (fun w3 G3 U3 => ?_)
        unfold ADX tkK tkN tkE tkC
        rw [ei, if_neg hm1, if_neg hm1, if_neg hm1, hl, hd]
        simp only [Bool.false_eq_true, if_false]
        rw [← et]
        exact V_retV mi_188_167 ⟨rfl, G3, TXO_upd (TXO_upd O1 U2 (by omega) (by omega)) U3 (by omega) (by omega), (upd_ne U3 (by omega)).trans (upd_eq U2), (upd_ne U3 (by omega)).trans ((upd_ne U2 (by omega)).trans g3), upd_eq U3, (upd_ne U3 (by omega)).trans ((upd_ne U2 (by omega)).trans g5)⟩
      refine V_aload (v := ad 2) mi_188_145 l0 ?_
      refine V_iload (v := Int32.ofInt (seeS B n i)) mi_188_146 l2 ?_
      refine V_ipush mi_188_147 ?_
      have h59 := cdP_iff (x := 1) (a := seeS B n i) (b := 59) (by omega) (by omega) (by omega) (by omega)
      refine V_icmp mi_188_149 (fun h => ?_) (fun h => ?_)
      · have h : seeS B n i - 59 ≠ 0 := h59.mp h
        refine V_ipush mi_188_156 ?_
        exact fin 4 (by omega) (by omega) (by rw [if_neg (by omega)])
      · have h : ¬ (seeS B n i - 59 ≠ 0) := fun q => h (h59.mpr q)
        refine V_ipush mi_188_152 ?_
        refine V_goto mi_188_153 ?_
        exact fin 3 (by omega) (by omega) (by rw [if_pos (by omega)])
    refine V_iload (v := Int32.ofInt (seeS B n i)) mi_188_100 l2 ?_
    refine V_ipush mi_188_101 ?_
    refine V_icmp mi_188_103 (fun h => sign (by
      have := (lt_i (by omega) (by omega) (by omega) (by omega)).mp h
      unfold diB; rw [decide_eq_false (show ¬ (48 : Int) ≤ seeS B n i by omega)]; rfl)) (fun h48 => ?_)
    have h48 : ¬ seeS B n i < 48 := fun q => h48 ((lt_i (by omega) (by omega) (by omega) (by omega)).mpr q)
    refine V_iload (v := Int32.ofInt (seeS B n i)) mi_188_106 l2 ?_
    refine V_ipush mi_188_107 ?_
    refine V_icmp mi_188_109 (fun h => sign (by
      have := (gt_i (by omega) (by omega) (by omega) (by omega)).mp h
      unfold diB; rw [decide_eq_false (show ¬ seeS B n i ≤ 57 by omega), Bool.and_false])) (fun h57 => ?_)
    have h57 : ¬ 57 < seeS B n i := fun q => h57 ((gt_i (by omega) (by omega) (by omega) (by omega)).mpr q)
    have hd : diB (seeS B n i) = true := by unfold diB; rw [decide_eq_true (show (48 : Int) ≤ seeS B n i by omega), decide_eq_true (show seeS B n i ≤ 57 by omega)]; rfl
    have eE : tkE B n a = runS diB B n 1401 i := by
      unfold tkE tkC
      rw [ei, if_neg hm1, hl, hd]
      simp only [Bool.false_eq_true, if_false, if_true]
    have hle := run_le (B := B) hpd (f := 1401) hi
    have hge : i ≤ runS diB B n 1401 i := run_ge
    have te : (Int32.ofInt ((runS diB B n 1401 i : Nat) : Int)).toInt = ((runS diB B n 1401 i : Nat) : Int) := Int32.toInt_ofInt_of_le (by omega) (by omega)
    refine V_aload (v := ad 2) mi_188_112 l0 ?_
    refine V_ipush mi_188_113 ?_
    refine V_putO mi_188_114 G1 e2 t2 (by omega) rfl (by decide +kernel) (by decide) (by decide) (fun w2 G2 U2 => ?_)
    have T2 := TXX_upd T1 U2 (by omega)
    have O2 := TXO_upd O1 U2 (by omega) (by omega)
    refine V_aload (v := ad 2) mi_188_117 l0 ?_
    refine V_aload (v := ad 2) mi_188_118 l0 ?_
    refine V_iload (v := Int32.ofInt (i : Int)) mi_188_119 l1 ?_
    refine V_ipush mi_188_120 ?_
    refine V_ipush mi_188_122 ?_
    refine V_callO (c := 2) (As := [.int (Int32.ofInt (i : Int)), .int (Int32.ofInt 48), .int (Int32.ofInt 57)]) (st := [.ref (ad 2)]) mi_188_124 (by omega) (by decide +kernel) (show mCi 189 = 9 by decide +kernel) (by omega) e2 G2 (runX G2 T2 (by omega) (by omega) (by omega) (by omega) hi) (by omega) (show 3 = mN 189 by decide +kernel) (by simp [Value.category]) ?_
    rintro r w'' ⟨rfl, rfl⟩
    refine V_putO mi_188_127 G2 e2 t4 (by omega) rfl (by decide +kernel) (by show (0 : Int) ≤ (Int32.ofInt ((runS diB B n 1401 i : Nat) : Int)).toInt; omega) (by show (Int32.ofInt ((runS diB B n 1401 i : Nat) : Int)).toInt ≤ 1401; omega) (fun w3 G3 U3 => ?_)
    have T3 := TXX_upd T2 U3 (by omega)
    have O3 := TXO_upd O2 U3 (by omega) (by omega)
    have q3 : rd w3 2 3 = some (.int (Int32.ofInt (i : Int))) := (upd_ne U3 (by omega)).trans ((upd_ne U2 (by omega)).trans g3)
    refine V_aload (v := ad 2) mi_188_130 l0 ?_
    refine V_aload (v := ad 2) mi_188_131 l0 ?_
    refine V_aload (v := ad 2) mi_188_132 l0 ?_
    refine V_getO mi_188_133 G3 e2 (upd_eq U3) ?_
    refine V_callO (c := 2) (As := [.int (Int32.ofInt ((runS diB B n 1401 i : Nat) : Int))]) (st := [.ref (ad 2)]) mi_188_136 (by omega) (by decide +kernel) (show mCi 190 = 9 by decide +kernel) (by omega) e2 G3 (numX_ct G3 T3 q3 hge hle (fun j a b => (run_all hpd hi (by omega) a b).1)) (by omega) (show 1 = mN 190 by decide +kernel) (by simp [Value.category]) ?_
    rintro r w''' ⟨rfl, rfl⟩
    have b1 := Int32.le_toInt (Int32.ofInt (numXS B (runS diB B n 1401 i) 1401 i 0))
    have b2 := Int32.toInt_lt (Int32.ofInt (numXS B (runS diB B n 1401 i) 1401 i 0))
    refine V_putO mi_188_139 G3 e2 t5 (by omega) rfl (by decide +kernel) (by omega) (by omega) (fun w4 G4 U4 => ?_)
    refine V_goto mi_188_142 ?_
    refine V_retV mi_188_167 ⟨rfl, G4, TXO_upd O3 U4 (by omega) (by omega), ?_, ?_, ?_, ?_⟩
    · rw [upd_ne U4 (by omega), upd_ne U3 (by omega), upd_eq U2]
      unfold tkK tkC
      rw [ei, if_neg hm1, hl, hd]
      rfl
    · rw [upd_ne U4 (by omega), q3, ei]
    · rw [upd_ne U4 (by omega), eE]
      exact upd_eq U3
    · rw [upd_eq U4]
      unfold tkN tkC
      rw [ei, if_neg hm1, hl, hd, eE]
      rfl
  refine V_iload (v := Int32.ofInt (seeS B n i)) mi_188_67 l2 ?_
  refine V_ipush mi_188_68 ?_
  refine V_icmp mi_188_70 (fun h => other (by
    have := (lt_i (by omega) (by omega) (by omega) (by omega)).mp h
    unfold leB; rw [decide_eq_false (show ¬ (97 : Int) ≤ seeS B n i by omega)]; rfl)) (fun h97 => ?_)
  have h97 : ¬ seeS B n i < 97 := fun q => h97 ((lt_i (by omega) (by omega) (by omega) (by omega)).mpr q)
  refine V_iload (v := Int32.ofInt (seeS B n i)) mi_188_73 l2 ?_
  refine V_ipush mi_188_74 ?_
  refine V_icmp mi_188_76 (fun h => other (by
    have := (gt_i (by omega) (by omega) (by omega) (by omega)).mp h
    unfold leB; rw [decide_eq_false (show ¬ seeS B n i ≤ 122 by omega), Bool.and_false])) (fun h122 => ?_)
  have h122 : ¬ 122 < seeS B n i := fun q => h122 ((gt_i (by omega) (by omega) (by omega) (by omega)).mpr q)
  have hl : leB (seeS B n i) = true := by unfold leB; rw [decide_eq_true (show (97 : Int) ≤ seeS B n i by omega), decide_eq_true (show seeS B n i ≤ 122 by omega)]; rfl
  have hle := run_le (B := B) hpl (f := 1401) hi
  have te : (Int32.ofInt ((runS leB B n 1401 i : Nat) : Int)).toInt = ((runS leB B n 1401 i : Nat) : Int) := Int32.toInt_ofInt_of_le (by omega) (by omega)
  refine V_aload (v := ad 2) mi_188_79 l0 ?_
  refine V_ipush mi_188_80 ?_
  refine V_putO mi_188_81 G1 e2 t2 (by omega) rfl (by decide +kernel) (by decide) (by decide) (fun w2 G2 U2 => ?_)
  have T2 := TXX_upd T1 U2 (by omega)
  have O2 := TXO_upd O1 U2 (by omega) (by omega)
  refine V_aload (v := ad 2) mi_188_84 l0 ?_
  refine V_aload (v := ad 2) mi_188_85 l0 ?_
  refine V_iload (v := Int32.ofInt (i : Int)) mi_188_86 l1 ?_
  refine V_ipush mi_188_87 ?_
  refine V_ipush mi_188_89 ?_
  refine V_callO (c := 2) (As := [.int (Int32.ofInt (i : Int)), .int (Int32.ofInt 97), .int (Int32.ofInt 122)]) (st := [.ref (ad 2)]) mi_188_91 (by omega) (by decide +kernel) (show mCi 189 = 9 by decide +kernel) (by omega) e2 G2 (runX G2 T2 (by omega) (by omega) (by omega) (by omega) hi) (by omega) (show 3 = mN 189 by decide +kernel) (by simp [Value.category]) ?_
  rintro r w'' ⟨rfl, rfl⟩
  refine V_putO mi_188_94 G2 e2 t4 (by omega) rfl (by decide +kernel) (by show (0 : Int) ≤ (Int32.ofInt ((runS leB B n 1401 i : Nat) : Int)).toInt; omega) (by show (Int32.ofInt ((runS leB B n 1401 i : Nat) : Int)).toInt ≤ 1401; omega) (fun w3 G3 U3 => ?_)
  refine V_goto mi_188_97 ?_
  unfold ADX tkK tkN tkE tkC
  rw [ei, if_neg hm1, if_neg hm1, if_neg hm1, hl]
  exact V_retV mi_188_167 ⟨rfl, G3, TXO_upd O2 U3 (by omega) (by omega), (upd_ne U3 (by omega)).trans (upd_eq U2), (upd_ne U3 (by omega)).trans ((upd_ne U2 (by omega)).trans g3), upd_eq U3, (upd_ne U3 (by omega)).trans ((upd_ne U2 (by omega)).trans g5)⟩
theorem adx_5 {w : va_W} {n a : Nat} {B : Nat → Int} {v0 : Int} (G : GOK ad tys GG w) (T : TXX w n B) (h5 : rd w 2 5 = some (.int (Int32.ofInt v0))) : ∀ (f i : Nat), n - i < f → i ≤ n → tkI B n a = runS blB B n 1401 i → V l D tys A 188 1 0 0 (ADX ad tys B n a v0 w) 0 0 5 (LX1 ad i) [] w
  | 0, i, h, _, _ => by omega
  | f + 1, i, h, hi, ei => by
    have n1 := T.2.1
    obtain ⟨m0, m1⟩ := see_bd B n i
    obtain ⟨s2, e2, t0, t1, t2, t3, t4, t5⟩ := gx2a
    have out : blB (seeS B n i) = false → V l D tys A 188 1 0 0 (ADX ad tys B n a v0 w) 0 0 39 (LX1 ad i) [] w := fun hb => adx_39 G T TXO_rf hi h5 (ei.trans (run_stop hb)) hb
    have go33 : blB (seeS B n i) = true → V l D tys A 188 1 0 0 (ADX ad tys B n a v0 w) 0 0 33 (LX1 ad i) [] w := by
      intro hb
      have hin : i < n := see_lt (fun e => by rw [e] at hb; exact absurd hb (by decide))
      refine V_iinc (v := Int32.ofInt (i : Int)) mi_188_33 (by simp [LX1]) ?_
      refine V_goto mi_188_36 ?_
      refine V_sub (lv' := LX1 ad (i + 1)) (fun p hp => ?_) (adx_5 G T h5 f (i + 1) (by omega) (by omega) (ei.trans (run_step (by decide) n1 hi hb)))
      simp only [LX1, List.mem_cons, List.not_mem_nil, or_false] at hp
      rcases hp with h | h <;> simp [h, LX1, stL, Value.category, Int32.ofInt_add]
    refine V_iload (v := Int32.ofInt (i : Int)) mi_188_5 (by simp [LX1]) ?_
    refine V_aload (v := ad 2) mi_188_6 (by simp [LX1]) ?_
    refine V_getO mi_188_7 G e2 T.1 ?_
    refine V_icmp mi_188_10 (fun h => out (by
      have := (ge_n (by omega) (by omega)).mp h
      have e : seeS B n i = -1 := by unfold seeS; rw [if_neg (by omega)]
      rw [e]; decide)) (fun _ => ?_)
    refine V_aload (v := ad 2) mi_188_13 (by simp [LX1]) ?_
    refine V_iload (v := Int32.ofInt (i : Int)) mi_188_14 (by simp [LX1]) ?_
    refine V_callO (c := 2) (As := [.int (Int32.ofInt (i : Int))]) (st := []) mi_188_15 (by omega) (by decide +kernel) (show mCi 186 = 9 by decide +kernel) (by omega) e2 G (bytX G T (by omega)) (by omega) (show 1 = mN 186 by decide +kernel) (by simp) ?_
    rintro r w' ⟨rfl, rfl⟩
    refine V_ipush mi_188_18 ?_
    have c1 := cdP_iff (x := 0) (a := seeS B n i) (b := 32) (by omega) (by omega) (by omega) (by omega)
    refine V_icmp mi_188_20 (fun h => go33 (by
      have h : seeS B n i - 32 = 0 := c1.mp h
      unfold blB
      rw [decide_eq_true (show seeS B n i = 32 by omega), Bool.true_or])) (fun hn32 => ?_)
    refine V_aload (v := ad 2) mi_188_23 (by simp [LX1]) ?_
    refine V_iload (v := Int32.ofInt (i : Int)) mi_188_24 (by simp [LX1]) ?_
    refine V_callO (c := 2) (As := [.int (Int32.ofInt (i : Int))]) (st := []) mi_188_25 (by omega) (by decide +kernel) (show mCi 186 = 9 by decide +kernel) (by omega) e2 G (bytX G T (by omega)) (by omega) (show 1 = mN 186 by decide +kernel) (by simp) ?_
    rintro r w' ⟨rfl, rfl⟩
    refine V_ipush mi_188_28 ?_
    have c2 := cdP_iff (x := 1) (a := seeS B n i) (b := 10) (by omega) (by omega) (by omega) (by omega)
    refine V_icmp mi_188_30 (fun hn10 => out (by
      have h1 : seeS B n i - 10 ≠ 0 := c2.mp hn10
      have h2 : ¬ (seeS B n i - 32 = 0) := fun q => hn32 (c1.mpr q)
      unfold blB
      rw [decide_eq_false (show ¬ seeS B n i = 32 by omega), decide_eq_false (show ¬ seeS B n i = 10 by omega)]
      rfl)) (fun h => go33 (by
      have : ¬ (seeS B n i - 10 ≠ 0) := fun q => h (c2.mpr q)
      unfold blB
      rw [decide_eq_true (show seeS B n i = 10 by omega), Bool.or_true]))
theorem adx_ct (hG : GOK ad tys GG ws) {n a : Nat} {B : Nat → Int} {v0 : Int} (T : TXX ws n B) (ha : a ≤ n) (h4 : rd ws 2 4 = some (.int (Int32.ofInt (a : Int)))) (h5 : rd ws 2 5 = some (.int (Int32.ofInt v0))) : CT l D tys A 188 1 0 0 [.ref (ad 2)] ws (ADX ad tys B n a v0 ws) := by
  refine CT_of_V (by omega) (show (1 : Nat) ≤ mML 188 by decide +kernel) ?_
  obtain ⟨s2, e2, t0, t1, t2, t3, t4, t5⟩ := gx2a
  refine V_aload (v := ad 2) mi_188_0 (List.Mem.head _) ?_
  refine V_getO mi_188_1 hG e2 h4 ?_
  refine V_istore mi_188_4 ?_
  refine V_sub (lv' := LX1 ad a) (fun p hp => ?_) (adx_5 hG T h5 (n - a + 1) a (by omega) ha rfl)
  simp only [LX1, List.mem_cons, List.not_mem_nil, or_false] at hp
  rcases hp with h | h <;> simp [h, stL, lv_args, Value.category]
end TKZ
section TKW
variable {l : Launch} {D : va_G} {tys : List (ClassId × FieldType)} {A : Nat → Prop} {ad : Nat → Nat} {ws : va_W}
/-- a word's letters stand in the text from a place on -/
noncomputable def wdR (B : Nat → Int) (n S : Nat) (cs : List Int32) : Nat → Nat → Bool
  | 0, _ => true
  | m + 1, j => decide (seeS B n (S + j) = (cs.getD j 0).toInt) && wdR B n S cs m (j + 1)
noncomputable def wdS (B : Nat → Int) (n S E : Nat) (cs : List Int32) : Bool := decide ((E : Int) - S = cs.length) && wdR B n S cs cs.length 0
theorem wd_one {B : Nat → Int} {n p c : Nat} {w : va_W} (h : TB w c n B) (hp : p < n) {v : Int32} (v1 : 97 ≤ v.toInt) (v2 : v.toInt ≤ 122) : Int32.ofInt (B p) = v ↔ seeS B n p = v.toInt := by
  obtain ⟨-, b1, b2⟩ := h p hp
  have e : (Int32.ofInt (B p)).toInt = B p := Int32.toInt_ofInt_of_le (by omega) (by omega)
  have s : seeS B n p = B p % 256 := by unfold seeS; rw [if_pos hp]
  rw [s]
  constructor
  · intro q
    rw [← q, e]
    rw [← q, e] at v1
    omega
  · intro q
    have : B p = v.toInt := by omega
    rw [this, Int32.ofInt_toInt]
theorem isx_loop {i : Nat} {q : String × Nat × String × List Int32} {n S : Nat} {B : Nat → Int} (hq : xsT[i]? = some q) (hl : q.2.2.2.length ≤ 9) (T : TXM ws n B) (hf : rd ws 90 9 = some (.int (Int32.ofInt (S : Int)))) (ft : S + q.2.2.2.length ≤ n) : ∀ (m j : Nat), j + m = q.2.2.2.length → ∀ w : va_W, GOK ad tys GG w → SAME ws w → V l D tys A 216 4 0 0 (fun r w' => w' = w ∧ r = some (.int (bI (wdR B n S q.2.2.2 m j)))) 0 0 39 (LI D ad i (Int32.ofInt 1) j) [] w
  | 0, j, h, w, hw, hS => by
    refine V_iload (v := Int32.ofInt (j : Int)) mi_216_39 (by simp [LI]) ?_
    refine V_aload (v := D.2 1000 i) mi_216_40 (by simp [LI]) ?_
    refine V_callS (As := []) (st := [.int (Int32.ofInt (j : Int))]) mi_216_41 (by omega) (len_ct hq) (by omega) (show 0 = mN 345 by decide +kernel) hq (by decide +kernel) (by simp [Value.category]) ?_
    rintro r w' ⟨rfl, rfl⟩
    have hc := cdP_iff (x := 3) (a := (j : Int)) (b := (q.2.2.2.length : Int)) (by omega) (by omega) (by omega) (by omega)
    refine V_icmp mi_216_44 (fun _ => ?_) (fun h1 => absurd (hc.mpr (show 0 ≤ (j : Int) - q.2.2.2.length by omega)) h1)
    refine V_iload (v := Int32.ofInt 1) mi_216_82 (by simp [LI]) ?_
    exact V_retI mi_216_83 (fun _ => by decide) ⟨rfl, rfl⟩
  | m + 1, j, h, w, hw, hS => by
    obtain ⟨s4, e4, f4⟩ := gt94
    have n1 := T.2.1
    have hB := T.2.2
    obtain ⟨b1, b2, b3⟩ := hB (S + j) (by omega)
    obtain ⟨x1, x2⟩ := xb hq (j := j) (by omega)
    have hone := wd_one hB (p := S + j) (by omega) x1 x2
    refine V_iload (v := Int32.ofInt (j : Int)) mi_216_39 (by simp [LI]) ?_
    refine V_aload (v := D.2 1000 i) mi_216_40 (by simp [LI]) ?_
    refine V_callS (As := []) (st := [.int (Int32.ofInt (j : Int))]) mi_216_41 (by omega) (len_ct hq) (by omega) (show 0 = mN 345 by decide +kernel) hq (by decide +kernel) (by simp [Value.category]) ?_
    rintro r w' ⟨rfl, rfl⟩
    have hc := cdP_iff (x := 3) (a := (j : Int)) (b := (q.2.2.2.length : Int)) (by omega) (by omega) (by omega) (by omega)
    refine V_icmp mi_216_44 (fun h1 => absurd (show 0 ≤ (j : Int) - q.2.2.2.length from hc.mp h1) (by omega)) (fun _ => ?_)
    refine V_iload (v := Int32.ofInt 1) mi_216_47 (by simp [LI]) ?_
    refine V_if mi_216_48 (fun h1 => absurd (show (1 : Int32) = 0 from h1) (by decide)) (fun _ => ?_)
    refine V_aload (v := ad 90) mi_216_51 (by simp [LI]) ?_
    refine V_getI mi_216_52 hw (rref gr4 (by omega) hw) ?_
    refine V_aload (v := ad 90) mi_216_55 (by simp [LI]) ?_
    refine V_getI mi_216_56 hw ((hS 90 9).trans hf) ?_
    refine V_iload (v := Int32.ofInt (j : Int)) mi_216_59 (by simp [LI]) ?_
    refine V_ibin mi_216_60 (by omega) ?_
    have ei : ibF 0 (Int32.ofInt (S : Int)) (Int32.ofInt (j : Int)) = Int32.ofInt (((S + j : Nat)) : Int) := by
      show Int32.ofInt (S : Int) + Int32.ofInt (j : Int) = _
      rw [← Int32.ofInt_add]; rfl
    refine V_bldI (j := S + j) mi_216_61 ei hw e4 (by omega) (by omega) ((hS _ _).trans b1) ?_
    refine V_aload (v := D.2 1000 i) mi_216_62 (by simp [LI]) ?_
    refine V_iload (v := Int32.ofInt (j : Int)) mi_216_63 (by simp [LI]) ?_
    refine V_callS (As := [.int (Int32.ofInt (j : Int))]) (st := [.int (Int32.ofInt (B (S + j)))]) mi_216_64 (by omega) (chr_ct hq (by omega) hl) (by omega) (show 1 = mN 346 by decide +kernel) hq (by decide +kernel) (by simp [Value.category]) ?_
    rintro r w'' ⟨rfl, rfl⟩
    unfold wdR
    by_cases heq : Int32.ofInt (B (S + j)) = q.2.2.2.getD j 0
    · rw [decide_eq_true (hone.mp heq), Bool.true_and]
      refine V_icmp mi_216_67 (fun h1 => absurd heq h1) (fun _ => ?_)
      refine V_ipush mi_216_70 ?_
      refine V_goto mi_216_71 ?_
      refine V_istore mi_216_75 ?_
      refine V_iinc (v := Int32.ofInt (j : Int)) mi_216_76 (by simp [LI, stL, Value.category]) ?_
      refine V_goto mi_216_79 ?_
      refine V_sub (lv' := LI D ad i (Int32.ofInt 1) (j + 1)) (fun p hp => ?_) (isx_loop hq hl T hf ft m (j + 1) (by omega) _ hw hS)
      simp only [LI, List.mem_cons, List.not_mem_nil, or_false] at hp
      rcases hp with h | h | h | h <;> simp [h, LI, stL, Value.category, Int32.ofInt_add]
    · rw [decide_eq_false (fun h => heq (hone.mpr h)), Bool.false_and]
      refine V_icmp mi_216_67 (fun _ => ?_) (fun h1 => absurd heq h1)
      refine V_ipush mi_216_74 ?_
      refine V_istore mi_216_75 ?_
      refine V_iinc (v := Int32.ofInt (j : Int)) mi_216_76 (by simp [LI, stL, Value.category]) ?_
      refine V_goto mi_216_79 ?_
      refine V_sub (lv' := LI D ad i (Int32.ofInt 0) (j + 1)) (fun p hp => ?_) (is_zero hq hl (by omega))
      simp only [LI, List.mem_cons, List.not_mem_nil, or_false] at hp
      rcases hp with h | h | h | h <;> simp [h, LI, stL, Value.category, Int32.ofInt_add]
/-- what M's `is` answers: no fault yet, a word, and these letters -/
noncomputable def isB (f K : Int) (B : Nat → Int) (n S E : Nat) (cs : List Int32) : Bool := decide (f = 0) && (decide (K = 1) && wdS B n S E cs)
theorem isx_ct {i : Nat} {q : String × Nat × String × List Int32} (hq : xsT[i]? = some q) (hl : q.2.2.2.length ≤ 9) (hl1 : 1 ≤ q.2.2.2.length) (hw : GOK ad tys GG ws) {n S E : Nat} {B : Nat → Int} {f K : Int} (T : TXM ws n B) (hf : rd ws 90 12 = some (.int (Int32.ofInt f))) (f0 : 0 ≤ f) (f3 : f ≤ 3) (ht : rd ws 90 10 = some (.int (Int32.ofInt K))) (k0 : 0 ≤ K) (k4 : K ≤ 4) (ha : rd ws 90 8 = some (.int (Int32.ofInt (E : Int)))) (hr : rd ws 90 9 = some (.int (Int32.ofInt (S : Int)))) (hE : E ≤ n) (hSE : S ≤ E) : CT l D tys A 216 4 0 0 [.ref (ad 90), .ref (D.2 1000 i)] ws (fun r w' => w' = ws ∧ r = some (.int (bI (isB f K B n S E q.2.2.2)))) := by
  refine CT_of_V (by omega) (show (2 : Nat) ≤ mML 216 by decide +kernel) ?_
  have n1 := T.2.1
  have z36 : isB f K B n S E q.2.2.2 = false → V l D tys A 216 4 0 0 (fun r w' => w' = ws ∧ r = some (.int (bI (isB f K B n S E q.2.2.2)))) 0 0 35 [(0, .ref (ad 90)), (1, .ref (D.2 1000 i))] [] ws := by
    intro hb
    rw [hb]
    refine V_ipush mi_216_35 ?_
    refine V_istore mi_216_36 ?_
    refine V_ipush mi_216_37 ?_
    refine V_istore mi_216_38 ?_
    refine V_sub (lv' := LI D ad i (Int32.ofInt 0) 0) (fun p hp => ?_) (is_zero hq hl (by omega))
    simp only [LI, List.mem_cons, List.not_mem_nil, or_false] at hp
    rcases hp with h | h | h | h <;> simp [h, LI, stL, Value.category]
  refine V_aload (v := ad 90) mi_216_0 (List.Mem.head _) ?_
  refine V_callM (As := []) (st := []) mi_216_1 (by omega) (by decide +kernel) (by decide +kernel) hw (good_ct hw hf f0 f3) (by omega) (show 0 = mN 214 by decide +kernel) (by simp) ?_
  rintro r w' ⟨rfl, rfl⟩
  by_cases hf0 : f = 0
  · rw [if_pos hf0]
    refine V_if mi_216_4 (fun h1 => absurd (show (1 : Int32) = 0 from h1) (by decide)) (fun _ => ?_)
    refine V_aload (v := ad 90) mi_216_7 (List.Mem.head _) ?_
    refine V_getI mi_216_8 hw ht ?_
    refine V_ipush mi_216_11 ?_
    have hc := cdP_iff (x := 1) (a := K) (b := 1) (by omega) (by omega) (by omega) (by omega)
    refine V_icmp mi_216_12 (fun h1 => z36 (by
      have : ¬ K = 1 := fun q => (show K - 1 ≠ 0 from hc.mp h1) (by omega)
      unfold isB
      rw [decide_eq_false this, Bool.false_and, Bool.and_false])) (fun h1 => ?_)
    have ht1 : K = 1 := by
      have : ¬ (K - 1 ≠ 0) := fun qq => h1 (hc.mpr qq)
      omega
    refine V_aload (v := ad 90) mi_216_15 (List.Mem.head _) ?_
    refine V_getI mi_216_16 hw ha ?_
    refine V_aload (v := ad 90) mi_216_19 (List.Mem.head _) ?_
    refine V_getI mi_216_20 hw hr ?_
    refine V_ibin mi_216_23 (by omega) ?_
    rw [show ibF 1 (Int32.ofInt (E : Int)) (Int32.ofInt (S : Int)) = Int32.ofInt ((E : Int) - S) by show Int32.ofInt (E : Int) - Int32.ofInt (S : Int) = _; rw [← Int32.ofInt_sub]]
    refine V_aload (v := D.2 1000 i) mi_216_24 (List.Mem.tail _ (List.Mem.head _)) ?_
    refine V_callS (As := []) (st := [.int (Int32.ofInt ((E : Int) - S))]) mi_216_25 (by omega) (len_ct hq) (by omega) (show 0 = mN 345 by decide +kernel) hq (by decide +kernel) (by simp [Value.category]) ?_
    rintro r w'' ⟨rfl, rfl⟩
    have hd := cdP_iff (x := 1) (a := (E : Int) - S) (b := (q.2.2.2.length : Int)) (by omega) (by omega) (by omega) (by omega)
    refine V_icmp mi_216_28 (fun h2 => z36 (by
      have : ¬ (E : Int) - S = q.2.2.2.length := fun e => (show (E : Int) - S - q.2.2.2.length ≠ 0 from hd.mp h2) (by omega)
      unfold isB wdS
      rw [decide_eq_false this, Bool.false_and, Bool.and_false, Bool.and_false])) (fun h2 => ?_)
    have hlen : (E : Int) - S = q.2.2.2.length := by
      have : ¬ ((E : Int) - S - q.2.2.2.length ≠ 0) := fun qq => h2 (hd.mpr qq)
      omega
    have hbe : isB f K B n S E q.2.2.2 = wdR B n S q.2.2.2 q.2.2.2.length 0 := by
      unfold isB wdS
      rw [decide_eq_true hf0, decide_eq_true ht1, decide_eq_true hlen, Bool.true_and, Bool.true_and, Bool.true_and]
    rw [hbe]
    refine V_ipush mi_216_31 ?_
    refine V_goto mi_216_32 ?_
    refine V_istore mi_216_36 ?_
    refine V_ipush mi_216_37 ?_
    refine V_istore mi_216_38 ?_
    refine V_sub (lv' := LI D ad i (Int32.ofInt 1) 0) (fun p hp => ?_) (isx_loop hq hl T hr (by omega) _ 0 (by omega) _ hw (fun _ _ => rfl))
    simp only [LI, List.mem_cons, List.not_mem_nil, or_false] at hp
    rcases hp with h | h | h | h <;> simp [h, LI, stL, lv_args, Value.category]
  · rw [if_neg hf0]
    refine V_if mi_216_4 (fun _ => z36 (by unfold isB; rw [decide_eq_false hf0, Bool.false_and])) (fun h1 => absurd (show (0 : Int32) = 0 from rfl) h1)
end TKW
section TKY
variable {l : Launch} {D : va_G} {tys : List (ClassId × FieldType)} {A : Nat → Prop} {ad : Nat → Nat} {ws : va_W}
noncomputable def LW (D : va_G) (ad : Nat → Nat) (i j : Nat) : List (Nat × Value) := [(0, .ref (ad 2)), (1, .ref (D.2 1000 i)), (2, .int (Int32.ofInt (j : Int)))]
theorem see_i {B : Nat → Int} {n p : Nat} {v : Int32} : Int32.ofInt (seeS B n p) = v ↔ seeS B n p = v.toInt := by
  have := see_bd B n p
  have e : (Int32.ofInt (seeS B n p)).toInt = seeS B n p := Int32.toInt_ofInt_of_le (by omega) (by omega)
  constructor
  · intro q; rw [← q, e]
  · intro q; rw [q, Int32.ofInt_toInt]
theorem isw_loop {i : Nat} {q : String × Nat × String × List Int32} {n S : Nat} {B : Nat → Int} (hq : xsT[i]? = some q) (hl : q.2.2.2.length ≤ 9) (hG : GOK ad tys GG ws) (T : TXX ws n B) (h3 : rd ws 2 3 = some (.int (Int32.ofInt (S : Int)))) (ft : S + q.2.2.2.length ≤ 1401) : ∀ (m j : Nat), j + m = q.2.2.2.length → V l D tys A 191 4 0 0 (fun r w' => w' = ws ∧ r = some (.int (bI (wdR B n S q.2.2.2 m j)))) 0 0 28 (LW D ad i j) [] ws
  | 0, j, h => by
    refine V_iload (v := Int32.ofInt (j : Int)) mi_191_28 (by simp [LW]) ?_
    refine V_aload (v := D.2 1000 i) mi_191_29 (by simp [LW]) ?_
    refine V_callS (As := []) (st := [.int (Int32.ofInt (j : Int))]) mi_191_30 (by omega) (len_ct hq) (by omega) (show 0 = mN 345 by decide +kernel) hq (by decide +kernel) (by simp [Value.category]) ?_
    rintro r w' ⟨rfl, rfl⟩
    refine V_icmp mi_191_33 (fun _ => ?_) (fun h1 => absurd ((ge_n (by omega) (by omega)).mpr (by omega)) h1)
    refine V_ipush mi_191_62 ?_
    exact V_retI mi_191_63 (fun _ => by decide) ⟨rfl, rfl⟩
  | m + 1, j, h => by
    obtain ⟨s2, e2, -, -, -, -, -, -⟩ := gx2a
    refine V_iload (v := Int32.ofInt (j : Int)) mi_191_28 (by simp [LW]) ?_
    refine V_aload (v := D.2 1000 i) mi_191_29 (by simp [LW]) ?_
    refine V_callS (As := []) (st := [.int (Int32.ofInt (j : Int))]) mi_191_30 (by omega) (len_ct hq) (by omega) (show 0 = mN 345 by decide +kernel) hq (by decide +kernel) (by simp [Value.category]) ?_
    rintro r w' ⟨ew, rfl⟩
    rw [ew]
    refine V_icmp mi_191_33 (fun h1 => absurd ((ge_n (by omega) (by omega)).mp h1) (by omega)) (fun _ => ?_)
    refine V_aload (v := ad 2) mi_191_36 (by simp [LW]) ?_
    refine V_aload (v := ad 2) mi_191_37 (by simp [LW]) ?_
    refine V_getO mi_191_38 hG e2 h3 ?_
    refine V_iload (v := Int32.ofInt (j : Int)) mi_191_41 (by simp [LW]) ?_
    refine V_ibin mi_191_42 (by omega) ?_
    rw [show ibF 0 (Int32.ofInt (S : Int)) (Int32.ofInt (j : Int)) = Int32.ofInt (((S + j : Nat)) : Int) by
      show Int32.ofInt (S : Int) + Int32.ofInt (j : Int) = _
      rw [← Int32.ofInt_add]; rfl]
    refine V_callO (c := 2) (As := [.int (Int32.ofInt ((S + j : Nat) : Int))]) (st := []) mi_191_43 (by omega) (by decide +kernel) (show mCi 186 = 9 by decide +kernel) (by omega) e2 hG (bytX hG T (by omega)) (by omega) (show 1 = mN 186 by decide +kernel) (by simp) ?_
    rintro r w' ⟨ew, rfl⟩
    rw [ew]
    refine V_aload (v := D.2 1000 i) mi_191_46 (by simp [LW]) ?_
    refine V_iload (v := Int32.ofInt (j : Int)) mi_191_47 (by simp [LW]) ?_
    refine V_callS (As := [.int (Int32.ofInt (j : Int))]) (st := [.int (Int32.ofInt (seeS B n (S + j)))]) mi_191_48 (by omega) (chr_ct hq (by omega) hl) (by omega) (show 1 = mN 346 by decide +kernel) hq (by decide +kernel) (by simp [Value.category]) ?_
    rintro r w'' ⟨ew, rfl⟩
    rw [ew]
    unfold wdR
    refine V_icmp mi_191_51 (fun heq => ?_) (fun heq => ?_)
    · have heq : Int32.ofInt (seeS B n (S + j)) = q.2.2.2.getD j 0 := heq
      rw [decide_eq_true (see_i.mp heq), Bool.true_and]
      refine V_iinc (v := Int32.ofInt (j : Int)) mi_191_56 (by simp [LW]) ?_
      refine V_goto mi_191_59 ?_
      refine V_sub (lv' := LW D ad i (j + 1)) (fun p hp => ?_) (isw_loop hq hl hG T h3 ft m (j + 1) (by omega))
      simp only [LW, List.mem_cons, List.not_mem_nil, or_false] at hp
      rcases hp with h | h | h <;> simp [h, LW, stL, Value.category, Int32.ofInt_add]
    · have heq : ¬ Int32.ofInt (seeS B n (S + j)) = q.2.2.2.getD j 0 := heq
      rw [decide_eq_false (fun h => heq (see_i.mpr h)), Bool.false_and]
      refine V_ipush mi_191_54 ?_
      exact V_retI mi_191_55 (fun _ => by decide) ⟨rfl, rfl⟩
/-- what X's `isWord` answers -/
noncomputable def iwB (K : Int) (B : Nat → Int) (n S E : Nat) (cs : List Int32) : Bool := decide (K = 1) && wdS B n S E cs
theorem isw_ct {i : Nat} {q : String × Nat × String × List Int32} (hq : xsT[i]? = some q) (hl : q.2.2.2.length ≤ 9) (hG : GOK ad tys GG ws) {n S E : Nat} {B : Nat → Int} {K : Int} (T : TXX ws n B) (ht : rd ws 2 2 = some (.int (Int32.ofInt K))) (k0 : 0 ≤ K) (k4 : K ≤ 4) (h3 : rd ws 2 3 = some (.int (Int32.ofInt (S : Int)))) (h4 : rd ws 2 4 = some (.int (Int32.ofInt (E : Int)))) (hE : E ≤ 1401) (hSE : S ≤ E) : CT l D tys A 191 4 0 0 [.ref (ad 2), .ref (D.2 1000 i)] ws (fun r w' => w' = ws ∧ r = some (.int (bI (iwB K B n S E q.2.2.2)))) := by
  refine CT_of_V (by omega) (show (2 : Nat) ≤ mML 191 by decide +kernel) ?_
  obtain ⟨s2, e2, -, -, -, -, -, -⟩ := gx2a
  have no : iwB K B n S E q.2.2.2 = false → V l D tys A 191 4 0 0 (fun r w' => w' = ws ∧ r = some (.int (bI (iwB K B n S E q.2.2.2)))) 0 0 24 (lv_args 0 [.ref (ad 2), .ref (D.2 1000 i)]) [] ws := by
    intro hb
    rw [hb]
    refine V_ipush mi_191_24 ?_
    exact V_retI mi_191_25 (fun _ => by decide) ⟨rfl, rfl⟩
  refine V_aload (v := ad 2) mi_191_0 (List.Mem.head _) ?_
  refine V_getO mi_191_1 hG e2 ht ?_
  refine V_ipush mi_191_4 ?_
  have hc := cdP_iff (x := 1) (a := K) (b := 1) (by omega) (by omega) (by omega) (by omega)
  refine V_icmp mi_191_5 (fun h1 => no (by
    have : ¬ K = 1 := fun q => (show K - 1 ≠ 0 from hc.mp h1) (by omega)
    unfold iwB
    rw [decide_eq_false this, Bool.false_and])) (fun h1 => ?_)
  have ht1 : K = 1 := by
    have : ¬ (K - 1 ≠ 0) := fun qq => h1 (hc.mpr qq)
    omega
  refine V_aload (v := D.2 1000 i) mi_191_8 (List.Mem.tail _ (List.Mem.head _)) ?_
  refine V_callS (As := []) (st := []) mi_191_9 (by omega) (len_ct hq) (by omega) (show 0 = mN 345 by decide +kernel) hq (by decide +kernel) (by simp [Value.category]) ?_
  rintro r w' ⟨rfl, rfl⟩
  refine V_aload (v := ad 2) mi_191_12 (List.Mem.head _) ?_
  refine V_getO mi_191_13 hG e2 h4 ?_
  refine V_aload (v := ad 2) mi_191_16 (List.Mem.head _) ?_
  refine V_getO mi_191_17 hG e2 h3 ?_
  refine V_ibin mi_191_20 (by omega) ?_
  rw [show ibF 1 (Int32.ofInt (E : Int)) (Int32.ofInt (S : Int)) = Int32.ofInt ((E : Int) - S) by show Int32.ofInt (E : Int) - Int32.ofInt (S : Int) = _; rw [← Int32.ofInt_sub]]
  have hd := cdP_iff (x := 0) (a := (q.2.2.2.length : Int)) (b := (E : Int) - S) (by omega) (by omega) (by omega) (by omega)
  refine V_icmp mi_191_21 (fun h2 => ?_) (fun h2 => no (by
    have : ¬ (E : Int) - S = q.2.2.2.length := fun e => h2 (hd.mpr (show (q.2.2.2.length : Int) - (E - S) = 0 by omega))
    unfold iwB wdS
    rw [decide_eq_false this, Bool.false_and, Bool.and_false]))
  have hlen : (E : Int) - S = q.2.2.2.length := by
    have : (q.2.2.2.length : Int) - (E - S) = 0 := hd.mp h2
    omega
  have hbe : iwB K B n S E q.2.2.2 = wdR B n S q.2.2.2 q.2.2.2.length 0 := by
    unfold iwB wdS
    rw [decide_eq_true ht1, decide_eq_true hlen, Bool.true_and, Bool.true_and]
  rw [hbe]
  refine V_ipush mi_191_26 ?_
  refine V_istore mi_191_27 ?_
  refine V_sub (lv' := LW D ad i 0) (fun p hp => ?_) (isw_loop hq hl hG T h3 (by omega) _ 0 (by omega))
  simp only [LW, List.mem_cons, List.not_mem_nil, or_false] at hp
  rcases hp with h | h | h <;> simp [h, LW, stL, lv_args, Value.category]
end TKY
end
