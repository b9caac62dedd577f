section
theorem mi_67_0 : mI 67 0 = (5, 0, 0, 0, 0) := by decide +kernel
theorem mi_67_1 : mI 67 1 = (3, 0, 1, 0, 0) := by decide +kernel
theorem mi_67_2 : mI 67 2 = (26, 1155, 379, 69, 0) := by decide +kernel
theorem mi_67_5 : mI 67 5 = (8, 0, 2, 0, 0) := by decide +kernel
theorem mi_67_6 : mI 67 6 = (5, 0, 2, 0, 0) := by decide +kernel
theorem mi_67_7 : mI 67 7 = (30, 6, 1, 13, 0) := by decide +kernel
theorem mi_67_10 : mI 67 10 = (1, (-2), 1, 0, 0) := by decide +kernel
theorem mi_67_12 : mI 67 12 = (27, 0, 0, 0, 0) := by decide +kernel
theorem mi_67_13 : mI 67 13 = (5, 0, 2, 0, 0) := by decide +kernel
theorem mi_67_14 : mI 67 14 = (5, 0, 0, 0, 0) := by decide +kernel
theorem mi_67_15 : mI 67 15 = (17, 299, 24, 10, 2) := by decide +kernel
theorem mi_67_18 : mI 67 18 = (26, 521, 101, 100, 0) := by decide +kernel
theorem mi_67_21 : mI 67 21 = (5, 0, 0, 0, 0) := by decide +kernel
theorem mi_67_22 : mI 67 22 = (22, 0, 0, 0, 0) := by decide +kernel
theorem mi_67_23 : mI 67 23 = (17, 309, 383, 10, 12) := by decide +kernel
theorem mi_67_26 : mI 67 26 = (1, 1, 0, 0, 0) := by decide +kernel
theorem mi_67_27 : mI 67 27 = (3, 0, 1, 0, 0) := by decide +kernel
theorem mi_67_28 : mI 67 28 = (10, 0, 8, 0, 0) := by decide +kernel
theorem mi_67_29 : mI 67 29 = (10, 0, 6, 0, 0) := by decide +kernel
theorem mi_67_30 : mI 67 30 = (18, 309, 383, 10, 12) := by decide +kernel
theorem mi_67_33 : mI 67 33 = (1, 0, 0, 0, 0) := by decide +kernel
theorem mi_67_34 : mI 67 34 = (27, 0, 0, 0, 0) := by decide +kernel
theorem mi_68_0 : mI 68 0 = (5, 0, 0, 0, 0) := by decide +kernel
theorem mi_68_1 : mI 68 1 = (3, 0, 1, 0, 0) := by decide +kernel
theorem mi_68_2 : mI 68 2 = (26, 1155, 379, 69, 0) := by decide +kernel
theorem mi_68_5 : mI 68 5 = (8, 0, 2, 0, 0) := by decide +kernel
theorem mi_68_6 : mI 68 6 = (5, 0, 2, 0, 0) := by decide +kernel
theorem mi_68_7 : mI 68 7 = (30, 6, 1, 13, 0) := by decide +kernel
theorem mi_68_10 : mI 68 10 = (1, (-2), 1, 0, 0) := by decide +kernel
theorem mi_68_12 : mI 68 12 = (27, 0, 0, 0, 0) := by decide +kernel
theorem mi_68_13 : mI 68 13 = (5, 0, 0, 0, 0) := by decide +kernel
theorem mi_68_14 : mI 68 14 = (17, 309, 383, 10, 12) := by decide +kernel
theorem mi_68_17 : mI 68 17 = (3, 0, 1, 0, 0) := by decide +kernel
theorem mi_68_18 : mI 68 18 = (10, 0, 9, 0, 0) := by decide +kernel
theorem mi_68_19 : mI 68 19 = (1, 1, 0, 0, 0) := by decide +kernel
theorem mi_68_20 : mI 68 20 = (10, 0, 5, 0, 0) := by decide +kernel
theorem mi_68_21 : mI 68 21 = (14, 6, 1, 27, 0) := by decide +kernel
theorem mi_68_24 : mI 68 24 = (1, (-6), 1, 0, 0) := by decide +kernel
theorem mi_68_26 : mI 68 26 = (27, 0, 0, 0, 0) := by decide +kernel
theorem mi_68_27 : mI 68 27 = (5, 0, 0, 0, 0) := by decide +kernel
theorem mi_68_28 : mI 68 28 = (17, 299, 24, 10, 2) := by decide +kernel
theorem mi_68_31 : mI 68 31 = (5, 0, 2, 0, 0) := by decide +kernel
theorem mi_68_32 : mI 68 32 = (26, 521, 101, 100, 0) := by decide +kernel
theorem mi_68_35 : mI 68 35 = (5, 0, 0, 0, 0) := by decide +kernel
theorem mi_68_36 : mI 68 36 = (26, 528, 104, 73, 0) := by decide +kernel
theorem mi_68_39 : mI 68 39 = (1, 0, 0, 0, 0) := by decide +kernel
theorem mi_68_40 : mI 68 40 = (27, 0, 0, 0, 0) := by decide +kernel
theorem mi_72_0 : mI 72 0 = (5, 0, 0, 0, 0) := by decide +kernel
theorem mi_72_1 : mI 72 1 = (17, 304, 55, 10, 7) := by decide +kernel
theorem mi_72_4 : mI 72 4 = (3, 0, 1, 0, 0) := by decide +kernel
theorem mi_72_5 : mI 72 5 = (26, 914, 287, 160, 0) := by decide +kernel
theorem mi_72_8 : mI 72 8 = (14, 14, 0, 22, 0) := by decide +kernel
theorem mi_72_11 : mI 72 11 = (5, 0, 0, 0, 0) := by decide +kernel
theorem mi_72_12 : mI 72 12 = (17, 304, 55, 10, 7) := by decide +kernel
theorem mi_72_15 : mI 72 15 = (3, 0, 3, 0, 0) := by decide +kernel
theorem mi_72_16 : mI 72 16 = (26, 914, 287, 160, 0) := by decide +kernel
theorem mi_72_19 : mI 72 19 = (14, 6, 1, 25, 0) := by decide +kernel
theorem mi_72_22 : mI 72 22 = (1, (-2), 1, 0, 0) := by decide +kernel
theorem mi_72_24 : mI 72 24 = (27, 0, 0, 0, 0) := by decide +kernel
theorem mi_72_25 : mI 72 25 = (5, 0, 0, 0, 0) := by decide +kernel
theorem mi_72_26 : mI 72 26 = (17, 304, 55, 10, 7) := by decide +kernel
theorem mi_72_29 : mI 72 29 = (3, 0, 1, 0, 0) := by decide +kernel
theorem mi_72_30 : mI 72 30 = (26, 924, 293, 161, 0) := by decide +kernel
theorem mi_72_33 : mI 72 33 = (14, 14, 1, 47, 0) := by decide +kernel
theorem mi_72_36 : mI 72 36 = (5, 0, 0, 0, 0) := by decide +kernel
theorem mi_72_37 : mI 72 37 = (17, 304, 55, 10, 7) := by decide +kernel
theorem mi_72_40 : mI 72 40 = (3, 0, 3, 0, 0) := by decide +kernel
theorem mi_72_41 : mI 72 41 = (26, 924, 293, 161, 0) := by decide +kernel
theorem mi_72_44 : mI 72 44 = (14, 6, 0, 50, 0) := by decide +kernel
theorem mi_72_47 : mI 72 47 = (1, (-6), 1, 0, 0) := by decide +kernel
theorem mi_72_49 : mI 72 49 = (27, 0, 0, 0, 0) := by decide +kernel
theorem mi_72_50 : mI 72 50 = (5, 0, 0, 0, 0) := by decide +kernel
theorem mi_72_51 : mI 72 51 = (17, 304, 55, 10, 7) := by decide +kernel
theorem mi_72_54 : mI 72 54 = (3, 0, 1, 0, 0) := by decide +kernel
theorem mi_72_55 : mI 72 55 = (26, 1192, 394, 163, 0) := by decide +kernel
theorem mi_72_58 : mI 72 58 = (5, 0, 0, 0, 0) := by decide +kernel
theorem mi_72_59 : mI 72 59 = (17, 304, 55, 10, 7) := by decide +kernel
theorem mi_72_62 : mI 72 62 = (3, 0, 3, 0, 0) := by decide +kernel
theorem mi_72_63 : mI 72 63 = (26, 1192, 394, 163, 0) := by decide +kernel
theorem mi_72_66 : mI 72 66 = (15, 6, 0, 72, 0) := by decide +kernel
theorem mi_72_69 : mI 72 69 = (1, (-8), 1, 0, 0) := by decide +kernel
theorem mi_72_71 : mI 72 71 = (27, 0, 0, 0, 0) := by decide +kernel
theorem mi_72_72 : mI 72 72 = (5, 0, 0, 0, 0) := by decide +kernel
theorem mi_72_73 : mI 72 73 = (17, 304, 55, 10, 7) := by decide +kernel
theorem mi_72_76 : mI 72 76 = (3, 0, 1, 0, 0) := by decide +kernel
theorem mi_72_77 : mI 72 77 = (3, 0, 2, 0, 0) := by decide +kernel
theorem mi_72_78 : mI 72 78 = (3, 0, 5, 1, 0) := by decide +kernel
theorem mi_72_80 : mI 72 80 = (26, 1193, 397, 168, 0) := by decide +kernel
theorem mi_72_83 : mI 72 83 = (14, 18, 0, 101, 0) := by decide +kernel
theorem mi_72_86 : mI 72 86 = (5, 0, 0, 0, 0) := by decide +kernel
theorem mi_72_87 : mI 72 87 = (17, 304, 55, 10, 7) := by decide +kernel
theorem mi_72_90 : mI 72 90 = (3, 0, 3, 0, 0) := by decide +kernel
theorem mi_72_91 : mI 72 91 = (3, 0, 4, 1, 0) := by decide +kernel
theorem mi_72_93 : mI 72 93 = (3, 0, 5, 1, 0) := by decide +kernel
theorem mi_72_95 : mI 72 95 = (26, 1193, 397, 168, 0) := by decide +kernel
theorem mi_72_98 : mI 72 98 = (14, 6, 1, 104, 0) := by decide +kernel
theorem mi_72_101 : mI 72 101 = (1, (-7), 1, 0, 0) := by decide +kernel
theorem mi_72_103 : mI 72 103 = (27, 0, 0, 0, 0) := by decide +kernel
theorem mi_72_104 : mI 72 104 = (5, 0, 0, 0, 0) := by decide +kernel
theorem mi_72_105 : mI 72 105 = (17, 304, 55, 10, 7) := by decide +kernel
theorem mi_72_108 : mI 72 108 = (3, 0, 1, 0, 0) := by decide +kernel
theorem mi_72_109 : mI 72 109 = (3, 0, 2, 0, 0) := by decide +kernel
theorem mi_72_110 : mI 72 110 = (3, 0, 3, 0, 0) := by decide +kernel
theorem mi_72_111 : mI 72 111 = (3, 0, 4, 1, 0) := by decide +kernel
theorem mi_72_113 : mI 72 113 = (3, 0, 5, 1, 0) := by decide +kernel
theorem mi_72_115 : mI 72 115 = (26, 1197, 400, 169, 0) := by decide +kernel
theorem mi_72_118 : mI 72 118 = (1, 0, 0, 0, 0) := by decide +kernel
theorem mi_72_119 : mI 72 119 = (27, 0, 0, 0, 0) := by decide +kernel
theorem mi_147_0 : mI 147 0 = (3, 0, 1, 0, 0) := by decide +kernel
theorem mi_147_1 : mI 147 1 = (14, 15, 2, 16, 0) := by decide +kernel
theorem mi_147_4 : mI 147 4 = (3, 0, 1, 0, 0) := by decide +kernel
theorem mi_147_5 : mI 147 5 = (5, 0, 0, 0, 0) := by decide +kernel
theorem mi_147_6 : mI 147 6 = (21, 0, 0, 0, 0) := by decide +kernel
theorem mi_147_7 : mI 147 7 = (15, 9, 3, 16, 0) := by decide +kernel
theorem mi_147_10 : mI 147 10 = (5, 0, 0, 0, 0) := by decide +kernel
theorem mi_147_11 : mI 147 11 = (3, 0, 1, 0, 0) := by decide +kernel
theorem mi_147_12 : mI 147 12 = (19, 0, 0, 0, 0) := by decide +kernel
theorem mi_147_13 : mI 147 13 = (16, 4, 0, 17, 0) := by decide +kernel
theorem mi_147_16 : mI 147 16 = (1, 0, 0, 0, 0) := by decide +kernel
theorem mi_147_17 : mI 147 17 = (27, 0, 0, 0, 0) := by decide +kernel
theorem mi_148_0 : mI 148 0 = (3, 0, 1, 0, 0) := by decide +kernel
theorem mi_148_1 : mI 148 1 = (14, 13, 2, 14, 0) := by decide +kernel
theorem mi_148_4 : mI 148 4 = (3, 0, 1, 0, 0) := by decide +kernel
theorem mi_148_5 : mI 148 5 = (5, 0, 0, 0, 0) := by decide +kernel
theorem mi_148_6 : mI 148 6 = (21, 0, 0, 0, 0) := by decide +kernel
theorem mi_148_7 : mI 148 7 = (15, 7, 3, 14, 0) := by decide +kernel
theorem mi_148_10 : mI 148 10 = (5, 0, 0, 0, 0) := by decide +kernel
theorem mi_148_11 : mI 148 11 = (3, 0, 1, 0, 0) := by decide +kernel
theorem mi_148_12 : mI 148 12 = (3, 0, 2, 0, 0) := by decide +kernel
theorem mi_148_13 : mI 148 13 = (20, 0, 0, 0, 0) := by decide +kernel
theorem mi_148_14 : mI 148 14 = (27, 0, 2, 0, 0) := by decide +kernel
theorem mi_160_0 : mI 160 0 = (3, 0, 1, 0, 0) := by decide +kernel
theorem mi_160_1 : mI 160 1 = (14, 12, 2, 13, 0) := by decide +kernel
theorem mi_160_4 : mI 160 4 = (3, 0, 1, 0, 0) := by decide +kernel
theorem mi_160_5 : mI 160 5 = (1, 4, 0, 0, 0) := by decide +kernel
theorem mi_160_6 : mI 160 6 = (15, 7, 3, 13, 0) := by decide +kernel
theorem mi_160_9 : mI 160 9 = (1, 1, 0, 0, 0) := by decide +kernel
theorem mi_160_10 : mI 160 10 = (16, 4, 0, 14, 0) := by decide +kernel
theorem mi_160_13 : mI 160 13 = (1, 0, 0, 0, 0) := by decide +kernel
theorem mi_160_14 : mI 160 14 = (27, 0, 0, 0, 0) := by decide +kernel
theorem mi_161_0 : mI 161 0 = (5, 0, 0, 0, 0) := by decide +kernel
theorem mi_161_1 : mI 161 1 = (3, 0, 1, 0, 0) := by decide +kernel
theorem mi_161_2 : mI 161 2 = (26, 928, 22, 162, 0) := by decide +kernel
theorem mi_161_5 : mI 161 5 = (14, 7, 3, 12, 0) := by decide +kernel
theorem mi_161_8 : mI 161 8 = (1, 1, 0, 0, 0) := by decide +kernel
theorem mi_161_9 : mI 161 9 = (16, 4, 0, 13, 0) := by decide +kernel
theorem mi_161_12 : mI 161 12 = (1, 0, 0, 0, 0) := by decide +kernel
theorem mi_161_13 : mI 161 13 = (27, 0, 0, 0, 0) := by decide +kernel
theorem mi_162_0 : mI 162 0 = (5, 0, 0, 0, 0) := by decide +kernel
theorem mi_162_1 : mI 162 1 = (3, 0, 1, 0, 0) := by decide +kernel
theorem mi_162_2 : mI 162 2 = (26, 922, 26, 160, 0) := by decide +kernel
theorem mi_162_5 : mI 162 5 = (14, 14, 0, 19, 0) := by decide +kernel
theorem mi_162_8 : mI 162 8 = (5, 0, 0, 0, 0) := by decide +kernel
theorem mi_162_9 : mI 162 9 = (17, 243, 19, 7, 2) := by decide +kernel
theorem mi_162_12 : mI 162 12 = (3, 0, 1, 0, 0) := by decide +kernel
theorem mi_162_13 : mI 162 13 = (26, 923, 30, 147, 1) := by decide +kernel
theorem mi_162_16 : mI 162 16 = (16, 4, 0, 20, 0) := by decide +kernel
theorem mi_162_20 : mI 162 20 = (27, 0, 0, 0, 0) := by decide +kernel
theorem mi_163_0 : mI 163 0 = (5, 0, 0, 0, 0) := by decide +kernel
theorem mi_163_1 : mI 163 1 = (17, 242, 15, 7, 1) := by decide +kernel
theorem mi_163_4 : mI 163 4 = (3, 0, 1, 0, 0) := by decide +kernel
theorem mi_163_5 : mI 163 5 = (26, 923, 30, 147, 1) := by decide +kernel
theorem mi_163_8 : mI 163 8 = (27, 0, 0, 0, 0) := by decide +kernel
theorem mi_168_0 : mI 168 0 = (3, 0, 2, 0, 0) := by decide +kernel
theorem mi_168_1 : mI 168 1 = (14, 26, 2, 27, 0) := by decide +kernel
theorem mi_168_4 : mI 168 4 = (3, 0, 3, 0, 0) := by decide +kernel
theorem mi_168_5 : mI 168 5 = (14, 22, 2, 27, 0) := by decide +kernel
theorem mi_168_8 : mI 168 8 = (3, 0, 2, 0, 0) := by decide +kernel
theorem mi_168_9 : mI 168 9 = (12, 0, 1, 0, 0) := by decide +kernel
theorem mi_168_10 : mI 168 10 = (3, 0, 3, 0, 0) := by decide +kernel
theorem mi_168_11 : mI 168 11 = (12, 0, 1, 0, 0) := by decide +kernel
theorem mi_168_12 : mI 168 12 = (11, 0, 0, 0, 0) := by decide +kernel
theorem mi_168_13 : mI 168 13 = (5, 0, 0, 0, 0) := by decide +kernel
theorem mi_168_14 : mI 168 14 = (3, 0, 1, 0, 0) := by decide +kernel
theorem mi_168_15 : mI 168 15 = (26, 928, 22, 162, 0) := by decide +kernel
theorem mi_168_18 : mI 168 18 = (12, 0, 1, 0, 0) := by decide +kernel
theorem mi_168_19 : mI 168 19 = (13, 0, 0, 0, 0) := by decide +kernel
theorem mi_168_20 : mI 168 20 = (14, 7, 4, 27, 0) := by decide +kernel
theorem mi_168_23 : mI 168 23 = (1, 1, 0, 0, 0) := by decide +kernel
theorem mi_168_24 : mI 168 24 = (16, 4, 0, 28, 0) := by decide +kernel
theorem mi_168_27 : mI 168 27 = (1, 0, 0, 0, 0) := by decide +kernel
theorem mi_168_28 : mI 168 28 = (27, 0, 0, 0, 0) := by decide +kernel
theorem mi_196_0 : mI 196 0 = (3, 0, 1, 0, 0) := by decide +kernel
theorem mi_196_1 : mI 196 1 = (12, 0, 1, 0, 0) := by decide +kernel
theorem mi_196_2 : mI 196 2 = (2, 0, 0, 0, 0) := by decide +kernel
theorem mi_196_3 : mI 196 3 = (2, 2, 1, 83, 1320) := by decide +kernel
theorem mi_196_6 : mI 196 6 = (26, 1321, 85, 193, 1) := by decide +kernel
theorem mi_196_9 : mI 196 9 = (14, 6, 1, 15, 0) := by decide +kernel
theorem mi_196_12 : mI 196 12 = (1, (-2), 1, 0, 0) := by decide +kernel
theorem mi_196_14 : mI 196 14 = (27, 0, 0, 0, 0) := by decide +kernel
theorem mi_196_15 : mI 196 15 = (1, 0, 0, 0, 0) := by decide +kernel
theorem mi_196_16 : mI 196 16 = (6, 0, 2, 0, 0) := by decide +kernel
theorem mi_196_17 : mI 196 17 = (3, 0, 2, 0, 0) := by decide +kernel
theorem mi_196_18 : mI 196 18 = (1, 294, 2, 0, 0) := by decide +kernel
theorem mi_196_21 : mI 196 21 = (15, 27, 3, 48, 0) := by decide +kernel
theorem mi_196_24 : mI 196 24 = (5, 0, 0, 0, 0) := by decide +kernel
theorem mi_196_25 : mI 196 25 = (17, 1208, 13, 11, 2) := by decide +kernel
theorem mi_196_28 : mI 196 28 = (1, 294, 2, 0, 0) := by decide +kernel
theorem mi_196_31 : mI 196 31 = (3, 0, 1, 0, 0) := by decide +kernel
theorem mi_196_32 : mI 196 32 = (10, 0, 2, 0, 0) := by decide +kernel
theorem mi_196_33 : mI 196 33 = (3, 0, 2, 0, 0) := by decide +kernel
theorem mi_196_34 : mI 196 34 = (10, 0, 0, 0, 0) := by decide +kernel
theorem mi_196_35 : mI 196 35 = (5, 0, 0, 0, 0) := by decide +kernel
theorem mi_196_36 : mI 196 36 = (17, 1207, 9, 11, 1) := by decide +kernel
theorem mi_196_39 : mI 196 39 = (3, 0, 2, 0, 0) := by decide +kernel
theorem mi_196_40 : mI 196 40 = (19, 0, 0, 0, 0) := by decide +kernel
theorem mi_196_41 : mI 196 41 = (20, 0, 0, 0, 0) := by decide +kernel
theorem mi_196_42 : mI 196 42 = (9, 1, 2, 1, 0) := by decide +kernel
theorem mi_196_45 : mI 196 45 = (16, (-28), 0, 17, 0) := by decide +kernel
theorem mi_196_48 : mI 196 48 = (5, 0, 0, 0, 0) := by decide +kernel
theorem mi_196_49 : mI 196 49 = (17, 1209, 16, 11, 3) := by decide +kernel
theorem mi_196_52 : mI 196 52 = (3, 0, 1, 0, 0) := by decide +kernel
theorem mi_196_53 : mI 196 53 = (1, 1, 0, 0, 0) := by decide +kernel
theorem mi_196_54 : mI 196 54 = (20, 0, 1, 0, 0) := by decide +kernel
theorem mi_196_55 : mI 196 55 = (1, 0, 0, 0, 0) := by decide +kernel
theorem mi_196_56 : mI 196 56 = (27, 0, 0, 0, 0) := by decide +kernel
theorem mi_197_0 : mI 197 0 = (3, 0, 1, 0, 0) := by decide +kernel
theorem mi_197_1 : mI 197 1 = (12, 0, 1, 0, 0) := by decide +kernel
theorem mi_197_2 : mI 197 2 = (2, 0, 0, 0, 0) := by decide +kernel
theorem mi_197_3 : mI 197 3 = (2, 2, 1, 83, 1320) := by decide +kernel
theorem mi_197_6 : mI 197 6 = (26, 1321, 85, 193, 1) := by decide +kernel
theorem mi_197_9 : mI 197 9 = (14, 6, 1, 15, 0) := by decide +kernel
theorem mi_197_12 : mI 197 12 = (1, (-2), 1, 0, 0) := by decide +kernel
theorem mi_197_14 : mI 197 14 = (27, 0, 0, 0, 0) := by decide +kernel
theorem mi_197_15 : mI 197 15 = (5, 0, 0, 0, 0) := by decide +kernel
theorem mi_197_16 : mI 197 16 = (17, 1209, 16, 11, 3) := by decide +kernel
theorem mi_197_19 : mI 197 19 = (3, 0, 1, 0, 0) := by decide +kernel
theorem mi_197_20 : mI 197 20 = (19, 0, 1, 0, 0) := by decide +kernel
theorem mi_197_21 : mI 197 21 = (14, 6, 1, 27, 0) := by decide +kernel
theorem mi_197_24 : mI 197 24 = (1, (-6), 1, 0, 0) := by decide +kernel
theorem mi_197_26 : mI 197 26 = (27, 0, 0, 0, 0) := by decide +kernel
theorem mi_197_27 : mI 197 27 = (1, 0, 0, 0, 0) := by decide +kernel
theorem mi_197_28 : mI 197 28 = (6, 0, 2, 0, 0) := by decide +kernel
theorem mi_197_29 : mI 197 29 = (3, 0, 2, 0, 0) := by decide +kernel
theorem mi_197_30 : mI 197 30 = (1, 294, 2, 0, 0) := by decide +kernel
theorem mi_197_33 : mI 197 33 = (15, 27, 3, 60, 0) := by decide +kernel
theorem mi_197_36 : mI 197 36 = (5, 0, 0, 0, 0) := by decide +kernel
theorem mi_197_37 : mI 197 37 = (17, 1207, 9, 11, 1) := by decide +kernel
theorem mi_197_40 : mI 197 40 = (3, 0, 2, 0, 0) := by decide +kernel
theorem mi_197_41 : mI 197 41 = (5, 0, 0, 0, 0) := by decide +kernel
theorem mi_197_42 : mI 197 42 = (17, 1208, 13, 11, 2) := by decide +kernel
theorem mi_197_45 : mI 197 45 = (1, 294, 2, 0, 0) := by decide +kernel
theorem mi_197_48 : mI 197 48 = (3, 0, 1, 0, 0) := by decide +kernel
theorem mi_197_49 : mI 197 49 = (10, 0, 2, 0, 0) := by decide +kernel
theorem mi_197_50 : mI 197 50 = (3, 0, 2, 0, 0) := by decide +kernel
theorem mi_197_51 : mI 197 51 = (10, 0, 0, 0, 0) := by decide +kernel
theorem mi_197_52 : mI 197 52 = (19, 0, 0, 0, 0) := by decide +kernel
theorem mi_197_53 : mI 197 53 = (20, 0, 0, 0, 0) := by decide +kernel
theorem mi_197_54 : mI 197 54 = (9, 1, 2, 1, 0) := by decide +kernel
theorem mi_197_57 : mI 197 57 = (16, (-28), 0, 29, 0) := by decide +kernel
theorem mi_197_60 : mI 197 60 = (1, 0, 0, 0, 0) := by decide +kernel
theorem mi_197_61 : mI 197 61 = (27, 0, 0, 0, 0) := by decide +kernel
theorem mi_336_0 : mI 336 0 = (3, 0, 0, 0, 0) := by decide +kernel
theorem mi_336_1 : mI 336 1 = (12, 0, 1, 0, 0) := by decide +kernel
theorem mi_336_2 : mI 336 2 = (2, 0, 0, 0, 0) := by decide +kernel
theorem mi_336_3 : mI 336 3 = (2, 3, 1, 299, 1488) := by decide +kernel
theorem mi_336_6 : mI 336 6 = (26, 1321, 85, 193, 1) := by decide +kernel
theorem mi_336_9 : mI 336 9 = (27, 0, 0, 0, 0) := by decide +kernel
theorem mi_340_0 : mI 340 0 = (3, 0, 1, 0, 0) := by decide +kernel
theorem mi_340_1 : mI 340 1 = (26, 1773, 371, 336, 1) := by decide +kernel
theorem mi_340_4 : mI 340 4 = (14, 10, 0, 14, 0) := by decide +kernel
theorem mi_340_7 : mI 340 7 = (3, 0, 3, 0, 0) := by decide +kernel
theorem mi_340_8 : mI 340 8 = (26, 1773, 371, 336, 1) := by decide +kernel
theorem mi_340_11 : mI 340 11 = (14, 6, 1, 17, 0) := by decide +kernel
theorem mi_340_14 : mI 340 14 = (1, (-2), 1, 0, 0) := by decide +kernel
theorem mi_340_16 : mI 340 16 = (27, 0, 0, 0, 0) := by decide +kernel
theorem mi_340_17 : mI 340 17 = (5, 0, 0, 0, 0) := by decide +kernel
theorem mi_340_18 : mI 340 18 = (17, 1238, 67, 11, 32) := by decide +kernel
theorem mi_340_21 : mI 340 21 = (3, 0, 1, 0, 0) := by decide +kernel
theorem mi_340_22 : mI 340 22 = (19, 0, 0, 0, 0) := by decide +kernel
theorem mi_340_23 : mI 340 23 = (1, (-1), 0, 0, 0) := by decide +kernel
theorem mi_340_24 : mI 340 24 = (15, 13, 0, 37, 0) := by decide +kernel
theorem mi_340_27 : mI 340 27 = (5, 0, 0, 0, 0) := by decide +kernel
theorem mi_340_28 : mI 340 28 = (17, 1238, 67, 11, 32) := by decide +kernel
theorem mi_340_31 : mI 340 31 = (3, 0, 3, 0, 0) := by decide +kernel
theorem mi_340_32 : mI 340 32 = (19, 0, 0, 0, 0) := by decide +kernel
theorem mi_340_33 : mI 340 33 = (1, (-1), 0, 0, 0) := by decide +kernel
theorem mi_340_34 : mI 340 34 = (15, 6, 1, 40, 0) := by decide +kernel
theorem mi_340_37 : mI 340 37 = (1, (-6), 1, 0, 0) := by decide +kernel
theorem mi_340_39 : mI 340 39 = (27, 0, 0, 0, 0) := by decide +kernel
theorem mi_340_40 : mI 340 40 = (5, 0, 0, 0, 0) := by decide +kernel
theorem mi_340_41 : mI 340 41 = (17, 1239, 70, 11, 33) := by decide +kernel
theorem mi_340_44 : mI 340 44 = (3, 0, 1, 0, 0) := by decide +kernel
theorem mi_340_45 : mI 340 45 = (19, 0, 0, 0, 0) := by decide +kernel
theorem mi_340_46 : mI 340 46 = (5, 0, 0, 0, 0) := by decide +kernel
theorem mi_340_47 : mI 340 47 = (17, 1239, 70, 11, 33) := by decide +kernel
theorem mi_340_50 : mI 340 50 = (3, 0, 3, 0, 0) := by decide +kernel
theorem mi_340_51 : mI 340 51 = (19, 0, 0, 0, 0) := by decide +kernel
theorem mi_340_52 : mI 340 52 = (15, 6, 0, 58, 0) := by decide +kernel
theorem mi_340_55 : mI 340 55 = (1, (-8), 1, 0, 0) := by decide +kernel
theorem mi_340_57 : mI 340 57 = (27, 0, 0, 0, 0) := by decide +kernel
theorem mi_340_58 : mI 340 58 = (3, 0, 2, 0, 0) := by decide +kernel
theorem mi_340_59 : mI 340 59 = (14, 48, 2, 107, 0) := by decide +kernel
theorem mi_340_62 : mI 340 62 = (3, 0, 4, 1, 0) := by decide +kernel
theorem mi_340_64 : mI 340 64 = (14, 43, 2, 107, 0) := by decide +kernel
theorem mi_340_67 : mI 340 67 = (3, 0, 5, 1, 0) := by decide +kernel
theorem mi_340_69 : mI 340 69 = (14, 38, 2, 107, 0) := by decide +kernel
theorem mi_340_72 : mI 340 72 = (3, 0, 2, 0, 0) := by decide +kernel
theorem mi_340_73 : mI 340 73 = (12, 0, 1, 0, 0) := by decide +kernel
theorem mi_340_74 : mI 340 74 = (3, 0, 5, 1, 0) := by decide +kernel
theorem mi_340_76 : mI 340 76 = (12, 0, 1, 0, 0) := by decide +kernel
theorem mi_340_77 : mI 340 77 = (11, 0, 0, 0, 0) := by decide +kernel
theorem mi_340_78 : mI 340 78 = (5, 0, 0, 0, 0) := by decide +kernel
theorem mi_340_79 : mI 340 79 = (17, 1238, 67, 11, 32) := by decide +kernel
theorem mi_340_82 : mI 340 82 = (3, 0, 1, 0, 0) := by decide +kernel
theorem mi_340_83 : mI 340 83 = (19, 0, 0, 0, 0) := by decide +kernel
theorem mi_340_84 : mI 340 84 = (12, 0, 1, 0, 0) := by decide +kernel
theorem mi_340_85 : mI 340 85 = (13, 0, 0, 0, 0) := by decide +kernel
theorem mi_340_86 : mI 340 86 = (14, 21, 4, 107, 0) := by decide +kernel
theorem mi_340_89 : mI 340 89 = (3, 0, 4, 1, 0) := by decide +kernel
theorem mi_340_91 : mI 340 91 = (12, 0, 1, 0, 0) := by decide +kernel
theorem mi_340_92 : mI 340 92 = (3, 0, 5, 1, 0) := by decide +kernel
theorem mi_340_94 : mI 340 94 = (12, 0, 1, 0, 0) := by decide +kernel
theorem mi_340_95 : mI 340 95 = (11, 0, 0, 0, 0) := by decide +kernel
theorem mi_340_96 : mI 340 96 = (5, 0, 0, 0, 0) := by decide +kernel
theorem mi_340_97 : mI 340 97 = (17, 1238, 67, 11, 32) := by decide +kernel
theorem mi_340_100 : mI 340 100 = (3, 0, 3, 0, 0) := by decide +kernel
theorem mi_340_101 : mI 340 101 = (19, 0, 0, 0, 0) := by decide +kernel
theorem mi_340_102 : mI 340 102 = (12, 0, 1, 0, 0) := by decide +kernel
theorem mi_340_103 : mI 340 103 = (13, 0, 0, 0, 0) := by decide +kernel
theorem mi_340_104 : mI 340 104 = (14, 6, 5, 110, 0) := by decide +kernel
theorem mi_340_107 : mI 340 107 = (1, (-7), 1, 0, 0) := by decide +kernel
theorem mi_340_109 : mI 340 109 = (27, 0, 0, 0, 0) := by decide +kernel
theorem mi_340_110 : mI 340 110 = (1, 0, 0, 0, 0) := by decide +kernel
theorem mi_340_111 : mI 340 111 = (6, 0, 6, 1, 0) := by decide +kernel
theorem mi_340_113 : mI 340 113 = (3, 0, 6, 1, 0) := by decide +kernel
theorem mi_340_115 : mI 340 115 = (3, 0, 5, 1, 0) := by decide +kernel
theorem mi_340_117 : mI 340 117 = (15, 30, 3, 147, 0) := by decide +kernel
theorem mi_340_120 : mI 340 120 = (5, 0, 0, 0, 0) := by decide +kernel
theorem mi_340_121 : mI 340 121 = (17, 1241, 77, 11, 35) := by decide +kernel
theorem mi_340_124 : mI 340 124 = (3, 0, 6, 1, 0) := by decide +kernel
theorem mi_340_126 : mI 340 126 = (5, 0, 0, 0, 0) := by decide +kernel
theorem mi_340_127 : mI 340 127 = (17, 1240, 73, 11, 34) := by decide +kernel
theorem mi_340_130 : mI 340 130 = (1, 60, 1, 0, 0) := by decide +kernel
theorem mi_340_132 : mI 340 132 = (3, 0, 1, 0, 0) := by decide +kernel
theorem mi_340_133 : mI 340 133 = (10, 0, 2, 0, 0) := by decide +kernel
theorem mi_340_134 : mI 340 134 = (3, 0, 2, 0, 0) := by decide +kernel
theorem mi_340_135 : mI 340 135 = (10, 0, 0, 0, 0) := by decide +kernel
theorem mi_340_136 : mI 340 136 = (3, 0, 6, 1, 0) := by decide +kernel
theorem mi_340_138 : mI 340 138 = (10, 0, 0, 0, 0) := by decide +kernel
theorem mi_340_139 : mI 340 139 = (19, 0, 2, 0, 0) := by decide +kernel
theorem mi_340_140 : mI 340 140 = (20, 0, 2, 0, 0) := by decide +kernel
theorem mi_340_141 : mI 340 141 = (9, 1, 6, 0, 0) := by decide +kernel
theorem mi_340_144 : mI 340 144 = (16, (-31), 0, 113, 0) := by decide +kernel
theorem mi_340_147 : mI 340 147 = (1, 0, 0, 0, 0) := by decide +kernel
theorem mi_340_148 : mI 340 148 = (6, 0, 6, 1, 0) := by decide +kernel
theorem mi_340_150 : mI 340 150 = (3, 0, 6, 1, 0) := by decide +kernel
theorem mi_340_152 : mI 340 152 = (3, 0, 5, 1, 0) := by decide +kernel
theorem mi_340_154 : mI 340 154 = (15, 31, 3, 185, 0) := by decide +kernel
theorem mi_340_157 : mI 340 157 = (5, 0, 0, 0, 0) := by decide +kernel
theorem mi_340_158 : mI 340 158 = (17, 1240, 73, 11, 34) := by decide +kernel
theorem mi_340_161 : mI 340 161 = (1, 60, 1, 0, 0) := by decide +kernel
theorem mi_340_163 : mI 340 163 = (3, 0, 3, 0, 0) := by decide +kernel
theorem mi_340_164 : mI 340 164 = (10, 0, 2, 0, 0) := by decide +kernel
theorem mi_340_165 : mI 340 165 = (3, 0, 4, 1, 0) := by decide +kernel
theorem mi_340_167 : mI 340 167 = (10, 0, 0, 0, 0) := by decide +kernel
theorem mi_340_168 : mI 340 168 = (3, 0, 6, 1, 0) := by decide +kernel
theorem mi_340_170 : mI 340 170 = (10, 0, 0, 0, 0) := by decide +kernel
theorem mi_340_171 : mI 340 171 = (5, 0, 0, 0, 0) := by decide +kernel
theorem mi_340_172 : mI 340 172 = (17, 1241, 77, 11, 35) := by decide +kernel
theorem mi_340_175 : mI 340 175 = (3, 0, 6, 1, 0) := by decide +kernel
theorem mi_340_177 : mI 340 177 = (19, 0, 2, 0, 0) := by decide +kernel
theorem mi_340_178 : mI 340 178 = (20, 0, 2, 0, 0) := by decide +kernel
theorem mi_340_179 : mI 340 179 = (9, 1, 6, 0, 0) := by decide +kernel
theorem mi_340_182 : mI 340 182 = (16, (-32), 0, 150, 0) := by decide +kernel
theorem mi_340_185 : mI 340 185 = (1, 0, 0, 0, 0) := by decide +kernel
theorem mi_340_186 : mI 340 186 = (27, 0, 0, 0, 0) := by decide +kernel
section REL
variable {l : Launch} {D : va_G} {tys : List (ClassId × FieldType)} {A : Nat → Prop} {ad : Nat → Nat} {ws : va_W} {k d : Nat} {post : Option Value → va_W → Prop} {pc : Nat} {lv : List (Nat × Value)} {st : List Value} {a : Int} {x y z : Nat}
theorem o_c {c ci nf : Nat} {segs : List SG} (hG : GOK ad tys GG ws) (hg : GG[c]? = some ((0, ci, nf), segs)) : ∃ fs : List Value, ws[c]? = some (ad c, .inr (ci, fs)) ∧ fs.length = nf := by
  obtain ⟨e, a1, a2, a3⟩ := hG c _ hg
  obtain ⟨fs, rfl, hl⟩ := a2
  exact ⟨fs, a1, hl⟩
theorem V_getO {c ci nf i : Nat} {segs : List SG} {v : Value} (hi : mI k pc = (17, a, x, ci, i)) (hG : GOK ad tys GG ws) (hg : GG[c]? = some ((0, ci, nf), segs)) (hx : rd ws c i = some v) (kk : V l D tys A k d 0 0 post 0 0 (pc + 3) lv (v :: st) ws) : V l D tys A k d 0 0 post 0 0 pc lv (.ref (ad c) :: st) ws := by
  obtain ⟨fs, a1, hl⟩ := o_c hG hg
  rw [rd_at a1] at hx
  exact V_get hi a1 hx kk
theorem rrO {c ci nf i q : Nat} {segs : List SG} (hg : GG[c]? = some ((0, ci, nf), segs)) (hs : segAt segs i = some (2, (q : Int), (q : Int))) (hi2 : i < nf) (hG : GOK ad tys GG ws) : rd ws c i = some (.ref (ad q)) := by
  obtain ⟨e, a1, a2, a3⟩ := hG c _ hg
  obtain ⟨fs, rfl, hl⟩ := a2
  have hv : fs[i]? = some fs[i] := List.getElem?_eq_getElem (by omega)
  obtain ⟨sp, q1, q2⟩ := a3 i _ hv
  rw [hs] at q1
  cases q1
  have q2 : fs[i] = .ref (ad ((q : Int).toNat)) := q2
  rw [Int.toNat_natCast] at q2
  rw [rd_at a1]
  show fs[i]? = _
  rw [hv, q2]
theorem V_callO {c ci nf d' : Nat} {segs : List SG} {As : List Value} {post' : Option Value → va_W → Prop} (hi : mI k pc = (26, a, x, y, 0)) (hy : y < 352) (hk : mKind y = 0) (hci : mCi y = ci) (hcn : ci < 99) (hg : GG[c]? = some ((0, ci, nf), segs)) (hG : GOK ad tys GG ws) (hc : CT l D tys A y d' 0 0 (.ref (ad c) :: As) ws post') (hd : d' < d) (hn : As.length = mN y) (hst : (st.map fun v => v.category).sum ≤ 8) (kk : ∀ (r : Option Value) (ws' : va_W), post' r ws' → V l D tys A k d 0 0 post 0 0 (pc + 3) lv (r.toList ++ st) ws') : V l D tys A k d 0 0 post 0 0 pc lv (As.reverse ++ .ref (ad c) :: st) ws := by
  obtain ⟨fs, a1, hl⟩ := o_c hG hg
  obtain ⟨T, N, hcl⟩ := ci_at hy hk (by omega)
  rw [hci] at hcl
  exact V_virt hi hy hc hd hn a1 hcl hst ⟨Nat.le_refl _, Nat.le_refl _⟩ kk
theorem V_lenA {c ty n : Nat} {segs : List SG} (hi : mI k pc = (21, a, x, y, z)) (hG : GOK ad tys GG ws) (hg : GG[c]? = some ((1, ty, n), segs)) (kk : V l D tys A k d 0 0 post 0 0 (pc + 1) lv (.int (Int32.ofInt (n : Int)) :: st) ws) : V l D tys A k d 0 0 post 0 0 pc lv (.ref (ad c) :: st) ws := by
  obtain ⟨cA, f, h1, h2⟩ := ar_of hG hg
  exact V_alen hi h1 h2 kk
theorem at_ct {c n j : Nat} {segs : List SG} {v : Int32} (hG : GOK ad tys GG ws) (hg : GG[c]? = some ((1, 0, n), segs)) (hj : j < n) (hn : n ≤ 100000) (hx : rd ws c j = some (.int v)) : CT l D tys A 147 0 0 0 [.ref (ad c), .int (Int32.ofInt (j : Int))] ws (fun r w => w = ws ∧ r = some (.int v)) := by
  refine CT_of_V (by omega) (show (2 : Nat) ≤ mML 147 by decide +kernel) ?_
  refine V_iload (v := Int32.ofInt (j : Int)) mi_147_0 (List.Mem.tail _ (List.Mem.head _)) ?_
  have h1 : cdP 2 (Int32.ofInt (j : Int)) 0 ↔ cdZ 2 ((j : Int) - 0) := cdP_iff (x := 2) (a := (j : Int)) (b := 0) (by omega) (by omega) (by omega) (by omega)
  refine V_if mi_147_1 (fun h => absurd (show (j : Int) - 0 < 0 from h1.mp h) (by omega)) (fun _ => ?_)
  refine V_iload (v := Int32.ofInt (j : Int)) mi_147_4 (List.Mem.tail _ (List.Mem.head _)) ?_
  refine V_aload (v := ad c) mi_147_5 (List.Mem.head _) ?_
  refine V_lenA mi_147_6 hG hg ?_
  have h2 := cdP_iff (x := 3) (a := (j : Int)) (b := (n : Int)) (by omega) (by omega) (by omega) (by omega)
  refine V_icmp mi_147_7 (fun h => absurd (show 0 ≤ (j : Int) - n from h2.mp h) (by omega)) (fun _ => ?_)
  refine V_aload (v := ad c) mi_147_10 (List.Mem.head _) ?_
  refine V_iload (v := Int32.ofInt (j : Int)) mi_147_11 (List.Mem.tail _ (List.Mem.head _)) ?_
  refine V_aldX (j := j) mi_147_12 rfl hG hg hj hn hx ?_
  refine V_goto mi_147_13 ?_
  exact V_retI mi_147_17 (fun h => absurd h (by decide +kernel)) ⟨rfl, rfl⟩
theorem put_ct {c n j : Nat} {lo hi : Int} {segs : List SG} {v : Int32} (hG : GOK ad tys GG ws) (hg : GG[c]? = some ((1, 0, n), segs)) (hj : j < n) (hn : n ≤ 100000) (hs : segAt segs j = some (0, lo, hi)) (b1 : lo ≤ v.toInt) (b2 : v.toInt ≤ hi) : CT l D tys A 148 0 0 0 [.ref (ad c), .int (Int32.ofInt (j : Int)), .int v] ws (fun r w => r = none ∧ GOK ad tys GG w ∧ Upd1 ws w c j (.int v)) := by
  refine CT_of_V (by omega) (show (3 : Nat) ≤ mML 148 by decide +kernel) ?_
  refine V_iload (v := Int32.ofInt (j : Int)) mi_148_0 (List.Mem.tail _ (List.Mem.head _)) ?_
  have h1 : cdP 2 (Int32.ofInt (j : Int)) 0 ↔ cdZ 2 ((j : Int) - 0) := cdP_iff (x := 2) (a := (j : Int)) (b := 0) (by omega) (by omega) (by omega) (by omega)
  refine V_if mi_148_1 (fun h => absurd (show (j : Int) - 0 < 0 from h1.mp h) (by omega)) (fun _ => ?_)
  refine V_iload (v := Int32.ofInt (j : Int)) mi_148_4 (List.Mem.tail _ (List.Mem.head _)) ?_
  refine V_aload (v := ad c) mi_148_5 (List.Mem.head _) ?_
  refine V_lenA mi_148_6 hG hg ?_
  have h2 := cdP_iff (x := 3) (a := (j : Int)) (b := (n : Int)) (by omega) (by omega) (by omega) (by omega)
  refine V_icmp mi_148_7 (fun h => absurd (show 0 ≤ (j : Int) - n from h2.mp h) (by omega)) (fun _ => ?_)
  refine V_aload (v := ad c) mi_148_10 (List.Mem.head _) ?_
  refine V_iload (v := Int32.ofInt (j : Int)) mi_148_11 (List.Mem.tail _ (List.Mem.head _)) ?_
  refine V_iload (v := v) mi_148_12 (List.Mem.tail _ (List.Mem.tail _ (List.Mem.head _))) ?_
  refine V_astX (j := j) mi_148_13 rfl hG hg hj hn hs b1 b2 (fun w1 G1 U1 => ?_)
  exact V_retV mi_148_14 ⟨rfl, G1, U1⟩
theorem gx0 : ∃ s, GG[0]? = some ((0, 10, 13), s) ∧ segAt s 7 = some (2, ((39 : Nat) : Int), ((39 : Nat) : Int)) ∧ segAt s 12 = some (0, 0, 7) := ⟨_, rfl, by decide +kernel, by decide +kernel⟩
theorem gx39 : ∃ s, GG[39]? = some ((0, 7, 3), s) ∧ segAt s 1 = some (2, ((41 : Nat) : Int), ((41 : Nat) : Int)) ∧ segAt s 2 = some (2, ((42 : Nat) : Int), ((42 : Nat) : Int)) := ⟨_, rfl, by decide +kernel, by decide +kernel⟩
theorem seg4 {c : Nat} {lo hi : Int} (h : ∃ s, GG[c]? = some ((1, 0, 4), s) ∧ s = [(4, 0, lo, hi)]) : ∃ s, GG[c]? = some ((1, 0, 4), s) ∧ ∀ j, j < 4 → segAt s j = some (0, lo, hi) := by
  obtain ⟨s, h1, rfl⟩ := h
  refine ⟨_, h1, fun j hj => ?_⟩
  show (bif Nat.blt j 4 then some _ else _) = _
  rw [show Nat.blt j 4 = true from Nat.blt_eq.mpr hj]
  rfl
theorem gx41 : ∃ s, GG[41]? = some ((1, 0, 4), s) ∧ ∀ j, j < 4 → segAt s j = some (0, 0, 3) := seg4 ⟨_, rfl, rfl⟩
theorem gx42 : ∃ s, GG[42]? = some ((1, 0, 4), s) ∧ ∀ j, j < 4 → segAt s j = some (0, -1, 60) := seg4 ⟨_, rfl, rfl⟩
theorem gm107 : ∃ s, GG[107]? = some ((1, 0, 4), s) ∧ ∀ j, j < 4 → segAt s j = some (0, -1, 60) := seg4 ⟨_, rfl, rfl⟩
theorem gm108 : ∃ s, GG[108]? = some ((1, 0, 4), s) ∧ ∀ j, j < 4 → segAt s j = some (0, 0, 3) := seg4 ⟨_, rfl, rfl⟩
theorem gr32 : ∃ g, GG[90]? = some ((0, 11, 36), g) ∧ segAt g 32 = some (2, ((107 : Nat) : Int), ((107 : Nat) : Int)) := ⟨_, rfl, by decide +kernel⟩
theorem gr33 : ∃ g, GG[90]? = some ((0, 11, 36), g) ∧ segAt g 33 = some (2, ((108 : Nat) : Int), ((108 : Nat) : Int)) := ⟨_, rfl, by decide +kernel⟩
/-- a slot that there is -/
noncomputable abbrev SL (v : Int32) : Prop := 0 ≤ v.toInt ∧ v.toInt ≤ 3
theorem cmp_l {u v : Int32} : cdP 2 u v ↔ u.toInt < v.toInt := by
  have h := cdP_iff (x := 2) (a := u.toInt) (b := v.toInt) (Int32.le_toInt u) (by have := Int32.toInt_lt u; omega) (Int32.le_toInt v) (by have := Int32.toInt_lt v; omega)
  rw [Int32.ofInt_toInt, Int32.ofInt_toInt] at h
  rw [h]
  show u.toInt - v.toInt < 0 ↔ _
  omega
theorem cmp_g {u v : Int32} : cdP 3 u v ↔ v.toInt ≤ u.toInt := by
  have h := cdP_iff (x := 3) (a := u.toInt) (b := v.toInt) (Int32.le_toInt u) (by have := Int32.toInt_lt u; omega) (Int32.le_toInt v) (by have := Int32.toInt_lt v; omega)
  rw [Int32.ofInt_toInt, Int32.ofInt_toInt] at h
  rw [h]
  show 0 ≤ u.toInt - v.toInt ↔ _
  omega
theorem cmp_le {u v : Int32} : cdP 5 u v ↔ u.toInt ≤ v.toInt := by
  have h := cdP_iff (x := 5) (a := u.toInt) (b := v.toInt) (Int32.le_toInt u) (by have := Int32.toInt_lt u; omega) (Int32.le_toInt v) (by have := Int32.toInt_lt v; omega)
  rw [Int32.ofInt_toInt, Int32.ofInt_toInt] at h
  rw [h]
  show u.toInt - v.toInt ≤ 0 ↔ _
  omega
theorem tIi (z : Int) (h1 : -2147483648 ≤ z) (h2 : z ≤ 2147483647) : (Int32.ofInt z).toInt = z := Int32.toInt_ofInt_of_le h1 (by omega)
theorem has_ct (v : Int32) : CT l D tys A 160 0 0 0 [.ref (ad 39), .int v] ws (fun r w => w = ws ∧ r = some (.int (bI (decide (SL v))))) := by
  refine CT_of_V (by omega) (show (2 : Nat) ≤ mML 160 by decide +kernel) ?_
  have no : ∀ lv : List (Nat × Value), ¬ SL v → V l D tys A 160 0 0 0 (fun r w => w = ws ∧ r = some (.int (bI (decide (SL v))))) 0 0 13 lv [] ws := fun lv hn => V_ipush mi_160_13 (V_retI mi_160_14 (fun _ => by decide) ⟨rfl, by rw [decide_eq_false hn]; rfl⟩)
  refine V_iload (v := v) mi_160_0 (List.Mem.tail _ (List.Mem.head _)) ?_
  refine V_if mi_160_1 (fun h => no _ (fun q => absurd (cmp_l.mp h) (by show ¬ (_ < (0 : Int)); exact Int.not_lt.mpr q.1))) (fun h1 => ?_)
  have h1 : 0 ≤ v.toInt := by
    rcases Int.lt_or_le v.toInt 0 with q | q
    · exact absurd (cmp_l.mpr (show v.toInt < (0 : Int32).toInt from q)) h1
    · exact q
  refine V_iload (v := v) mi_160_4 (List.Mem.tail _ (List.Mem.head _)) ?_
  refine V_ipush mi_160_5 ?_
  have e4 : (Int32.ofInt 4).toInt = 4 := tIi 4 (by omega) (by omega)
  refine V_icmp mi_160_6 (fun h => no _ (fun q => by have := cmp_g.mp h; have := q.2; omega)) (fun h2 => ?_)
  have h2 : v.toInt ≤ 3 := by
    rcases Int.lt_or_le v.toInt 4 with q | q
    · omega
    · exact absurd (cmp_g.mpr (by omega)) h2
  refine V_ipush mi_160_9 ?_
  refine V_goto mi_160_10 ?_
  exact V_retI mi_160_14 (fun _ => by decide) ⟨rfl, by rw [decide_eq_true (show SL v from ⟨h1, h2⟩)]; rfl⟩
theorem sl_nat {v : Int32} (h : SL v) : v = Int32.ofInt ((v.toInt.toNat : Nat) : Int) ∧ v.toInt.toNat < 4 := by
  obtain ⟨h1, h2⟩ := h
  exact ⟨by rw [Int.toNat_of_nonneg h1, Int32.ofInt_toInt], by omega⟩
theorem n8c {c j : Nat} (h : c ≠ 90) : ¬ (c = mnC ∧ spJ j = true) := fun q => h q.1
theorem slot_ct (v : Int32) : CT l D tys A 336 1 0 0 [.int v] ws (fun r w => w = ws ∧ r = some (.int (bI (decide (SL v))))) := by
  refine CT_of_V (by omega) (show (1 : Nat) ≤ mML 336 by decide +kernel) ?_
  have b1 := Int32.le_toInt v
  have b2 := Int32.toInt_lt v
  refine V_iload (v := v) mi_336_0 (List.Mem.head _) ?_
  refine V_i2l mi_336_1 ?_
  refine V_lpush mi_336_2 ?_
  refine V_lpush mi_336_3 ?_
  have el : v.toInt64 = Int64.ofInt v.toInt := by
    have q := Int32.toInt64_ofInt (n := v.toInt) (by show -2147483648 ≤ _; omega) (by show _ ≤ 2147483647; omega)
    rw [Int32.ofInt_toInt] at q
    exact q
  rw [el]
  refine V_stat (As := [.long (Int64.ofInt v.toInt), .long (Int64.ofInt 0), .long (Int64.ofInt 3)]) (st := []) mi_336_6 (by omega) (in2_ct (by omega) (by omega) (by omega) (by omega) (by omega) (by omega)) (by omega) (show 3 = mN 193 by decide +kernel) (by simp) ⟨Nat.le_refl _, Nat.le_refl _⟩ ?_
  rintro r w ⟨rfl, hr⟩
  rcases hr with ⟨rfl, q1, q2⟩ | ⟨rfl, hn⟩
  · exact V_retI mi_336_9 (fun _ => by decide) ⟨rfl, by rw [decide_eq_true (show SL v from ⟨q1, q2⟩)]; rfl⟩
  · exact V_retI mi_336_9 (fun _ => by decide) ⟨rfl, by rw [decide_eq_false (show ¬ SL v from hn)]; rfl⟩
theorem el_ (v : Int32) : v.toInt64 = Int64.ofInt v.toInt := by
  have b1 := Int32.le_toInt v
  have b2 := Int32.toInt_lt v
  have q := Int32.toInt64_ofInt (n := v.toInt) (by show -2147483648 ≤ _; omega) (by show _ ≤ 2147483647; omega)
  rw [Int32.ofInt_toInt] at q
  exact q
/-- the size of a slot that there is -/
theorem size_ct {v m : Int32} (hv : SL v) (hG : GOK ad tys GG ws) (hm : rd ws 42 v.toInt.toNat = some (.int m)) : CT l D tys A 162 1 0 0 [.ref (ad 39), .int v] ws (fun r w => w = ws ∧ r = some (.int m)) := by
  refine CT_of_V (by omega) (show (2 : Nat) ≤ mML 162 by decide +kernel) ?_
  obtain ⟨ev, sv⟩ := sl_nat hv
  obtain ⟨s39, e39, t1, t2⟩ := gx39
  obtain ⟨s42, e42, f42⟩ := gx42
  have lvs : lv_args 0 [Value.ref (ad 39), .int v] = [(0, .ref (ad 39)), (1, .int v)] := rfl
  rw [lvs]
  refine V_aload (v := ad 39) mi_162_0 (by simp) ?_
  refine V_iload (v := v) mi_162_1 (by simp) ?_
  refine V_callO (c := 39) (As := [.int v]) (st := []) mi_162_2 (by omega) (by decide +kernel) (show mCi 160 = 7 by decide +kernel) (by omega) e39 hG (has_ct v) (by omega) (show 1 = mN 160 by decide +kernel) (by simp) ?_
  rintro r w ⟨rfl, rfl⟩
  rw [decide_eq_true hv]
  refine V_if mi_162_5 (fun h => absurd (show (1 : Int32) = 0 from h) (by decide)) (fun _ => ?_)
  refine V_aload (v := ad 39) mi_162_8 (by simp) ?_
  refine V_getO mi_162_9 hG e39 (rrO e39 t2 (by omega) hG) ?_
  refine V_iload (v := v) mi_162_12 (by simp) ?_
  refine V_stat (As := [.ref (ad 42), .int v]) (st := []) mi_162_13 (by omega) (by rw [ev]; exact at_ct hG e42 sv (by omega) hm) (by omega) (show 2 = mN 147 by decide +kernel) (by simp) ⟨Nat.le_refl _, Nat.le_refl _⟩ ?_
  rintro r w ⟨rfl, rfl⟩
  refine V_goto mi_162_16 ?_
  exact V_retI mi_162_20 (fun h => absurd h (by decide +kernel)) ⟨rfl, rfl⟩
theorem bare_ct {v m : Int32} (hv : SL v) (hG : GOK ad tys GG ws) (hm : rd ws 42 v.toInt.toNat = some (.int m)) : CT l D tys A 161 2 0 0 [.ref (ad 39), .int v] ws (fun r w => w = ws ∧ r = some (.int (bI (decide (m.toInt < 0))))) := by
  refine CT_of_V (by omega) (show (2 : Nat) ≤ mML 161 by decide +kernel) ?_
  obtain ⟨s39, e39, -, -⟩ := gx39
  have lvs : lv_args 0 [Value.ref (ad 39), .int v] = [(0, .ref (ad 39)), (1, .int v)] := rfl
  rw [lvs]
  refine V_aload (v := ad 39) mi_161_0 (by simp) ?_
  refine V_iload (v := v) mi_161_1 (by simp) ?_
  refine V_callO (c := 39) (As := [.int v]) (st := []) mi_161_2 (by omega) (by decide +kernel) (show mCi 162 = 7 by decide +kernel) (by omega) e39 hG (size_ct hv hG hm) (by omega) (show 1 = mN 162 by decide +kernel) (by simp) ?_
  rintro r w ⟨rfl, rfl⟩
  have z0 : (0 : Int32).toInt = 0 := rfl
  refine V_if mi_161_5 (fun h => ?_) (fun h => ?_)
  · have := cmp_g.mp h
    refine V_ipush mi_161_12 ?_
    exact V_retI mi_161_13 (fun _ => by decide) ⟨rfl, by rw [decide_eq_false (by omega)]; rfl⟩
  · have h : m.toInt < 0 := by
      rcases Int.lt_or_le m.toInt 0 with q | q
      · exact q
      · exact absurd (cmp_g.mpr (by omega)) h
    refine V_ipush mi_161_8 ?_
    refine V_goto mi_161_9 ?_
    exact V_retI mi_161_13 (fun _ => by decide) ⟨rfl, by rw [decide_eq_true h]; rfl⟩
end REL
end
section
section PAS
variable {l : Launch} {D : va_G} {tys : List (ClassId × FieldType)} {A : Nat → Prop} {ad : Nat → Nat} {ws : va_W} {k d : Nat} {post : Option Value → va_W → Prop} {pc : Nat} {lv : List (Nat × Value)} {st : List Value} {a : Int} {x y z : Nat}
theorem V_laldI {c n j : Nat} {segs : List SG} {ix : Int32} (hi : mI k pc = (19, a, 2, y, z)) (hix : ix = Int32.ofInt (j : Int)) (hG : GOK ad tys GG ws) (hg : GG[c]? = some ((2, 3, n), segs)) (hj : j < n) (hn : n ≤ 100000) (kk : ∀ q : Int64, V l D tys A k d 0 0 post 0 0 (pc + 1) lv (.long q :: st) ws) : V l D tys A k d 0 0 post 0 0 pc lv (.int ix :: .ref (ad c) :: st) ws := by
  subst hix
  obtain ⟨e, b1, b2, b3⟩ := hG c _ hg
  obtain ⟨cA, f, rfl, c1⟩ := b2
  exact V_lald hi b1 c1 (ix_in hj hn).1 (kk _)
theorem V_lastI {c n j : Nat} {segs : List SG} {ix : Int32} {q : Int64} (hi : mI k pc = (20, a, 2, y, z)) (hix : ix = Int32.ofInt (j : Int)) (hG : GOK ad tys GG ws) (hg : GG[c]? = some ((2, 3, n), segs)) (hj : j < n) (hn : n ≤ 100000) (hs : segAt segs j = some (1, -9223372036854775808, 9223372036854775807)) (kk : ∀ w : va_W, GOK ad tys GG w → Upd1 ws w c j (.long q) → V l D tys A k d 0 0 post 0 0 (pc + 1) lv st w) : V l D tys A k d 0 0 post 0 0 pc lv (.long q :: .int ix :: .ref (ad c) :: st) ws := by
  subst hix
  obtain ⟨e, b1, b2, b3⟩ := hG c _ hg
  obtain ⟨cA, f, rfl, c1⟩ := b2
  refine V_last hi b1 c1 (ix_in hj hn).1 ?_
  rw [(ix_in hj hn).2]
  have q1 := Int64.le_toInt q
  have q2 := Int64.toInt_lt q
  have hu := GOK_upd (j := j) (v := .long q) (e' := .inl (cA, n, .inr (.inl (vp_updL f j q)))) hG hg b1 ⟨cA, _, rfl, c1⟩ (fun j' => by
    show (if j' < n then some (Value.long (vp_updL f j q j')) else none) = if j' = j then some (Value.long q) else if j' < n then some (Value.long (f j')) else none
    unfold vp_updL
    by_cases h : j' = j
    · subst h; simp [hj]
    · simp [h]) hs ⟨q.toInt, by rw [Int64.ofInt_toInt], by show (-9223372036854775808 : Int) ≤ q.toInt; omega, by show q.toInt ≤ (9223372036854775807 : Int); omega⟩
  exact kk _ hu.1 hu.2
theorem gl109 : ∃ s, GG[109]? = some ((2, 3, 240), s) ∧ ∀ j, j < 240 → segAt s j = some (1, -9223372036854775808, 9223372036854775807) := by
  refine ⟨_, rfl, fun j hj => ?_⟩
  show (bif Nat.blt j 240 then some _ else _) = _
  rw [show Nat.blt j 240 = true from Nat.blt_eq.mpr hj]
  rfl
theorem gl110 : ∃ s, GG[110]? = some ((2, 3, 60), s) ∧ ∀ j, j < 60 → segAt s j = some (1, -9223372036854775808, 9223372036854775807) := by
  refine ⟨_, rfl, fun j hj => ?_⟩
  show (bif Nat.blt j 60 then some _ else _) = _
  rw [show Nat.blt j 60 = true from Nat.blt_eq.mpr hj]
  rfl
theorem gr34 : ∃ g, GG[90]? = some ((0, 11, 36), g) ∧ segAt g 34 = some (2, ((109 : Nat) : Int), ((109 : Nat) : Int)) := ⟨_, rfl, by decide +kernel⟩
theorem gr35 : ∃ g, GG[90]? = some ((0, 11, 36), g) ∧ segAt g 35 = some (2, ((110 : Nat) : Int), ((110 : Nat) : Int)) := ⟨_, rfl, by decide +kernel⟩
theorem wid_ct {v m : Int32} (hv : SL v) (hG : GOK ad tys GG ws) (hm : rd ws 41 v.toInt.toNat = some (.int m)) : CT l D tys A 163 1 0 0 [.ref (ad 39), .int v] ws (fun r w => w = ws ∧ r = some (.int m)) := by
  refine CT_of_V (by omega) (show (2 : Nat) ≤ mML 163 by decide +kernel) ?_
  obtain ⟨ev, sv⟩ := sl_nat hv
  obtain ⟨s39, e39, t1, t2⟩ := gx39
  obtain ⟨s41, e41, f41⟩ := gx41
  have lvs : lv_args 0 [Value.ref (ad 39), .int v] = [(0, .ref (ad 39)), (1, .int v)] := rfl
  rw [lvs]
  refine V_aload (v := ad 39) mi_163_0 (by simp) ?_
  refine V_getO mi_163_1 hG e39 (rrO e39 t1 (by omega) hG) ?_
  refine V_iload (v := v) mi_163_4 (by simp) ?_
  refine V_stat (As := [.ref (ad 41), .int v]) (st := []) mi_163_5 (by omega) (by rw [ev]; exact at_ct hG e41 sv (by omega) hm) (by omega) (show 2 = mN 147 by decide +kernel) (by simp) ⟨Nat.le_refl _, Nat.le_refl _⟩ ?_
  rintro r w ⟨rfl, rfl⟩
  exact V_retI mi_163_8 (fun h => absurd h (by decide +kernel)) ⟨rfl, rfl⟩
theorem ladd_ {u v : Int} : lbF 0 (Int64.ofInt u) (Int64.ofInt v) = Int64.ofInt (u + v) := by
  show Int64.ofInt u + Int64.ofInt v = _
  rw [← Int64.ofInt_add]
noncomputable abbrev RG (i n m : Int32) : Prop := 0 ≤ i.toInt ∧ 0 ≤ n.toInt ∧ i.toInt + n.toInt ≤ m.toInt
theorem nl0 {v : Int32} (h : ¬ cdP 2 v 0) : 0 ≤ v.toInt := by
  rcases Int.lt_or_le v.toInt 0 with q | q
  · exact absurd (cmp_l.mpr (show v.toInt < (0 : Int32).toInt from q)) h
  · exact q
theorem l0 {v : Int32} (h : cdP 2 v 0) : v.toInt < 0 := cmp_l.mp h
theorem ran_ct {v i n m : Int32} (hv : SL v) (hG : GOK ad tys GG ws) (hm : rd ws 42 v.toInt.toNat = some (.int m)) : CT l D tys A 168 2 0 0 [.ref (ad 39), .int v, .int i, .int n] ws (fun r w => w = ws ∧ r = some (.int (bI (decide (RG i n m))))) := by
  refine CT_of_V (by omega) (show (4 : Nat) ≤ mML 168 by decide +kernel) ?_
  obtain ⟨s39, e39, t1, t2⟩ := gx39
  have lvs : lv_args 0 [Value.ref (ad 39), .int v, .int i, .int n] = [(0, .ref (ad 39)), (1, .int v), (2, .int i), (3, .int n)] := rfl
  rw [lvs]
  have no : ¬ RG i n m → V l D tys A 168 2 0 0 (fun r w => w = ws ∧ r = some (.int (bI (decide (RG i n m))))) 0 0 27 [(0, .ref (ad 39)), (1, .int v), (2, .int i), (3, .int n)] [] ws := fun h => V_ipush mi_168_27 (V_retI mi_168_28 (fun _ => by decide) ⟨rfl, by rw [decide_eq_false h]; rfl⟩)
  have i1 := Int32.le_toInt i
  have i2 := Int32.toInt_lt i
  have n1 := Int32.le_toInt n
  have n2 := Int32.toInt_lt n
  have m1 := Int32.le_toInt m
  have m2 := Int32.toInt_lt m
  refine V_iload (v := i) mi_168_0 (by simp) ?_
  refine V_if mi_168_1 (fun h => no (fun q => by have := l0 h; have := q.1; omega)) (fun h1 => ?_)
  have h1 := nl0 h1
  refine V_iload (v := n) mi_168_4 (by simp) ?_
  refine V_if mi_168_5 (fun h => no (fun q => by have := l0 h; have := q.2.1; omega)) (fun h2 => ?_)
  have h2 := nl0 h2
  refine V_iload (v := i) mi_168_8 (by simp) ?_
  refine V_i2l mi_168_9 ?_
  refine V_iload (v := n) mi_168_10 (by simp) ?_
  refine V_i2l mi_168_11 ?_
  refine V_lbin mi_168_12 (by omega) ?_
  rw [el_, el_, ladd_]
  refine V_aload (v := ad 39) mi_168_13 (by simp) ?_
  refine V_iload (v := v) mi_168_14 (by simp) ?_
  refine V_callO (c := 39) (As := [.int v]) (st := [.long (Int64.ofInt (i.toInt + n.toInt))]) mi_168_15 (by omega) (by decide +kernel) (show mCi 162 = 7 by decide +kernel) (by omega) e39 hG (size_ct hv hG hm) (by omega) (show 1 = mN 162 by decide +kernel) (by simp [Value.category]) ?_
  rintro r w ⟨rfl, rfl⟩
  refine V_i2l mi_168_18 ?_
  rw [el_]
  refine V_lcmp mi_168_19 ?_
  have hc := cdL_iff (x := 4) (a := i.toInt + n.toInt) (b := m.toInt) (by omega) (by omega) (by omega) (by omega)
  refine V_if mi_168_20 (fun h => no (fun q => by have : i.toInt + n.toInt - m.toInt > 0 := hc.mp h; have := q.2.2; omega)) (fun h3 => ?_)
  have h3 : i.toInt + n.toInt ≤ m.toInt := by
    have : ¬ (i.toInt + n.toInt - m.toInt > 0) := fun q => h3 (hc.mpr q)
    omega
  refine V_ipush mi_168_23 ?_
  refine V_goto mi_168_24 ?_
  exact V_retI mi_168_28 (fun _ => by decide) ⟨rfl, by rw [decide_eq_true (show RG i n m from ⟨h1, h2, h3⟩)]; rfl⟩
noncomputable def cSh : CR := (169, [(2, 39, 39), (0, 0, 3), (0, 0, 60), (0, 0, 3), (0, 0, 60), (0, 0, 60)], [], none, [], [40])
theorem mSh : vrf GG [] [] 600 4 cSh [(3, [(0, 3), (0, 60), (0, 3), (0, 60), (0, 60), (0, 60)], [(0, rA 39), (1, iA (0, [(1, 0)])), (2, iA (0, [(1, 1)])), (3, iA (0, [(1, 2)])), (4, iA (0, [(1, 3)])), (5, iA (0, [(1, 4)])), (6, iA (0, [(1, 5)]))], [], [], (61, [((-1), 5)]))] = true := by decide +kernel
noncomputable def paV (v i t q n m1 m2 w1 w2 : Int32) : Int := if SL v ∧ SL t then (if m1.toInt < 0 ∨ m2.toInt < 0 then -6 else if w1 ≠ w2 then -8 else if RG i n m1 ∧ RG q n m2 then 0 else -7) else -2
theorem pastex_ct (hAD : ∀ i : Nat, ad (1000 + i) = D.2 1000 i) (v i t q n : Int32) {m1 m2 w1 w2 : Int32} (hm1 : SL v → rd ws 42 v.toInt.toNat = some (.int m1)) (hm2 : SL t → rd ws 42 t.toInt.toNat = some (.int m2)) (hw1 : SL v → rd ws 41 v.toInt.toNat = some (.int w1)) (hw2 : SL t → rd ws 41 t.toInt.toNat = some (.int w2)) (hG : GOK ad tys GG ws) : CT l D tys A 72 6 0 0 [.ref (ad 0), .int v, .int i, .int t, .int q, .int n] ws (fun r w => r = some (.int (Int32.ofInt (paV v i t q n m1 m2 w1 w2))) ∧ GOK ad tys GG w ∧ FRm [40] ws w) := by
  refine CT_of_V (by omega) (show (6 : Nat) ≤ mML 72 by decide +kernel) ?_
  obtain ⟨s0, e0, t7, -⟩ := gx0
  obtain ⟨s39, e39, -, -⟩ := gx39
  have lvs : lv_args 0 [Value.ref (ad 0), .int v, .int i, .int t, .int q, .int n] = [(0, .ref (ad 0)), (1, .int v), (2, .int i), (3, .int t), (4, .int q), (5, .int n)] := rfl
  rw [lvs]
  have no2 : ¬ (SL v ∧ SL t) → V l D tys A 72 6 0 0 (fun r w => r = some (.int (Int32.ofInt (paV v i t q n m1 m2 w1 w2))) ∧ GOK ad tys GG w ∧ FRm [40] ws w) 0 0 22 [(0, .ref (ad 0)), (1, .int v), (2, .int i), (3, .int t), (4, .int q), (5, .int n)] [] ws := fun h => V_ipush mi_72_22 (V_retI mi_72_24 (fun h => absurd h (by decide +kernel)) ⟨by unfold paV; rw [if_neg h], hG, FRm_rf⟩)
  refine V_aload (v := ad 0) mi_72_0 (by simp) ?_
  refine V_getO mi_72_1 hG e0 (rrO e0 t7 (by omega) hG) ?_
  refine V_iload (v := v) mi_72_4 (by simp) ?_
  refine V_callO (c := 39) (As := [.int v]) (st := []) mi_72_5 (by omega) (by decide +kernel) (show mCi 160 = 7 by decide +kernel) (by omega) e39 hG (has_ct v) (by omega) (show 1 = mN 160 by decide +kernel) (by simp) ?_
  rintro r w ⟨rfl, rfl⟩
  by_cases hv : SL v
  case neg =>
    rw [decide_eq_false hv]
    exact V_if mi_72_8 (fun _ => no2 (fun z => hv z.1)) (fun h => absurd (show (0 : Int32) = 0 from rfl) h)
  rw [decide_eq_true hv]
  refine V_if mi_72_8 (fun h => absurd (show (1 : Int32) = 0 from h) (by decide)) (fun _ => ?_)
  refine V_aload (v := ad 0) mi_72_11 (by simp) ?_
  refine V_getO mi_72_12 hG e0 (rrO e0 t7 (by omega) hG) ?_
  refine V_iload (v := t) mi_72_15 (by simp) ?_
  refine V_callO (c := 39) (As := [.int t]) (st := []) mi_72_16 (by omega) (by decide +kernel) (show mCi 160 = 7 by decide +kernel) (by omega) e39 hG (has_ct t) (by omega) (show 1 = mN 160 by decide +kernel) (by simp) ?_
  rintro r w ⟨rfl, rfl⟩
  by_cases ht : SL t
  case neg =>
    rw [decide_eq_false ht]
    exact V_if mi_72_19 (fun h => absurd (show (0 : Int32) = 0 from rfl) h) (fun _ => no2 (fun z => ht z.2))
  rw [decide_eq_true ht]
  refine V_if mi_72_19 (fun _ => ?_) (fun h => absurd (show (1 : Int32) ≠ 0 by decide) h)
  have hm1 := hm1 hv
  have hm2 := hm2 ht
  have hw1 := hw1 hv
  have hw2 := hw2 ht
  have no6 : m1.toInt < 0 ∨ m2.toInt < 0 → V l D tys A 72 6 0 0 (fun r w' => r = some (.int (Int32.ofInt (paV v i t q n m1 m2 w1 w2))) ∧ GOK ad tys GG w' ∧ FRm [40] w w') 0 0 47 [(0, .ref (ad 0)), (1, .int v), (2, .int i), (3, .int t), (4, .int q), (5, .int n)] [] w := fun h => V_ipush mi_72_47 (V_retI mi_72_49 (fun h => absurd h (by decide +kernel)) ⟨by unfold paV; rw [if_pos ⟨hv, ht⟩, if_pos h], hG, FRm_rf⟩)
  refine V_aload (v := ad 0) mi_72_25 (by simp) ?_
  refine V_getO mi_72_26 hG e0 (rrO e0 t7 (by omega) hG) ?_
  refine V_iload (v := v) mi_72_29 (by simp) ?_
  refine V_callO (c := 39) (As := [.int v]) (st := []) mi_72_30 (by omega) (by decide +kernel) (show mCi 161 = 7 by decide +kernel) (by omega) e39 hG (bare_ct hv hG hm1) (by omega) (show 1 = mN 161 by decide +kernel) (by simp) ?_
  rintro r w ⟨rfl, rfl⟩
  by_cases hb1 : m1.toInt < 0
  · rw [decide_eq_true hb1]
    exact V_if mi_72_33 (fun _ => no6 (Or.inl hb1)) (fun h => absurd (show (1 : Int32) ≠ 0 by decide) h)
  rw [decide_eq_false hb1]
  refine V_if mi_72_33 (fun h => absurd (show (0 : Int32) = 0 from rfl) h) (fun _ => ?_)
  refine V_aload (v := ad 0) mi_72_36 (by simp) ?_
  refine V_getO mi_72_37 hG e0 (rrO e0 t7 (by omega) hG) ?_
  refine V_iload (v := t) mi_72_40 (by simp) ?_
  refine V_callO (c := 39) (As := [.int t]) (st := []) mi_72_41 (by omega) (by decide +kernel) (show mCi 161 = 7 by decide +kernel) (by omega) e39 hG (bare_ct ht hG hm2) (by omega) (show 1 = mN 161 by decide +kernel) (by simp) ?_
  rintro r w ⟨rfl, rfl⟩
  by_cases hb2 : m2.toInt < 0
  · rw [decide_eq_true hb2]
    exact V_if mi_72_44 (fun h => absurd (show (1 : Int32) = 0 from h) (by decide)) (fun _ => no6 (Or.inr hb2))
  rw [decide_eq_false hb2]
  refine V_if mi_72_44 (fun _ => ?_) (fun h => absurd (show (0 : Int32) = 0 from rfl) h)
  have hb : ¬ (m1.toInt < 0 ∨ m2.toInt < 0) := by omega
  refine V_aload (v := ad 0) mi_72_50 (by simp) ?_
  refine V_getO mi_72_51 hG e0 (rrO e0 t7 (by omega) hG) ?_
  refine V_iload (v := v) mi_72_54 (by simp) ?_
  refine V_callO (c := 39) (As := [.int v]) (st := []) mi_72_55 (by omega) (by decide +kernel) (show mCi 163 = 7 by decide +kernel) (by omega) e39 hG (wid_ct hv hG hw1) (by omega) (show 1 = mN 163 by decide +kernel) (by simp) ?_
  rintro r w ⟨rfl, rfl⟩
  refine V_aload (v := ad 0) mi_72_58 (by simp) ?_
  refine V_getO mi_72_59 hG e0 (rrO e0 t7 (by omega) hG) ?_
  refine V_iload (v := t) mi_72_62 (by simp) ?_
  refine V_callO (c := 39) (As := [.int t]) (st := [.int w1]) mi_72_63 (by omega) (by decide +kernel) (show mCi 163 = 7 by decide +kernel) (by omega) e39 hG (wid_ct ht hG hw2) (by omega) (show 1 = mN 163 by decide +kernel) (by simp [Value.category]) ?_
  rintro r w ⟨rfl, rfl⟩
  refine V_icmp mi_72_66 (fun hw => ?_) (fun hw => ?_)
  rotate_left
  · have hw : w1 ≠ w2 := hw
    refine V_ipush mi_72_69 ?_
    exact V_retI mi_72_71 (fun h => absurd h (by decide +kernel)) ⟨by unfold paV; rw [if_pos ⟨hv, ht⟩, if_neg hb, if_pos hw], hG, FRm_rf⟩
  have hw : w1 = w2 := hw
  have hw' : ¬ (w1 ≠ w2) := fun z => z hw
  have no7 : ¬ (RG i n m1 ∧ RG q n m2) → V l D tys A 72 6 0 0 (fun r w' => r = some (.int (Int32.ofInt (paV v i t q n m1 m2 w1 w2))) ∧ GOK ad tys GG w' ∧ FRm [40] w w') 0 0 101 [(0, .ref (ad 0)), (1, .int v), (2, .int i), (3, .int t), (4, .int q), (5, .int n)] [] w := fun h => V_ipush mi_72_101 (V_retI mi_72_103 (fun h => absurd h (by decide +kernel)) ⟨by unfold paV; rw [if_pos ⟨hv, ht⟩, if_neg hb, if_neg hw', if_neg h], hG, FRm_rf⟩)
  refine V_aload (v := ad 0) mi_72_72 (by simp) ?_
  refine V_getO mi_72_73 hG e0 (rrO e0 t7 (by omega) hG) ?_
  refine V_iload (v := v) mi_72_76 (by simp) ?_
  refine V_iload (v := i) mi_72_77 (by simp) ?_
  refine V_iload (v := n) mi_72_78 (by simp) ?_
  refine V_callO (c := 39) (As := [.int v, .int i, .int n]) (st := []) mi_72_80 (by omega) (by decide +kernel) (show mCi 168 = 7 by decide +kernel) (by omega) e39 hG (ran_ct hv hG hm1) (by omega) (show 3 = mN 168 by decide +kernel) (by simp) ?_
  rintro r w ⟨rfl, rfl⟩
  by_cases hr1 : RG i n m1
  case neg =>
    rw [decide_eq_false hr1]
    exact V_if mi_72_83 (fun _ => no7 (fun z => hr1 z.1)) (fun h => absurd (show (0 : Int32) = 0 from rfl) h)
  rw [decide_eq_true hr1]
  refine V_if mi_72_83 (fun h => absurd (show (1 : Int32) = 0 from h) (by decide)) (fun _ => ?_)
  refine V_aload (v := ad 0) mi_72_86 (by simp) ?_
  refine V_getO mi_72_87 hG e0 (rrO e0 t7 (by omega) hG) ?_
  refine V_iload (v := t) mi_72_90 (by simp) ?_
  refine V_iload (v := q) mi_72_91 (by simp) ?_
  refine V_iload (v := n) mi_72_93 (by simp) ?_
  refine V_callO (c := 39) (As := [.int t, .int q, .int n]) (st := []) mi_72_95 (by omega) (by decide +kernel) (show mCi 168 = 7 by decide +kernel) (by omega) e39 hG (ran_ct ht hG hm2) (by omega) (show 3 = mN 168 by decide +kernel) (by simp) ?_
  rintro r w ⟨rfl, rfl⟩
  by_cases hr2 : RG q n m2
  case neg =>
    rw [decide_eq_false hr2]
    exact V_if mi_72_98 (fun h => absurd (show (0 : Int32) = 0 from rfl) h) (fun _ => no7 (fun z => hr2 z.2))
  rw [decide_eq_true hr2]
  refine V_if mi_72_98 (fun _ => ?_) (fun h => absurd (show (1 : Int32) ≠ 0 by decide) h)
  obtain ⟨s42, e42, f42⟩ := gx42
  have bd : ∀ {u m : Int32}, SL u → rd w 42 u.toInt.toNat = some (.int m) → m.toInt ≤ 60 := by
    intro u m hu hm
    obtain ⟨zz, hz, z1, z2⟩ := cel (j := u.toInt.toNat) hG e42 (sl_nat hu).2 (f42 _ (sl_nat hu).2)
    rw [hm] at hz
    have q := congrArg Int32.toInt (Value.int.inj (Option.some.inj hz))
    rw [tIi zz (by omega) (by omega)] at q
    omega
  have bd1 := bd hv hm1
  have bd2 := bd ht hm2
  obtain ⟨p1, p2, p3⟩ := hr1
  obtain ⟨p4, p5, p6⟩ := hr2
  refine V_aload (v := ad 0) mi_72_104 (by simp) ?_
  refine V_getO mi_72_105 hG e0 (rrO e0 t7 (by omega) hG) ?_
  refine V_iload (v := v) mi_72_108 (by simp) ?_
  refine V_iload (v := i) mi_72_109 (by simp) ?_
  refine V_iload (v := t) mi_72_110 (by simp) ?_
  refine V_iload (v := q) mi_72_111 (by simp) ?_
  refine V_iload (v := n) mi_72_113 (by simp) ?_
  obtain ⟨d', k1, k2⟩ := CR_of_vrf (l := l) (tys := tys) (A := A) (dep := 4) hAD (fun c hc => by cases hc) T2OK_nil mSh [.ref (ad 39), .int v, .int i, .int t, .int q, .int n] w ⟨rfl, okI hv.1 hv.2, okI p1 (by omega), okI ht.1 ht.2, okI p4 (by omega), okI p2 (by omega), trivial⟩ hG (fun q hq => by cases hq)
  refine V_callO (c := 39) (As := [.int v, .int i, .int t, .int q, .int n]) (st := []) mi_72_115 (by omega) (by decide +kernel) (show mCi 169 = 7 by decide +kernel) (by omega) e39 hG k2 (by omega) (show 5 = mN 169 by decide +kernel) (by simp) ?_
  rintro r w2 ⟨G2, F2, g3, -⟩
  cases r with
  | some v => exact g3.elim
  | none =>
    refine V_ipush mi_72_118 ?_
    exact V_retI mi_72_119 (fun h => absurd h (by decide +kernel)) ⟨by unfold paV; rw [if_pos ⟨hv, ht⟩, if_neg hb, if_neg hw', if_pos ⟨⟨p1, p2, p3⟩, p4, p5, p6⟩], G2, F2⟩
end PAS
section PAT
variable {l : Launch} {D : va_G} {tys : List (ClassId × FieldType)} {A : Nat → Prop} {ad : Nat → Nat} {ws : va_W}
noncomputable def LPa (ad : Nat → Nat) (v i t q n : Int32) (x : Nat) : List (Nat × Value) := [(0, .ref (ad 90)), (1, .int v), (2, .int i), (3, .int t), (4, .int q), (5, .int n), (6, .int (Int32.ofInt (x : Int)))]
theorem ge_ {x : Nat} {n : Int32} (hx : x ≤ 1000) : cdP 3 (Int32.ofInt (x : Int)) n ↔ n.toInt ≤ x := by
  rw [cmp_g, tIi (x : Int) (by omega) (by omega)]
theorem idx3 {v i : Int32} {x : Nat} (hv : SL v) (h0 : 0 ≤ i.toInt) (h1 : i.toInt + x < 60) : ibF 0 (ibF 0 (ibF 2 (Int32.ofInt 60) v) i) (Int32.ofInt (x : Int)) = Int32.ofInt (((60 * v.toInt + i.toInt + x).toNat : Nat) : Int) := by
  obtain ⟨a, b⟩ := hv
  have e1 : v = Int32.ofInt v.toInt := by rw [Int32.ofInt_toInt]
  have e2 : i = Int32.ofInt i.toInt := by rw [Int32.ofInt_toInt]
  rw [Int.toNat_of_nonneg (by omega)]
  show Int32.ofInt 60 * v + i + Int32.ofInt (x : Int) = _
  conv => lhs; rw [e1, e2]
  rw [← Int32.ofInt_mul, ← Int32.ofInt_add, ← Int32.ofInt_add]
theorem pm_2 {p0 : Int} {w0 : va_W} {v i t q n : Int32} (hv : SL v) (ht : SL t) (q0 : 0 ≤ q.toInt) (n0 : 0 ≤ n.toInt) (qn : q.toInt + n.toInt ≤ 60) : ∀ (f x : Nat) (w : va_W), n.toInt - x < (f : Int) → (x : Int) ≤ n.toInt → GOK ad tys GG w → FRm [109, 110] w0 w → V l D tys A 340 2 0 0 (fun r w' => r = some (.int (Int32.ofInt 0)) ∧ GOK ad tys GG w' ∧ FRm [109, 110] w0 w') 0 0 150 (LPa ad v i t q n x) [] w
  | 0, x, w, h, hx, _, _ => by omega
  | f + 1, x, w, h, hx, G, F => by
    obtain ⟨s9, e9, f9⟩ := gl109
    obtain ⟨s10, e10, f10⟩ := gl110
    refine V_iload (v := Int32.ofInt (x : Int)) mi_340_150 (by simp [LPa]) ?_
    refine V_iload (v := n) mi_340_152 (by simp [LPa]) ?_
    refine V_icmp mi_340_154 (fun _ => ?_) (fun hlt => ?_)
    · refine V_ipush mi_340_185 ?_
      exact V_retI mi_340_186 (fun h => absurd h (by decide +kernel)) ⟨rfl, G, F⟩
    have hlt : (x : Int) < n.toInt := by
      rcases Int.lt_or_le (x : Int) n.toInt with z | z
      · exact z
      · exact absurd ((ge_ (by omega)).mpr z) hlt
    refine V_aload (v := ad 90) mi_340_157 (by simp [LPa]) ?_
    refine V_getR mi_340_158 gr34 (by omega) G ?_
    refine V_ipush mi_340_161 ?_
    refine V_iload (v := t) mi_340_163 (by simp [LPa]) ?_
    refine V_ibin mi_340_164 (by omega) ?_
    refine V_iload (v := q) mi_340_165 (by simp [LPa]) ?_
    refine V_ibin mi_340_167 (by omega) ?_
    refine V_iload (v := Int32.ofInt (x : Int)) mi_340_168 (by simp [LPa]) ?_
    refine V_ibin mi_340_170 (by omega) ?_
    refine V_aload (v := ad 90) mi_340_171 (by simp [LPa]) ?_
    refine V_getR mi_340_172 gr35 (by omega) G ?_
    refine V_iload (v := Int32.ofInt (x : Int)) mi_340_175 (by simp [LPa]) ?_
    refine V_laldI (j := x) mi_340_177 rfl G e10 (by omega) (by omega) (fun u => ?_)
    have hj : (60 * t.toInt + q.toInt + x).toNat < 240 := by have := ht.1; have := ht.2; omega
    refine V_lastI (j := (60 * t.toInt + q.toInt + x).toNat) mi_340_178 (idx3 ht q0 (by omega)) G e9 hj (by omega) (f9 _ hj) (fun w2 G2 U2 => ?_)
    refine V_iinc (v := Int32.ofInt (x : Int)) mi_340_179 (by simp [LPa]) ?_
    refine V_goto mi_340_182 ?_
    refine V_sub (lv' := LPa ad v i t q n (x + 1)) (fun p hp => ?_) (pm_2 (p0 := p0) hv ht q0 n0 qn f (x + 1) w2 (by omega) (by omega) G2 (FRm_upd F U2 (by simp) (n8c (by omega))))
    simp only [LPa, List.mem_cons, List.not_mem_nil, or_false] at hp
    rcases hp with h | h | h | h | h | h | h <;> simp [h, LPa, stL, Value.category, Int32.ofInt_add]
theorem pm_1 {w0 : va_W} {v i t q n : Int32} (hv : SL v) (ht : SL t) (i0 : 0 ≤ i.toInt) (q0 : 0 ≤ q.toInt) (n0 : 0 ≤ n.toInt) (hin : i.toInt + n.toInt ≤ 60) (qn : q.toInt + n.toInt ≤ 60) : ∀ (f x : Nat) (w : va_W), n.toInt - x < (f : Int) → (x : Int) ≤ n.toInt → GOK ad tys GG w → FRm [109, 110] w0 w → V l D tys A 340 2 0 0 (fun r w' => r = some (.int (Int32.ofInt 0)) ∧ GOK ad tys GG w' ∧ FRm [109, 110] w0 w') 0 0 113 (LPa ad v i t q n x) [] w
  | 0, x, w, h, hx, _, _ => by omega
  | f + 1, x, w, h, hx, G, F => by
    obtain ⟨s9, e9, f9⟩ := gl109
    obtain ⟨s10, e10, f10⟩ := gl110
    refine V_iload (v := Int32.ofInt (x : Int)) mi_340_113 (by simp [LPa]) ?_
    refine V_iload (v := n) mi_340_115 (by simp [LPa]) ?_
    refine V_icmp mi_340_117 (fun _ => ?_) (fun hlt => ?_)
    · refine V_ipush mi_340_147 ?_
      refine V_istore mi_340_148 ?_
      refine V_sub (lv' := LPa ad v i t q n 0) (fun p hp => ?_) (pm_2 (p0 := 0) hv ht q0 n0 qn 61 0 w (by omega) (by omega) G F)
      simp only [LPa, List.mem_cons, List.not_mem_nil, or_false] at hp
      rcases hp with h | h | h | h | h | h | h <;> simp [h, LPa, stL, Value.category]
    have hlt : (x : Int) < n.toInt := by
      rcases Int.lt_or_le (x : Int) n.toInt with z | z
      · exact z
      · exact absurd ((ge_ (by omega)).mpr z) hlt
    refine V_aload (v := ad 90) mi_340_120 (by simp [LPa]) ?_
    refine V_getR mi_340_121 gr35 (by omega) G ?_
    refine V_iload (v := Int32.ofInt (x : Int)) mi_340_124 (by simp [LPa]) ?_
    refine V_aload (v := ad 90) mi_340_126 (by simp [LPa]) ?_
    refine V_getR mi_340_127 gr34 (by omega) G ?_
    refine V_ipush mi_340_130 ?_
    refine V_iload (v := v) mi_340_132 (by simp [LPa]) ?_
    refine V_ibin mi_340_133 (by omega) ?_
    refine V_iload (v := i) mi_340_134 (by simp [LPa]) ?_
    refine V_ibin mi_340_135 (by omega) ?_
    refine V_iload (v := Int32.ofInt (x : Int)) mi_340_136 (by simp [LPa]) ?_
    refine V_ibin mi_340_138 (by omega) ?_
    have hj : (60 * v.toInt + i.toInt + x).toNat < 240 := by have := hv.1; have := hv.2; omega
    refine V_laldI (j := (60 * v.toInt + i.toInt + x).toNat) mi_340_139 (idx3 hv i0 (by omega)) G e9 hj (by omega) (fun u => ?_)
    refine V_lastI (j := x) mi_340_140 rfl G e10 (by omega) (by omega) (f10 _ (by omega)) (fun w2 G2 U2 => ?_)
    refine V_iinc (v := Int32.ofInt (x : Int)) mi_340_141 (by simp [LPa]) ?_
    refine V_goto mi_340_144 ?_
    refine V_sub (lv' := LPa ad v i t q n (x + 1)) (fun p hp => ?_) (pm_1 hv ht i0 q0 n0 hin qn f (x + 1) w2 (by omega) (by omega) G2 (FRm_upd F U2 (by simp) (n8c (by omega))))
    simp only [LPa, List.mem_cons, List.not_mem_nil, or_false] at hp
    rcases hp with h | h | h | h | h | h | h <;> simp [h, LPa, stL, Value.category, Int32.ofInt_add]
theorem pastem_ct (v i t q n : Int32) {m1 m2 w1 w2 : Int32} (hm1 : SL v → rd ws 107 v.toInt.toNat = some (.int m1)) (hm2 : SL t → rd ws 107 t.toInt.toNat = some (.int m2)) (hw1 : SL v → rd ws 108 v.toInt.toNat = some (.int w1)) (hw2 : SL t → rd ws 108 t.toInt.toNat = some (.int w2)) (hG : GOK ad tys GG ws) : CT l D tys A 340 2 0 0 [.ref (ad 90), .int v, .int i, .int t, .int q, .int n] ws (fun r w => r = some (.int (Int32.ofInt (paV v i t q n m1 m2 w1 w2))) ∧ GOK ad tys GG w ∧ FRm [109, 110] ws w) := by
  refine CT_of_V (by omega) (show (6 : Nat) ≤ mML 340 by decide +kernel) ?_
  have lvs : lv_args 0 [Value.ref (ad 90), .int v, .int i, .int t, .int q, .int n] = [(0, .ref (ad 90)), (1, .int v), (2, .int i), (3, .int t), (4, .int q), (5, .int n)] := rfl
  rw [lvs]
  have no2 : ¬ (SL v ∧ SL t) → V l D tys A 340 2 0 0 (fun r w => r = some (.int (Int32.ofInt (paV v i t q n m1 m2 w1 w2))) ∧ GOK ad tys GG w ∧ FRm [109, 110] ws w) 0 0 14 [(0, .ref (ad 90)), (1, .int v), (2, .int i), (3, .int t), (4, .int q), (5, .int n)] [] ws := fun h => V_ipush mi_340_14 (V_retI mi_340_16 (fun h => absurd h (by decide +kernel)) ⟨by unfold paV; rw [if_neg h], hG, FRm_rf⟩)
  refine V_iload (v := v) mi_340_0 (by simp) ?_
  refine V_stat (As := [.int v]) (st := []) mi_340_1 (by omega) (slot_ct v) (by omega) (show 1 = mN 336 by decide +kernel) (by simp) ⟨Nat.le_refl _, Nat.le_refl _⟩ ?_
  rintro r w ⟨rfl, rfl⟩
  by_cases hv : SL v
  case neg =>
    rw [decide_eq_false hv]
    exact V_if mi_340_4 (fun _ => no2 (fun z => hv z.1)) (fun h => absurd (show (0 : Int32) = 0 from rfl) h)
  rw [decide_eq_true hv]
  refine V_if mi_340_4 (fun h => absurd (show (1 : Int32) = 0 from h) (by decide)) (fun _ => ?_)
  refine V_iload (v := t) mi_340_7 (by simp) ?_
  refine V_stat (As := [.int t]) (st := []) mi_340_8 (by omega) (slot_ct t) (by omega) (show 1 = mN 336 by decide +kernel) (by simp) ⟨Nat.le_refl _, Nat.le_refl _⟩ ?_
  rintro r w ⟨rfl, rfl⟩
  by_cases ht : SL t
  case neg =>
    rw [decide_eq_false ht]
    exact V_if mi_340_11 (fun h => absurd (show (0 : Int32) = 0 from rfl) h) (fun _ => no2 (fun z => ht z.2))
  rw [decide_eq_true ht]
  refine V_if mi_340_11 (fun _ => ?_) (fun h => absurd (show (1 : Int32) ≠ 0 by decide) h)
  have hm1 := hm1 hv
  have hm2 := hm2 ht
  have hw1 := hw1 hv
  have hw2 := hw2 ht
  obtain ⟨ev, sv⟩ := sl_nat hv
  obtain ⟨et, s_t⟩ := sl_nat ht
  obtain ⟨s7, e7, f7⟩ := gm107
  obtain ⟨s8, e8, f8⟩ := gm108
  have bd : ∀ {u m : Int32}, SL u → rd w 107 u.toInt.toNat = some (.int m) → -1 ≤ m.toInt ∧ m.toInt ≤ 60 := by
    intro u m hu hm
    obtain ⟨zz, hz, z1, z2⟩ := cel (j := u.toInt.toNat) hG e7 (sl_nat hu).2 (f7 _ (sl_nat hu).2)
    rw [hm] at hz
    have q := congrArg Int32.toInt (Value.int.inj (Option.some.inj hz))
    rw [tIi zz (by omega) (by omega)] at q
    omega
  obtain ⟨bd1, bd1'⟩ := bd hv hm1
  obtain ⟨bd2, bd2'⟩ := bd ht hm2
  have no6 : m1.toInt < 0 ∨ m2.toInt < 0 → V l D tys A 340 2 0 0 (fun r w' => r = some (.int (Int32.ofInt (paV v i t q n m1 m2 w1 w2))) ∧ GOK ad tys GG w' ∧ FRm [109, 110] w w') 0 0 37 [(0, .ref (ad 90)), (1, .int v), (2, .int i), (3, .int t), (4, .int q), (5, .int n)] [] w := fun h => V_ipush mi_340_37 (V_retI mi_340_39 (fun h => absurd h (by decide +kernel)) ⟨by unfold paV; rw [if_pos ⟨hv, ht⟩, if_pos h], hG, FRm_rf⟩)
  have em : ∀ {m : Int32}, -1 ≤ m.toInt → m.toInt ≤ 60 → (m = Int32.ofInt (-1) ↔ m.toInt < 0) := by
    intro m h1 h2
    constructor
    · intro h
      rw [h, tIi (-1) (by omega) (by omega)]
      omega
    · intro h
      rw [← Int32.ofInt_toInt m, show m.toInt = -1 by omega]
  refine V_aload (v := ad 90) mi_340_17 (by simp) ?_
  refine V_getR mi_340_18 gr32 (by omega) hG ?_
  refine V_iload (v := v) mi_340_21 (by simp) ?_
  refine V_aldX (j := v.toInt.toNat) mi_340_22 ev hG e7 sv (by omega) hm1 ?_
  refine V_ipush mi_340_23 ?_
  refine V_icmp mi_340_24 (fun h => no6 (Or.inl ((em bd1 bd1').mp h))) (fun hb1 => ?_)
  have hb1 : ¬ (m1.toInt < 0) := fun h => hb1 ((em bd1 bd1').mpr h)
  refine V_aload (v := ad 90) mi_340_27 (by simp) ?_
  refine V_getR mi_340_28 gr32 (by omega) hG ?_
  refine V_iload (v := t) mi_340_31 (by simp) ?_
  refine V_aldX (j := t.toInt.toNat) mi_340_32 et hG e7 s_t (by omega) hm2 ?_
  refine V_ipush mi_340_33 ?_
  refine V_icmp mi_340_34 (fun hb2 => ?_) (fun h => no6 (Or.inr ((em bd2 bd2').mp (by
    rcases Classical.em (m2 = Int32.ofInt (-1)) with z | z
    · exact z
    · exact absurd z h))))
  have hb2 : ¬ (m2.toInt < 0) := fun h => absurd ((em bd2 bd2').mpr h) hb2
  have hb : ¬ (m1.toInt < 0 ∨ m2.toInt < 0) := by omega
  refine V_aload (v := ad 90) mi_340_40 (by simp) ?_
  refine V_getR mi_340_41 gr33 (by omega) hG ?_
  refine V_iload (v := v) mi_340_44 (by simp) ?_
  refine V_aldX (j := v.toInt.toNat) mi_340_45 ev hG e8 sv (by omega) hw1 ?_
  refine V_aload (v := ad 90) mi_340_46 (by simp) ?_
  refine V_getR mi_340_47 gr33 (by omega) hG ?_
  refine V_iload (v := t) mi_340_50 (by simp) ?_
  refine V_aldX (j := t.toInt.toNat) mi_340_51 et hG e8 s_t (by omega) hw2 ?_
  refine V_icmp mi_340_52 (fun hw => ?_) (fun hw => ?_)
  rotate_left
  · have hw : w1 ≠ w2 := hw
    refine V_ipush mi_340_55 ?_
    exact V_retI mi_340_57 (fun h => absurd h (by decide +kernel)) ⟨by unfold paV; rw [if_pos ⟨hv, ht⟩, if_neg hb, if_pos hw], hG, FRm_rf⟩
  have hw : w1 = w2 := hw
  have hw' : ¬ (w1 ≠ w2) := fun z => z hw
  have no7 : ¬ (RG i n m1 ∧ RG q n m2) → V l D tys A 340 2 0 0 (fun r w' => r = some (.int (Int32.ofInt (paV v i t q n m1 m2 w1 w2))) ∧ GOK ad tys GG w' ∧ FRm [109, 110] w w') 0 0 107 [(0, .ref (ad 90)), (1, .int v), (2, .int i), (3, .int t), (4, .int q), (5, .int n)] [] w := fun h => V_ipush mi_340_107 (V_retI mi_340_109 (fun h => absurd h (by decide +kernel)) ⟨by unfold paV; rw [if_pos ⟨hv, ht⟩, if_neg hb, if_neg hw', if_neg h], hG, FRm_rf⟩)
  have i1 := Int32.le_toInt i
  have i2 := Int32.toInt_lt i
  have n1 := Int32.le_toInt n
  have n2 := Int32.toInt_lt n
  have q1 := Int32.le_toInt q
  have q2 := Int32.toInt_lt q
  refine V_iload (v := i) mi_340_58 (by simp) ?_
  refine V_if mi_340_59 (fun h => no7 (fun z => by have := l0 h; have := z.1.1; omega)) (fun h1 => ?_)
  have h1 := nl0 h1
  refine V_iload (v := q) mi_340_62 (by simp) ?_
  refine V_if mi_340_64 (fun h => no7 (fun z => by have := l0 h; have := z.2.1; omega)) (fun h2 => ?_)
  have h2 := nl0 h2
  refine V_iload (v := n) mi_340_67 (by simp) ?_
  refine V_if mi_340_69 (fun h => no7 (fun z => by have := l0 h; have := z.1.2.1; omega)) (fun h3 => ?_)
  have h3 := nl0 h3
  refine V_iload (v := i) mi_340_72 (by simp) ?_
  refine V_i2l mi_340_73 ?_
  refine V_iload (v := n) mi_340_74 (by simp) ?_
  refine V_i2l mi_340_76 ?_
  refine V_lbin mi_340_77 (by omega) ?_
  rw [el_ i, el_ n, ladd_]
  refine V_aload (v := ad 90) mi_340_78 (by simp) ?_
  refine V_getR mi_340_79 gr32 (by omega) hG ?_
  refine V_iload (v := v) mi_340_82 (by simp) ?_
  refine V_aldX (j := v.toInt.toNat) mi_340_83 ev hG e7 sv (by omega) hm1 ?_
  refine V_i2l mi_340_84 ?_
  rw [el_ m1]
  refine V_lcmp mi_340_85 ?_
  have c1 := cdL_iff (x := 4) (a := i.toInt + n.toInt) (b := m1.toInt) (by omega) (by omega) (by omega) (by omega)
  refine V_if mi_340_86 (fun h => no7 (fun z => by have : i.toInt + n.toInt - m1.toInt > 0 := c1.mp h; have := z.1.2.2; omega)) (fun h4 => ?_)
  have h4 : i.toInt + n.toInt ≤ m1.toInt := by
    have : ¬ (i.toInt + n.toInt - m1.toInt > 0) := fun z => h4 (c1.mpr z)
    omega
  refine V_iload (v := q) mi_340_89 (by simp) ?_
  refine V_i2l mi_340_91 ?_
  refine V_iload (v := n) mi_340_92 (by simp) ?_
  refine V_i2l mi_340_94 ?_
  refine V_lbin mi_340_95 (by omega) ?_
  rw [el_ q, el_ n, ladd_]
  refine V_aload (v := ad 90) mi_340_96 (by simp) ?_
  refine V_getR mi_340_97 gr32 (by omega) hG ?_
  refine V_iload (v := t) mi_340_100 (by simp) ?_
  refine V_aldX (j := t.toInt.toNat) mi_340_101 et hG e7 s_t (by omega) hm2 ?_
  refine V_i2l mi_340_102 ?_
  rw [el_ m2]
  refine V_lcmp mi_340_103 ?_
  have c2 := cdL_iff (x := 5) (a := q.toInt + n.toInt) (b := m2.toInt) (by omega) (by omega) (by omega) (by omega)
  refine V_if mi_340_104 (fun h5 => ?_) (fun h => no7 (fun z => h (c2.mpr (show q.toInt + n.toInt - m2.toInt ≤ 0 by have := z.2.2.2; omega))))
  have h5 : q.toInt + n.toInt ≤ m2.toInt := by
    have : q.toInt + n.toInt - m2.toInt ≤ 0 := c2.mp h5
    omega
  refine V_ipush mi_340_110 ?_
  refine V_istore mi_340_111 ?_
  refine V_sub (lv' := LPa ad v i t q n 0) (fun p hp => ?_) (V_post (fun r w' hh => ⟨hh.1.trans (by unfold paV; rw [if_pos ⟨hv, ht⟩, if_neg hb, if_neg hw', if_pos ⟨⟨h1, h3, h4⟩, h2, h3, h5⟩]), hh.2⟩) (pm_1 (w0 := w) hv ht h1 h2 h3 (by omega) (by omega) 61 0 w (by omega) (by omega) hG FRm_rf))
  simp only [LPa, List.mem_cons, List.not_mem_nil, or_false] at hp
  rcases hp with h | h | h | h | h | h | h <;> simp [h, LPa, stL, Value.category]
end PAT
section PAU
variable {l : Launch} {D : va_G} {tys : List (ClassId × FieldType)} {A : Nat → Prop} {ad : Nat → Nat} {ws : va_W}
theorem upx (hAD : ∀ i : Nat, ad (1000 + i) = D.2 1000 i) (hG : GOK ad tys GG ws) (a1 a2 a3 a4 a5 : Int32) : ∃ d', d' < 11 ∧ CT l D tys A 72 d' 0 0 [.ref (ad 0), .int a1, .int a2, .int a3, .int a4, .int a5] ws (fun r w => (∃ v : Int32, r = some (.int v)) ∧ GOK ad tys GG w ∧ FRm [40] ws w) := by
  have hm : ∀ (c : Nat) (lo hi : Int), (∃ s, GG[c]? = some ((1, 0, 4), s) ∧ ∀ j, j < 4 → segAt s j = some (0, lo, hi)) → ∀ u : Int32, ∃ m : Int32, SL u → rd ws c u.toInt.toNat = some (.int m) := by
    intro c lo hi hc u
    by_cases h : SL u
    · obtain ⟨s42, e42, f42⟩ := hc
      obtain ⟨z, hz, -, -⟩ := cel (j := u.toInt.toNat) hG e42 (sl_nat h).2 (f42 _ (sl_nat h).2)
      exact ⟨_, fun _ => hz⟩
    · exact ⟨0, fun q => absurd q h⟩
  obtain ⟨m1, hm1⟩ := hm 42 _ _ gx42 a1
  obtain ⟨m2, hm2⟩ := hm 42 _ _ gx42 a3
  obtain ⟨w1, hw1⟩ := hm 41 _ _ gx41 a1
  obtain ⟨w2, hw2⟩ := hm 41 _ _ gx41 a3
  exact ⟨6, by omega, CT_post (pastex_ct hAD a1 a2 a3 a4 a5 hm1 hm2 hw1 hw2 hG) (fun r w h => ⟨⟨_, h.1⟩, h.2⟩)⟩
theorem upm (hG : GOK ad tys GG ws) (a1 a2 a3 a4 a5 : Int32) : ∃ d', d' < 11 ∧ CT l D tys A 340 d' 0 0 [.ref (ad 90), .int a1, .int a2, .int a3, .int a4, .int a5] ws (fun r w => (∃ v : Int32, r = some (.int v)) ∧ GOK ad tys GG w ∧ FRm [109, 110] ws w) := by
  have hm : ∀ (c : Nat) (lo hi : Int), (∃ s, GG[c]? = some ((1, 0, 4), s) ∧ ∀ j, j < 4 → segAt s j = some (0, lo, hi)) → ∀ u : Int32, ∃ m : Int32, SL u → rd ws c u.toInt.toNat = some (.int m) := by
    intro c lo hi hc u
    by_cases h : SL u
    · obtain ⟨s42, e42, f42⟩ := hc
      obtain ⟨z, hz, -, -⟩ := cel (j := u.toInt.toNat) hG e42 (sl_nat h).2 (f42 _ (sl_nat h).2)
      exact ⟨_, fun _ => hz⟩
    · exact ⟨0, fun q => absurd q h⟩
  obtain ⟨m1, hm1⟩ := hm 107 _ _ gm107 a1
  obtain ⟨m2, hm2⟩ := hm 107 _ _ gm107 a3
  obtain ⟨w1, hw1⟩ := hm 108 _ _ gm108 a1
  obtain ⟨w2, hw2⟩ := hm 108 _ _ gm108 a3
  exact ⟨2, by omega, CT_post (pastem_ct a1 a2 a3 a4 a5 hm1 hm2 hw1 hw2 hG) (fun r w h => ⟨⟨_, h.1⟩, h.2⟩)⟩
end PAU
end
section
theorem mi_1_0 : mI 1 0 = (5, 0, 0, 0, 0) := by decide +kernel
theorem mi_1_1 : mI 1 1 = (17, 298, 20, 10, 1) := by decide +kernel
theorem mi_1_4 : mI 1 4 = (17, 41, 84, 9, 1) := by decide +kernel
theorem mi_1_7 : mI 1 7 = (1, 20, 1, 0, 0) := by decide +kernel
theorem mi_1_9 : mI 1 9 = (10, 0, 0, 0, 0) := by decide +kernel
theorem mi_1_10 : mI 1 10 = (1, 1400, 2, 0, 0) := by decide +kernel
theorem mi_1_13 : mI 1 13 = (15, 5, 5, 18, 0) := by decide +kernel
theorem mi_1_16 : mI 1 16 = (1, (-1), 0, 0, 0) := by decide +kernel
theorem mi_1_17 : mI 1 17 = (27, 0, 0, 0, 0) := by decide +kernel
theorem mi_1_18 : mI 1 18 = (5, 0, 0, 0, 0) := by decide +kernel
theorem mi_1_19 : mI 1 19 = (17, 298, 20, 10, 1) := by decide +kernel
theorem mi_1_22 : mI 1 22 = (3, 0, 1, 0, 0) := by decide +kernel
theorem mi_1_23 : mI 1 23 = (26, 341, 90, 185, 0) := by decide +kernel
theorem mi_1_26 : mI 1 26 = (5, 0, 0, 0, 0) := by decide +kernel
theorem mi_1_27 : mI 1 27 = (17, 298, 20, 10, 1) := by decide +kernel
theorem mi_1_30 : mI 1 30 = (3, 0, 2, 0, 0) := by decide +kernel
theorem mi_1_31 : mI 1 31 = (26, 341, 90, 185, 0) := by decide +kernel
theorem mi_1_34 : mI 1 34 = (5, 0, 0, 0, 0) := by decide +kernel
theorem mi_1_35 : mI 1 35 = (17, 298, 20, 10, 1) := by decide +kernel
theorem mi_1_38 : mI 1 38 = (3, 0, 3, 0, 0) := by decide +kernel
theorem mi_1_39 : mI 1 39 = (26, 341, 90, 185, 0) := by decide +kernel
theorem mi_1_42 : mI 1 42 = (5, 0, 0, 0, 0) := by decide +kernel
theorem mi_1_43 : mI 1 43 = (17, 298, 20, 10, 1) := by decide +kernel
theorem mi_1_46 : mI 1 46 = (3, 0, 4, 1, 0) := by decide +kernel
theorem mi_1_48 : mI 1 48 = (26, 341, 90, 185, 0) := by decide +kernel
theorem mi_1_51 : mI 1 51 = (5, 0, 0, 0, 0) := by decide +kernel
theorem mi_1_52 : mI 1 52 = (17, 298, 20, 10, 1) := by decide +kernel
theorem mi_1_55 : mI 1 55 = (3, 0, 5, 1, 0) := by decide +kernel
theorem mi_1_57 : mI 1 57 = (26, 341, 90, 185, 0) := by decide +kernel
theorem mi_1_60 : mI 1 60 = (5, 0, 0, 0, 0) := by decide +kernel
theorem mi_1_61 : mI 1 61 = (17, 298, 20, 10, 1) := by decide +kernel
theorem mi_1_64 : mI 1 64 = (17, 41, 84, 9, 1) := by decide +kernel
theorem mi_1_67 : mI 1 67 = (27, 0, 0, 0, 0) := by decide +kernel
theorem mi_2_0 : mI 2 0 = (3, 0, 1, 0, 0) := by decide +kernel
theorem mi_2_1 : mI 2 1 = (14, 14, 2, 15, 0) := by decide +kernel
theorem mi_2_4 : mI 2 4 = (3, 0, 1, 0, 0) := by decide +kernel
theorem mi_2_5 : mI 2 5 = (5, 0, 0, 0, 0) := by decide +kernel
theorem mi_2_6 : mI 2 6 = (17, 298, 20, 10, 1) := by decide +kernel
theorem mi_2_9 : mI 2 9 = (17, 41, 84, 9, 1) := by decide +kernel
theorem mi_2_12 : mI 2 12 = (15, 5, 5, 17, 0) := by decide +kernel
theorem mi_2_15 : mI 2 15 = (1, (-1), 0, 0, 0) := by decide +kernel
theorem mi_2_16 : mI 2 16 = (27, 0, 0, 0, 0) := by decide +kernel
theorem mi_2_17 : mI 2 17 = (5, 0, 0, 0, 0) := by decide +kernel
theorem mi_2_18 : mI 2 18 = (17, 298, 20, 10, 1) := by decide +kernel
theorem mi_2_21 : mI 2 21 = (3, 0, 1, 0, 0) := by decide +kernel
theorem mi_2_22 : mI 2 22 = (18, 41, 84, 9, 1) := by decide +kernel
theorem mi_2_25 : mI 2 25 = (3, 0, 1, 0, 0) := by decide +kernel
theorem mi_2_26 : mI 2 26 = (27, 0, 0, 0, 0) := by decide +kernel
theorem mi_3_0 : mI 3 0 = (5, 0, 0, 0, 0) := by decide +kernel
theorem mi_3_1 : mI 3 1 = (17, 297, 12, 10, 0) := by decide +kernel
theorem mi_3_4 : mI 3 4 = (5, 0, 0, 0, 0) := by decide +kernel
theorem mi_3_5 : mI 3 5 = (17, 300, 28, 10, 3) := by decide +kernel
theorem mi_3_8 : mI 3 8 = (26, 353, 94, 133, 0) := by decide +kernel
theorem mi_3_11 : mI 3 11 = (5, 0, 0, 0, 0) := by decide +kernel
theorem mi_3_12 : mI 3 12 = (17, 298, 20, 10, 1) := by decide +kernel
theorem mi_3_15 : mI 3 15 = (1, 0, 0, 0, 0) := by decide +kernel
theorem mi_3_16 : mI 3 16 = (18, 41, 84, 9, 1) := by decide +kernel
theorem mi_3_19 : mI 3 19 = (5, 0, 0, 0, 0) := by decide +kernel
theorem mi_3_20 : mI 3 20 = (17, 297, 12, 10, 0) := by decide +kernel
theorem mi_3_23 : mI 3 23 = (17, 67, 98, 5, 1) := by decide +kernel
theorem mi_3_26 : mI 3 26 = (14, 6, 0, 32, 0) := by decide +kernel
theorem mi_3_29 : mI 3 29 = (1, (-4), 1, 0, 0) := by decide +kernel
theorem mi_3_31 : mI 3 31 = (27, 0, 0, 0, 0) := by decide +kernel
theorem mi_3_32 : mI 3 32 = (5, 0, 0, 0, 0) := by decide +kernel
theorem mi_3_33 : mI 3 33 = (17, 299, 24, 10, 2) := by decide +kernel
theorem mi_3_36 : mI 3 36 = (5, 0, 0, 0, 0) := by decide +kernel
theorem mi_3_37 : mI 3 37 = (17, 300, 28, 10, 3) := by decide +kernel
theorem mi_3_40 : mI 3 40 = (26, 521, 101, 100, 0) := by decide +kernel
theorem mi_3_43 : mI 3 43 = (5, 0, 0, 0, 0) := by decide +kernel
theorem mi_3_44 : mI 3 44 = (26, 528, 104, 73, 0) := by decide +kernel
theorem mi_3_47 : mI 3 47 = (5, 0, 0, 0, 0) := by decide +kernel
theorem mi_3_48 : mI 3 48 = (17, 299, 24, 10, 2) := by decide +kernel
theorem mi_3_51 : mI 3 51 = (17, 85, 107, 2, 0) := by decide +kernel
theorem mi_3_54 : mI 3 54 = (27, 0, 0, 0, 0) := by decide +kernel
theorem mi_185_0 : mI 185 0 = (1, 24, 1, 0, 0) := by decide +kernel
theorem mi_185_2 : mI 185 2 = (6, 0, 2, 0, 0) := by decide +kernel
theorem mi_185_3 : mI 185 3 = (3, 0, 2, 0, 0) := by decide +kernel
theorem mi_185_4 : mI 185 4 = (14, 51, 2, 55, 0) := by decide +kernel
theorem mi_185_7 : mI 185 7 = (5, 0, 0, 0, 0) := by decide +kernel
theorem mi_185_8 : mI 185 8 = (17, 42, 15, 9, 1) := by decide +kernel
theorem mi_185_11 : mI 185 11 = (14, 38, 2, 49, 0) := by decide +kernel
theorem mi_185_14 : mI 185 14 = (5, 0, 0, 0, 0) := by decide +kernel
theorem mi_185_15 : mI 185 15 = (17, 42, 15, 9, 1) := by decide +kernel
theorem mi_185_18 : mI 185 18 = (5, 0, 0, 0, 0) := by decide +kernel
theorem mi_185_19 : mI 185 19 = (17, 40, 9, 9, 0) := by decide +kernel
theorem mi_185_22 : mI 185 22 = (21, 0, 0, 0, 0) := by decide +kernel
theorem mi_185_23 : mI 185 23 = (15, 26, 3, 49, 0) := by decide +kernel
theorem mi_185_26 : mI 185 26 = (5, 0, 0, 0, 0) := by decide +kernel
theorem mi_185_27 : mI 185 27 = (17, 40, 9, 9, 0) := by decide +kernel
theorem mi_185_30 : mI 185 30 = (5, 0, 0, 0, 0) := by decide +kernel
theorem mi_185_31 : mI 185 31 = (17, 42, 15, 9, 1) := by decide +kernel
theorem mi_185_34 : mI 185 34 = (3, 0, 1, 0, 0) := by decide +kernel
theorem mi_185_35 : mI 185 35 = (3, 0, 2, 0, 0) := by decide +kernel
theorem mi_185_36 : mI 185 36 = (10, 0, 10, 0, 0) := by decide +kernel
theorem mi_185_37 : mI 185 37 = (12, 0, 3, 0, 0) := by decide +kernel
theorem mi_185_38 : mI 185 38 = (20, 0, 1, 0, 0) := by decide +kernel
theorem mi_185_39 : mI 185 39 = (5, 0, 0, 0, 0) := by decide +kernel
theorem mi_185_40 : mI 185 40 = (22, 0, 0, 0, 0) := by decide +kernel
theorem mi_185_41 : mI 185 41 = (17, 42, 15, 9, 1) := by decide +kernel
theorem mi_185_44 : mI 185 44 = (1, 1, 0, 0, 0) := by decide +kernel
theorem mi_185_45 : mI 185 45 = (10, 0, 0, 0, 0) := by decide +kernel
theorem mi_185_46 : mI 185 46 = (18, 42, 15, 9, 1) := by decide +kernel
theorem mi_185_49 : mI 185 49 = (9, (-8), 2, 0, 0) := by decide +kernel
theorem mi_185_52 : mI 185 52 = (16, (-49), 0, 3, 0) := by decide +kernel
theorem mi_185_55 : mI 185 55 = (27, 0, 2, 0, 0) := by decide +kernel
theorem mi_210_0 : mI 210 0 = (5, 0, 0, 0, 0) := by decide +kernel
theorem mi_210_1 : mI 210 1 = (17, 1211, 97, 11, 5) := by decide +kernel
theorem mi_210_4 : mI 210 4 = (1, 20, 1, 0, 0) := by decide +kernel
theorem mi_210_6 : mI 210 6 = (10, 0, 0, 0, 0) := by decide +kernel
theorem mi_210_7 : mI 210 7 = (1, 1400, 2, 0, 0) := by decide +kernel
theorem mi_210_10 : mI 210 10 = (15, 5, 5, 15, 0) := by decide +kernel
theorem mi_210_13 : mI 210 13 = (1, (-1), 0, 0, 0) := by decide +kernel
theorem mi_210_14 : mI 210 14 = (27, 0, 0, 0, 0) := by decide +kernel
theorem mi_210_15 : mI 210 15 = (5, 0, 0, 0, 0) := by decide +kernel
theorem mi_210_16 : mI 210 16 = (17, 1212, 24, 11, 6) := by decide +kernel
theorem mi_210_19 : mI 210 19 = (1, 0, 0, 0, 0) := by decide +kernel
theorem mi_210_20 : mI 210 20 = (3, 0, 1, 0, 0) := by decide +kernel
theorem mi_210_21 : mI 210 21 = (20, 0, 0, 0, 0) := by decide +kernel
theorem mi_210_22 : mI 210 22 = (5, 0, 0, 0, 0) := by decide +kernel
theorem mi_210_23 : mI 210 23 = (17, 1212, 24, 11, 6) := by decide +kernel
theorem mi_210_26 : mI 210 26 = (1, 1, 0, 0, 0) := by decide +kernel
theorem mi_210_27 : mI 210 27 = (3, 0, 2, 0, 0) := by decide +kernel
theorem mi_210_28 : mI 210 28 = (20, 0, 0, 0, 0) := by decide +kernel
theorem mi_210_29 : mI 210 29 = (5, 0, 0, 0, 0) := by decide +kernel
theorem mi_210_30 : mI 210 30 = (17, 1212, 24, 11, 6) := by decide +kernel
theorem mi_210_33 : mI 210 33 = (1, 2, 0, 0, 0) := by decide +kernel
theorem mi_210_34 : mI 210 34 = (3, 0, 3, 0, 0) := by decide +kernel
theorem mi_210_35 : mI 210 35 = (20, 0, 0, 0, 0) := by decide +kernel
theorem mi_210_36 : mI 210 36 = (5, 0, 0, 0, 0) := by decide +kernel
theorem mi_210_37 : mI 210 37 = (17, 1212, 24, 11, 6) := by decide +kernel
theorem mi_210_40 : mI 210 40 = (1, 3, 0, 0, 0) := by decide +kernel
theorem mi_210_41 : mI 210 41 = (3, 0, 4, 1, 0) := by decide +kernel
theorem mi_210_43 : mI 210 43 = (20, 0, 0, 0, 0) := by decide +kernel
theorem mi_210_44 : mI 210 44 = (5, 0, 0, 0, 0) := by decide +kernel
theorem mi_210_45 : mI 210 45 = (17, 1212, 24, 11, 6) := by decide +kernel
theorem mi_210_48 : mI 210 48 = (1, 4, 0, 0, 0) := by decide +kernel
theorem mi_210_49 : mI 210 49 = (3, 0, 5, 1, 0) := by decide +kernel
theorem mi_210_51 : mI 210 51 = (20, 0, 0, 0, 0) := by decide +kernel
theorem mi_210_52 : mI 210 52 = (1, 0, 0, 0, 0) := by decide +kernel
theorem mi_210_53 : mI 210 53 = (6, 0, 6, 1, 0) := by decide +kernel
theorem mi_210_55 : mI 210 55 = (3, 0, 6, 1, 0) := by decide +kernel
theorem mi_210_57 : mI 210 57 = (1, 20, 1, 0, 0) := by decide +kernel
theorem mi_210_59 : mI 210 59 = (15, 42, 3, 101, 0) := by decide +kernel
theorem mi_210_62 : mI 210 62 = (5, 0, 0, 0, 0) := by decide +kernel
theorem mi_210_63 : mI 210 63 = (17, 1210, 20, 11, 4) := by decide +kernel
theorem mi_210_66 : mI 210 66 = (5, 0, 0, 0, 0) := by decide +kernel
theorem mi_210_67 : mI 210 67 = (17, 1211, 97, 11, 5) := by decide +kernel
theorem mi_210_70 : mI 210 70 = (3, 0, 6, 1, 0) := by decide +kernel
theorem mi_210_72 : mI 210 72 = (10, 0, 0, 0, 0) := by decide +kernel
theorem mi_210_73 : mI 210 73 = (5, 0, 0, 0, 0) := by decide +kernel
theorem mi_210_74 : mI 210 74 = (17, 1212, 24, 11, 6) := by decide +kernel
theorem mi_210_77 : mI 210 77 = (3, 0, 6, 1, 0) := by decide +kernel
theorem mi_210_79 : mI 210 79 = (1, 4, 0, 0, 0) := by decide +kernel
theorem mi_210_80 : mI 210 80 = (10, 0, 3, 0, 0) := by decide +kernel
theorem mi_210_81 : mI 210 81 = (19, 0, 0, 0, 0) := by decide +kernel
theorem mi_210_82 : mI 210 82 = (1, 24, 1, 0, 0) := by decide +kernel
theorem mi_210_84 : mI 210 84 = (1, 8, 1, 0, 0) := by decide +kernel
theorem mi_210_86 : mI 210 86 = (3, 0, 6, 1, 0) := by decide +kernel
theorem mi_210_88 : mI 210 88 = (1, 4, 0, 0, 0) := by decide +kernel
theorem mi_210_89 : mI 210 89 = (10, 0, 4, 0, 0) := by decide +kernel
theorem mi_210_90 : mI 210 90 = (10, 0, 2, 0, 0) := by decide +kernel
theorem mi_210_91 : mI 210 91 = (10, 0, 1, 0, 0) := by decide +kernel
theorem mi_210_92 : mI 210 92 = (10, 0, 9, 0, 0) := by decide +kernel
theorem mi_210_93 : mI 210 93 = (12, 0, 3, 0, 0) := by decide +kernel
theorem mi_210_94 : mI 210 94 = (20, 0, 1, 0, 0) := by decide +kernel
theorem mi_210_95 : mI 210 95 = (9, 1, 6, 0, 0) := by decide +kernel
theorem mi_210_98 : mI 210 98 = (16, (-43), 0, 55, 0) := by decide +kernel
theorem mi_210_101 : mI 210 101 = (5, 0, 0, 0, 0) := by decide +kernel
theorem mi_210_102 : mI 210 102 = (22, 0, 0, 0, 0) := by decide +kernel
theorem mi_210_103 : mI 210 103 = (17, 1211, 97, 11, 5) := by decide +kernel
theorem mi_210_106 : mI 210 106 = (1, 20, 1, 0, 0) := by decide +kernel
theorem mi_210_108 : mI 210 108 = (10, 0, 0, 0, 0) := by decide +kernel
theorem mi_210_109 : mI 210 109 = (18, 1211, 97, 11, 5) := by decide +kernel
theorem mi_210_112 : mI 210 112 = (5, 0, 0, 0, 0) := by decide +kernel
theorem mi_210_113 : mI 210 113 = (17, 1211, 97, 11, 5) := by decide +kernel
theorem mi_210_116 : mI 210 116 = (27, 0, 0, 0, 0) := by decide +kernel
theorem mi_211_0 : mI 211 0 = (3, 0, 1, 0, 0) := by decide +kernel
theorem mi_211_1 : mI 211 1 = (12, 0, 1, 0, 0) := by decide +kernel
theorem mi_211_2 : mI 211 2 = (2, 0, 0, 0, 0) := by decide +kernel
theorem mi_211_3 : mI 211 3 = (5, 0, 0, 0, 0) := by decide +kernel
theorem mi_211_4 : mI 211 4 = (17, 1211, 97, 11, 5) := by decide +kernel
theorem mi_211_7 : mI 211 7 = (12, 0, 1, 0, 0) := by decide +kernel
theorem mi_211_8 : mI 211 8 = (26, 1321, 85, 193, 1) := by decide +kernel
theorem mi_211_11 : mI 211 11 = (14, 5, 1, 16, 0) := by decide +kernel
theorem mi_211_14 : mI 211 14 = (1, (-1), 0, 0, 0) := by decide +kernel
theorem mi_211_15 : mI 211 15 = (27, 0, 0, 0, 0) := by decide +kernel
theorem mi_211_16 : mI 211 16 = (5, 0, 0, 0, 0) := by decide +kernel
theorem mi_211_17 : mI 211 17 = (3, 0, 1, 0, 0) := by decide +kernel
theorem mi_211_18 : mI 211 18 = (18, 1211, 97, 11, 5) := by decide +kernel
theorem mi_211_21 : mI 211 21 = (3, 0, 1, 0, 0) := by decide +kernel
theorem mi_211_22 : mI 211 22 = (27, 0, 0, 0, 0) := by decide +kernel
section TAP
variable {l : Launch} {D : va_G} {tys : List (ClassId × FieldType)} {A : Nat → Prop} {ad : Nat → Nat} {ws : va_W} {k d : Nat} {post : Option Value → va_W → Prop} {pc : Nat} {lv : List (Nat × Value)} {st : List Value} {a : Int} {x y z : Nat}
theorem V_putO {c ci nf i : Nat} {segs : List SG} {lo hi : Int} {v : Int32} (hi0 : mI k pc = (18, a, x, ci, i)) (hG : GOK ad tys GG ws) (hg : GG[c]? = some ((0, ci, nf), segs)) (hs : segAt segs i = some (0, lo, hi)) (hn2 : i < nf) (hty : clTy ci i = .int) (hn : nfin ci i = true) (h1 : lo ≤ v.toInt) (h2 : v.toInt ≤ hi) (kk : ∀ w : va_W, GOK ad tys GG w → Upd1 ws w c i (.int v) → V l D tys A k d 0 0 post 0 0 (pc + 3) lv st w) : V l D tys A k d 0 0 post 0 0 pc lv (.int v :: .ref (ad c) :: st) ws := by
  obtain ⟨e, a1, a2, a3⟩ := hG c _ hg
  obtain ⟨fs, rfl, hl⟩ := a2
  refine V_put hi0 a1 (by omega) (fun C T N hc => ?_) (by rw [hty]; rfl) (by rw [hty]; rfl) ?_
  · unfold nfin at hn
    rw [hc] at hn
    simpa using hn
  · obtain ⟨u1, u2⟩ := GOK_upd (e' := .inr (ci, fs.set i (.int v))) hG hg a1 ⟨_, rfl, by rw [List.length_set]; exact hl⟩ (rdE_obj (by omega) _) hs ⟨v.toInt, by rw [Int32.ofInt_toInt], h1, h2⟩
    exact kk _ u1 u2
theorem gx2 : ∃ s, GG[2]? = some ((0, 9, 6), s) ∧ segAt s 1 = some (0, 0, 1400) := ⟨_, rfl, by decide +kernel⟩
theorem gx0t : ∃ s, GG[0]? = some ((0, 10, 13), s) ∧ segAt s 1 = some (2, ((2 : Nat) : Int), ((2 : Nat) : Int)) := ⟨_, rfl, by decide +kernel⟩
noncomputable def edV (z : Int) (n : Int32) : Int32 := if 0 ≤ n.toInt ∧ n.toInt ≤ z then n else Int32.ofInt (-1)
noncomputable def edT (z : Int) (n : Int32) : Int := if 0 ≤ n.toInt ∧ n.toInt ≤ z then n.toInt else z
theorem endx_ct (hG : GOK ad tys GG ws) (n : Int32) {z : Int} (hz : rd ws 2 1 = some (.int (Int32.ofInt z))) (z0 : 0 ≤ z) (z1 : z ≤ 1400) : CT l D tys A 2 0 0 0 [.ref (ad 0), .int n] ws (fun r w => r = some (.int (edV z n)) ∧ GOK ad tys GG w ∧ FRm [2] ws w ∧ rd w 2 1 = some (.int (Int32.ofInt (edT z n)))) := by
  refine CT_of_V (by omega) (show (2 : Nat) ≤ mML 2 by decide +kernel) ?_
  obtain ⟨s0, e0, t1⟩ := gx0t
  obtain ⟨s2, e2, t2⟩ := gx2
  have no : ∀ lv : List (Nat × Value), ¬ (0 ≤ n.toInt ∧ n.toInt ≤ z) → V l D tys A 2 0 0 0 (fun r w => r = some (.int (edV z n)) ∧ GOK ad tys GG w ∧ FRm [2] ws w ∧ rd w 2 1 = some (.int (Int32.ofInt (edT z n)))) 0 0 15 lv [] ws := fun lv h => V_ipush mi_2_15 (V_retI mi_2_16 (fun h => absurd h (by decide +kernel)) ⟨by unfold edV; rw [if_neg h], hG, FRm_rf, by unfold edT; rw [if_neg h]; exact hz⟩)
  have lvs : lv_args 0 [Value.ref (ad 0), .int n] = [(0, .ref (ad 0)), (1, .int n)] := rfl
  rw [lvs]
  refine V_iload (v := n) mi_2_0 (by simp) ?_
  refine V_if mi_2_1 (fun h => no _ (fun q => by have := cmp_l.mp h; have e : (0 : Int32).toInt = 0 := rfl; omega)) (fun h1 => ?_)
  have h1 : 0 ≤ n.toInt := by
    rcases Int.lt_or_le n.toInt 0 with q | q
    · exact absurd (cmp_l.mpr (show n.toInt < (0 : Int32).toInt from q)) h1
    · exact q
  refine V_iload (v := n) mi_2_4 (by simp) ?_
  refine V_aload (v := ad 0) mi_2_5 (by simp) ?_
  refine V_getO mi_2_6 hG e0 (rrO e0 t1 (by omega) hG) ?_
  refine V_getO mi_2_9 hG e2 hz ?_
  have ez : (Int32.ofInt z).toInt = z := tIi z (by omega) (by omega)
  refine V_icmp mi_2_12 (fun h2 => ?_) (fun h2 => no _ (fun q => h2 (cmp_le.mpr (by omega))))
  have h2 : n.toInt ≤ z := by have := cmp_le.mp h2; omega
  refine V_aload (v := ad 0) mi_2_17 (by simp) ?_
  refine V_getO mi_2_18 hG e0 (rrO e0 t1 (by omega) hG) ?_
  refine V_iload (v := n) mi_2_21 (by simp) ?_
  refine V_putO mi_2_22 hG e2 t2 (by omega) rfl (by decide +kernel) h1 (by omega) (fun w1 G1 U1 => ?_)
  refine V_iload (v := n) mi_2_25 (by simp) ?_
  exact V_retI mi_2_26 (fun h => absurd h (by decide +kernel)) ⟨by unfold edV; rw [if_pos ⟨h1, h2⟩], G1, FRm_upd FRm_rf U1 (by simp) (n8c (by omega)), by unfold edT; rw [if_pos ⟨h1, h2⟩, Int32.ofInt_toInt]; exact upd_eq U1⟩
end TAP
end
