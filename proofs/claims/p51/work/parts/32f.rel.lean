section
theorem mi_67_0 : mI 67 0 = (5, 0, 0, 0, 0) := by decide +kernel
theorem mi_67_1 : mI 67 1 = (3, 0, 1, 0, 0) := by decide +kernel
theorem mi_67_2 : mI 67 2 = (26, 1155, 379, 69, 0) := by decide +kernel
theorem mi_67_5 : mI 67 5 = (8, 0, 2, 0, 0) := by decide +kernel
theorem mi_67_6 : mI 67 6 = (5, 0, 2, 0, 0) := by decide +kernel
theorem mi_67_7 : mI 67 7 = (30, 6, 1, 13, 0) := by decide +kernel
theorem mi_67_10 : mI 67 10 = (1, (-2), 1, 0, 0) := by decide +kernel
theorem mi_67_12 : mI 67 12 = (27, 0, 0, 0, 0) := by decide +kernel
theorem mi_67_13 : mI 67 13 = (5, 0, 2, 0, 0) := by decide +kernel
theorem mi_67_14 : mI 67 14 = (5, 0, 0, 0, 0) := by decide +kernel
theorem mi_67_15 : mI 67 15 = (17, 299, 24, 10, 2) := by decide +kernel
theorem mi_67_18 : mI 67 18 = (26, 521, 101, 100, 0) := by decide +kernel
theorem mi_67_21 : mI 67 21 = (5, 0, 0, 0, 0) := by decide +kernel
theorem mi_67_22 : mI 67 22 = (22, 0, 0, 0, 0) := by decide +kernel
theorem mi_67_23 : mI 67 23 = (17, 309, 383, 10, 12) := by decide +kernel
theorem mi_67_26 : mI 67 26 = (1, 1, 0, 0, 0) := by decide +kernel
theorem mi_67_27 : mI 67 27 = (3, 0, 1, 0, 0) := by decide +kernel
theorem mi_67_28 : mI 67 28 = (10, 0, 8, 0, 0) := by decide +kernel
theorem mi_67_29 : mI 67 29 = (10, 0, 6, 0, 0) := by decide +kernel
theorem mi_67_30 : mI 67 30 = (18, 309, 383, 10, 12) := by decide +kernel
theorem mi_67_33 : mI 67 33 = (1, 0, 0, 0, 0) := by decide +kernel
theorem mi_67_34 : mI 67 34 = (27, 0, 0, 0, 0) := by decide +kernel
theorem mi_68_0 : mI 68 0 = (5, 0, 0, 0, 0) := by decide +kernel
theorem mi_68_1 : mI 68 1 = (3, 0, 1, 0, 0) := by decide +kernel
theorem mi_68_2 : mI 68 2 = (26, 1155, 379, 69, 0) := by decide +kernel
theorem mi_68_5 : mI 68 5 = (8, 0, 2, 0, 0) := by decide +kernel
theorem mi_68_6 : mI 68 6 = (5, 0, 2, 0, 0) := by decide +kernel
theorem mi_68_7 : mI 68 7 = (30, 6, 1, 13, 0) := by decide +kernel
theorem mi_68_10 : mI 68 10 = (1, (-2), 1, 0, 0) := by decide +kernel
theorem mi_68_12 : mI 68 12 = (27, 0, 0, 0, 0) := by decide +kernel
theorem mi_68_13 : mI 68 13 = (5, 0, 0, 0, 0) := by decide +kernel
theorem mi_68_14 : mI 68 14 = (17, 309, 383, 10, 12) := by decide +kernel
theorem mi_68_17 : mI 68 17 = (3, 0, 1, 0, 0) := by decide +kernel
theorem mi_68_18 : mI 68 18 = (10, 0, 9, 0, 0) := by decide +kernel
theorem mi_68_19 : mI 68 19 = (1, 1, 0, 0, 0) := by decide +kernel
theorem mi_68_20 : mI 68 20 = (10, 0, 5, 0, 0) := by decide +kernel
theorem mi_68_21 : mI 68 21 = (14, 6, 1, 27, 0) := by decide +kernel
theorem mi_68_24 : mI 68 24 = (1, (-6), 1, 0, 0) := by decide +kernel
theorem mi_68_26 : mI 68 26 = (27, 0, 0, 0, 0) := by decide +kernel
theorem mi_68_27 : mI 68 27 = (5, 0, 0, 0, 0) := by decide +kernel
theorem mi_68_28 : mI 68 28 = (17, 299, 24, 10, 2) := by decide +kernel
theorem mi_68_31 : mI 68 31 = (5, 0, 2, 0, 0) := by decide +kernel
theorem mi_68_32 : mI 68 32 = (26, 521, 101, 100, 0) := by decide +kernel
theorem mi_68_35 : mI 68 35 = (5, 0, 0, 0, 0) := by decide +kernel
theorem mi_68_36 : mI 68 36 = (26, 528, 104, 73, 0) := by decide +kernel
theorem mi_68_39 : mI 68 39 = (1, 0, 0, 0, 0) := by decide +kernel
theorem mi_68_40 : mI 68 40 = (27, 0, 0, 0, 0) := by decide +kernel
theorem mi_70_0 : mI 70 0 = (5, 0, 0, 0, 0) := by decide +kernel
theorem mi_70_1 : mI 70 1 = (17, 304, 55, 10, 7) := by decide +kernel
theorem mi_70_4 : mI 70 4 = (3, 0, 1, 0, 0) := by decide +kernel
theorem mi_70_5 : mI 70 5 = (26, 914, 287, 160, 0) := by decide +kernel
theorem mi_70_8 : mI 70 8 = (14, 18, 0, 26, 0) := by decide +kernel
theorem mi_70_11 : mI 70 11 = (3, 0, 2, 0, 0) := by decide +kernel
theorem mi_70_12 : mI 70 12 = (14, 14, 2, 26, 0) := by decide +kernel
theorem mi_70_15 : mI 70 15 = (3, 0, 2, 0, 0) := by decide +kernel
theorem mi_70_16 : mI 70 16 = (1, 4, 0, 0, 0) := by decide +kernel
theorem mi_70_17 : mI 70 17 = (15, 9, 3, 26, 0) := by decide +kernel
theorem mi_70_20 : mI 70 20 = (3, 0, 3, 0, 0) := by decide +kernel
theorem mi_70_21 : mI 70 21 = (1, 60, 1, 0, 0) := by decide +kernel
theorem mi_70_23 : mI 70 23 = (15, 6, 5, 29, 0) := by decide +kernel
theorem mi_70_26 : mI 70 26 = (1, (-2), 1, 0, 0) := by decide +kernel
theorem mi_70_28 : mI 70 28 = (27, 0, 0, 0, 0) := by decide +kernel
theorem mi_70_29 : mI 70 29 = (3, 0, 3, 0, 0) := by decide +kernel
theorem mi_70_30 : mI 70 30 = (14, 6, 3, 36, 0) := by decide +kernel
theorem mi_70_33 : mI 70 33 = (1, (-3), 1, 0, 0) := by decide +kernel
theorem mi_70_35 : mI 70 35 = (27, 0, 0, 0, 0) := by decide +kernel
theorem mi_70_36 : mI 70 36 = (5, 0, 0, 0, 0) := by decide +kernel
theorem mi_70_37 : mI 70 37 = (17, 304, 55, 10, 7) := by decide +kernel
theorem mi_70_40 : mI 70 40 = (3, 0, 1, 0, 0) := by decide +kernel
theorem mi_70_41 : mI 70 41 = (3, 0, 2, 0, 0) := by decide +kernel
theorem mi_70_42 : mI 70 42 = (3, 0, 3, 0, 0) := by decide +kernel
theorem mi_70_43 : mI 70 43 = (26, 1167, 386, 165, 0) := by decide +kernel
theorem mi_70_46 : mI 70 46 = (1, 0, 0, 0, 0) := by decide +kernel
theorem mi_70_47 : mI 70 47 = (27, 0, 0, 0, 0) := by decide +kernel
theorem mi_71_0 : mI 71 0 = (5, 0, 0, 0, 0) := by decide +kernel
theorem mi_71_1 : mI 71 1 = (17, 304, 55, 10, 7) := by decide +kernel
theorem mi_71_4 : mI 71 4 = (3, 0, 1, 0, 0) := by decide +kernel
theorem mi_71_5 : mI 71 5 = (26, 914, 287, 160, 0) := by decide +kernel
theorem mi_71_8 : mI 71 8 = (14, 6, 1, 14, 0) := by decide +kernel
theorem mi_71_11 : mI 71 11 = (1, (-2), 1, 0, 0) := by decide +kernel
theorem mi_71_13 : mI 71 13 = (27, 0, 0, 0, 0) := by decide +kernel
theorem mi_71_14 : mI 71 14 = (5, 0, 0, 0, 0) := by decide +kernel
theorem mi_71_15 : mI 71 15 = (17, 304, 55, 10, 7) := by decide +kernel
theorem mi_71_18 : mI 71 18 = (3, 0, 1, 0, 0) := by decide +kernel
theorem mi_71_19 : mI 71 19 = (26, 924, 293, 161, 0) := by decide +kernel
theorem mi_71_22 : mI 71 22 = (14, 6, 0, 28, 0) := by decide +kernel
theorem mi_71_25 : mI 71 25 = (1, (-6), 1, 0, 0) := by decide +kernel
theorem mi_71_27 : mI 71 27 = (27, 0, 0, 0, 0) := by decide +kernel
theorem mi_71_28 : mI 71 28 = (3, 0, 2, 0, 0) := by decide +kernel
theorem mi_71_29 : mI 71 29 = (14, 15, 2, 44, 0) := by decide +kernel
theorem mi_71_32 : mI 71 32 = (3, 0, 2, 0, 0) := by decide +kernel
theorem mi_71_33 : mI 71 33 = (5, 0, 0, 0, 0) := by decide +kernel
theorem mi_71_34 : mI 71 34 = (17, 304, 55, 10, 7) := by decide +kernel
theorem mi_71_37 : mI 71 37 = (3, 0, 1, 0, 0) := by decide +kernel
theorem mi_71_38 : mI 71 38 = (26, 918, 290, 162, 0) := by decide +kernel
theorem mi_71_41 : mI 71 41 = (15, 6, 2, 47, 0) := by decide +kernel
theorem mi_71_44 : mI 71 44 = (1, (-7), 1, 0, 0) := by decide +kernel
theorem mi_71_46 : mI 71 46 = (27, 0, 0, 0, 0) := by decide +kernel
theorem mi_71_47 : mI 71 47 = (5, 0, 0, 0, 0) := by decide +kernel
theorem mi_71_48 : mI 71 48 = (17, 304, 55, 10, 7) := by decide +kernel
theorem mi_71_51 : mI 71 51 = (3, 0, 1, 0, 0) := by decide +kernel
theorem mi_71_52 : mI 71 52 = (3, 0, 2, 0, 0) := by decide +kernel
theorem mi_71_53 : mI 71 53 = (4, 0, 3, 0, 0) := by decide +kernel
theorem mi_71_54 : mI 71 54 = (26, 1187, 390, 166, 0) := by decide +kernel
theorem mi_71_57 : mI 71 57 = (1, 0, 0, 0, 0) := by decide +kernel
theorem mi_71_58 : mI 71 58 = (27, 0, 0, 0, 0) := by decide +kernel
theorem mi_72_0 : mI 72 0 = (5, 0, 0, 0, 0) := by decide +kernel
theorem mi_72_1 : mI 72 1 = (17, 304, 55, 10, 7) := by decide +kernel
theorem mi_72_4 : mI 72 4 = (3, 0, 1, 0, 0) := by decide +kernel
theorem mi_72_5 : mI 72 5 = (26, 914, 287, 160, 0) := by decide +kernel
theorem mi_72_8 : mI 72 8 = (14, 14, 0, 22, 0) := by decide +kernel
theorem mi_72_11 : mI 72 11 = (5, 0, 0, 0, 0) := by decide +kernel
theorem mi_72_12 : mI 72 12 = (17, 304, 55, 10, 7) := by decide +kernel
theorem mi_72_15 : mI 72 15 = (3, 0, 3, 0, 0) := by decide +kernel
theorem mi_72_16 : mI 72 16 = (26, 914, 287, 160, 0) := by decide +kernel
theorem mi_72_19 : mI 72 19 = (14, 6, 1, 25, 0) := by decide +kernel
theorem mi_72_22 : mI 72 22 = (1, (-2), 1, 0, 0) := by decide +kernel
theorem mi_72_24 : mI 72 24 = (27, 0, 0, 0, 0) := by decide +kernel
theorem mi_72_25 : mI 72 25 = (5, 0, 0, 0, 0) := by decide +kernel
theorem mi_72_26 : mI 72 26 = (17, 304, 55, 10, 7) := by decide +kernel
theorem mi_72_29 : mI 72 29 = (3, 0, 1, 0, 0) := by decide +kernel
theorem mi_72_30 : mI 72 30 = (26, 924, 293, 161, 0) := by decide +kernel
theorem mi_72_33 : mI 72 33 = (14, 14, 1, 47, 0) := by decide +kernel
theorem mi_72_36 : mI 72 36 = (5, 0, 0, 0, 0) := by decide +kernel
theorem mi_72_37 : mI 72 37 = (17, 304, 55, 10, 7) := by decide +kernel
theorem mi_72_40 : mI 72 40 = (3, 0, 3, 0, 0) := by decide +kernel
theorem mi_72_41 : mI 72 41 = (26, 924, 293, 161, 0) := by decide +kernel
theorem mi_72_44 : mI 72 44 = (14, 6, 0, 50, 0) := by decide +kernel
theorem mi_72_47 : mI 72 47 = (1, (-6), 1, 0, 0) := by decide +kernel
theorem mi_72_49 : mI 72 49 = (27, 0, 0, 0, 0) := by decide +kernel
theorem mi_72_50 : mI 72 50 = (5, 0, 0, 0, 0) := by decide +kernel
theorem mi_72_51 : mI 72 51 = (17, 304, 55, 10, 7) := by decide +kernel
theorem mi_72_54 : mI 72 54 = (3, 0, 1, 0, 0) := by decide +kernel
theorem mi_72_55 : mI 72 55 = (26, 1192, 394, 163, 0) := by decide +kernel
theorem mi_72_58 : mI 72 58 = (5, 0, 0, 0, 0) := by decide +kernel
theorem mi_72_59 : mI 72 59 = (17, 304, 55, 10, 7) := by decide +kernel
theorem mi_72_62 : mI 72 62 = (3, 0, 3, 0, 0) := by decide +kernel
theorem mi_72_63 : mI 72 63 = (26, 1192, 394, 163, 0) := by decide +kernel
theorem mi_72_66 : mI 72 66 = (15, 6, 0, 72, 0) := by decide +kernel
theorem mi_72_69 : mI 72 69 = (1, (-8), 1, 0, 0) := by decide +kernel
theorem mi_72_71 : mI 72 71 = (27, 0, 0, 0, 0) := by decide +kernel
theorem mi_72_72 : mI 72 72 = (5, 0, 0, 0, 0) := by decide +kernel
theorem mi_72_73 : mI 72 73 = (17, 304, 55, 10, 7) := by decide +kernel
theorem mi_72_76 : mI 72 76 = (3, 0, 1, 0, 0) := by decide +kernel
theorem mi_72_77 : mI 72 77 = (3, 0, 2, 0, 0) := by decide +kernel
theorem mi_72_78 : mI 72 78 = (3, 0, 5, 1, 0) := by decide +kernel
theorem mi_72_80 : mI 72 80 = (26, 1193, 397, 168, 0) := by decide +kernel
theorem mi_72_83 : mI 72 83 = (14, 18, 0, 101, 0) := by decide +kernel
theorem mi_72_86 : mI 72 86 = (5, 0, 0, 0, 0) := by decide +kernel
theorem mi_72_87 : mI 72 87 = (17, 304, 55, 10, 7) := by decide +kernel
theorem mi_72_90 : mI 72 90 = (3, 0, 3, 0, 0) := by decide +kernel
theorem mi_72_91 : mI 72 91 = (3, 0, 4, 1, 0) := by decide +kernel
theorem mi_72_93 : mI 72 93 = (3, 0, 5, 1, 0) := by decide +kernel
theorem mi_72_95 : mI 72 95 = (26, 1193, 397, 168, 0) := by decide +kernel
theorem mi_72_98 : mI 72 98 = (14, 6, 1, 104, 0) := by decide +kernel
theorem mi_72_101 : mI 72 101 = (1, (-7), 1, 0, 0) := by decide +kernel
theorem mi_72_103 : mI 72 103 = (27, 0, 0, 0, 0) := by decide +kernel
theorem mi_72_104 : mI 72 104 = (5, 0, 0, 0, 0) := by decide +kernel
theorem mi_72_105 : mI 72 105 = (17, 304, 55, 10, 7) := by decide +kernel
theorem mi_72_108 : mI 72 108 = (3, 0, 1, 0, 0) := by decide +kernel
theorem mi_72_109 : mI 72 109 = (3, 0, 2, 0, 0) := by decide +kernel
theorem mi_72_110 : mI 72 110 = (3, 0, 3, 0, 0) := by decide +kernel
theorem mi_72_111 : mI 72 111 = (3, 0, 4, 1, 0) := by decide +kernel
theorem mi_72_113 : mI 72 113 = (3, 0, 5, 1, 0) := by decide +kernel
theorem mi_72_115 : mI 72 115 = (26, 1197, 400, 169, 0) := by decide +kernel
theorem mi_72_118 : mI 72 118 = (1, 0, 0, 0, 0) := by decide +kernel
theorem mi_72_119 : mI 72 119 = (27, 0, 0, 0, 0) := by decide +kernel
theorem mi_147_0 : mI 147 0 = (3, 0, 1, 0, 0) := by decide +kernel
theorem mi_147_1 : mI 147 1 = (14, 15, 2, 16, 0) := by decide +kernel
theorem mi_147_4 : mI 147 4 = (3, 0, 1, 0, 0) := by decide +kernel
theorem mi_147_5 : mI 147 5 = (5, 0, 0, 0, 0) := by decide +kernel
theorem mi_147_6 : mI 147 6 = (21, 0, 0, 0, 0) := by decide +kernel
theorem mi_147_7 : mI 147 7 = (15, 9, 3, 16, 0) := by decide +kernel
theorem mi_147_10 : mI 147 10 = (5, 0, 0, 0, 0) := by decide +kernel
theorem mi_147_11 : mI 147 11 = (3, 0, 1, 0, 0) := by decide +kernel
theorem mi_147_12 : mI 147 12 = (19, 0, 0, 0, 0) := by decide +kernel
theorem mi_147_13 : mI 147 13 = (16, 4, 0, 17, 0) := by decide +kernel
theorem mi_147_16 : mI 147 16 = (1, 0, 0, 0, 0) := by decide +kernel
theorem mi_147_17 : mI 147 17 = (27, 0, 0, 0, 0) := by decide +kernel
theorem mi_148_0 : mI 148 0 = (3, 0, 1, 0, 0) := by decide +kernel
theorem mi_148_1 : mI 148 1 = (14, 13, 2, 14, 0) := by decide +kernel
theorem mi_148_4 : mI 148 4 = (3, 0, 1, 0, 0) := by decide +kernel
theorem mi_148_5 : mI 148 5 = (5, 0, 0, 0, 0) := by decide +kernel
theorem mi_148_6 : mI 148 6 = (21, 0, 0, 0, 0) := by decide +kernel
theorem mi_148_7 : mI 148 7 = (15, 7, 3, 14, 0) := by decide +kernel
theorem mi_148_10 : mI 148 10 = (5, 0, 0, 0, 0) := by decide +kernel
theorem mi_148_11 : mI 148 11 = (3, 0, 1, 0, 0) := by decide +kernel
theorem mi_148_12 : mI 148 12 = (3, 0, 2, 0, 0) := by decide +kernel
theorem mi_148_13 : mI 148 13 = (20, 0, 0, 0, 0) := by decide +kernel
theorem mi_148_14 : mI 148 14 = (27, 0, 2, 0, 0) := by decide +kernel
theorem mi_160_0 : mI 160 0 = (3, 0, 1, 0, 0) := by decide +kernel
theorem mi_160_1 : mI 160 1 = (14, 12, 2, 13, 0) := by decide +kernel
theorem mi_160_4 : mI 160 4 = (3, 0, 1, 0, 0) := by decide +kernel
theorem mi_160_5 : mI 160 5 = (1, 4, 0, 0, 0) := by decide +kernel
theorem mi_160_6 : mI 160 6 = (15, 7, 3, 13, 0) := by decide +kernel
theorem mi_160_9 : mI 160 9 = (1, 1, 0, 0, 0) := by decide +kernel
theorem mi_160_10 : mI 160 10 = (16, 4, 0, 14, 0) := by decide +kernel
theorem mi_160_13 : mI 160 13 = (1, 0, 0, 0, 0) := by decide +kernel
theorem mi_160_14 : mI 160 14 = (27, 0, 0, 0, 0) := by decide +kernel
theorem mi_161_0 : mI 161 0 = (5, 0, 0, 0, 0) := by decide +kernel
theorem mi_161_1 : mI 161 1 = (3, 0, 1, 0, 0) := by decide +kernel
theorem mi_161_2 : mI 161 2 = (26, 928, 22, 162, 0) := by decide +kernel
theorem mi_161_5 : mI 161 5 = (14, 7, 3, 12, 0) := by decide +kernel
theorem mi_161_8 : mI 161 8 = (1, 1, 0, 0, 0) := by decide +kernel
theorem mi_161_9 : mI 161 9 = (16, 4, 0, 13, 0) := by decide +kernel
theorem mi_161_12 : mI 161 12 = (1, 0, 0, 0, 0) := by decide +kernel
theorem mi_161_13 : mI 161 13 = (27, 0, 0, 0, 0) := by decide +kernel
theorem mi_162_0 : mI 162 0 = (5, 0, 0, 0, 0) := by decide +kernel
theorem mi_162_1 : mI 162 1 = (3, 0, 1, 0, 0) := by decide +kernel
theorem mi_162_2 : mI 162 2 = (26, 922, 26, 160, 0) := by decide +kernel
theorem mi_162_5 : mI 162 5 = (14, 14, 0, 19, 0) := by decide +kernel
theorem mi_162_8 : mI 162 8 = (5, 0, 0, 0, 0) := by decide +kernel
theorem mi_162_9 : mI 162 9 = (17, 243, 19, 7, 2) := by decide +kernel
theorem mi_162_12 : mI 162 12 = (3, 0, 1, 0, 0) := by decide +kernel
theorem mi_162_13 : mI 162 13 = (26, 923, 30, 147, 1) := by decide +kernel
theorem mi_162_16 : mI 162 16 = (16, 4, 0, 20, 0) := by decide +kernel
theorem mi_162_20 : mI 162 20 = (27, 0, 0, 0, 0) := by decide +kernel
theorem mi_163_0 : mI 163 0 = (5, 0, 0, 0, 0) := by decide +kernel
theorem mi_163_1 : mI 163 1 = (17, 242, 15, 7, 1) := by decide +kernel
theorem mi_163_4 : mI 163 4 = (3, 0, 1, 0, 0) := by decide +kernel
theorem mi_163_5 : mI 163 5 = (26, 923, 30, 147, 1) := by decide +kernel
theorem mi_163_8 : mI 163 8 = (27, 0, 0, 0, 0) := by decide +kernel
theorem mi_165_0 : mI 165 0 = (5, 0, 0, 0, 0) := by decide +kernel
theorem mi_165_1 : mI 165 1 = (17, 243, 19, 7, 2) := by decide +kernel
theorem mi_165_4 : mI 165 4 = (3, 0, 1, 0, 0) := by decide +kernel
theorem mi_165_5 : mI 165 5 = (3, 0, 3, 0, 0) := by decide +kernel
theorem mi_165_6 : mI 165 6 = (26, 1171, 36, 148, 1) := by decide +kernel
theorem mi_165_9 : mI 165 9 = (5, 0, 0, 0, 0) := by decide +kernel
theorem mi_165_10 : mI 165 10 = (17, 242, 15, 7, 1) := by decide +kernel
theorem mi_165_13 : mI 165 13 = (3, 0, 1, 0, 0) := by decide +kernel
theorem mi_165_14 : mI 165 14 = (3, 0, 2, 0, 0) := by decide +kernel
theorem mi_165_15 : mI 165 15 = (26, 1171, 36, 148, 1) := by decide +kernel
theorem mi_165_18 : mI 165 18 = (1, 0, 0, 0, 0) := by decide +kernel
theorem mi_165_19 : mI 165 19 = (6, 0, 4, 1, 0) := by decide +kernel
theorem mi_165_21 : mI 165 21 = (3, 0, 4, 1, 0) := by decide +kernel
theorem mi_165_23 : mI 165 23 = (3, 0, 3, 0, 0) := by decide +kernel
theorem mi_165_24 : mI 165 24 = (15, 17, 3, 41, 0) := by decide +kernel
theorem mi_165_27 : mI 165 27 = (5, 0, 0, 0, 0) := by decide +kernel
theorem mi_165_28 : mI 165 28 = (3, 0, 1, 0, 0) := by decide +kernel
theorem mi_165_29 : mI 165 29 = (3, 0, 4, 1, 0) := by decide +kernel
theorem mi_165_31 : mI 165 31 = (2, 0, 0, 0, 0) := by decide +kernel
theorem mi_165_32 : mI 165 32 = (26, 1172, 40, 166, 0) := by decide +kernel
theorem mi_165_35 : mI 165 35 = (9, 1, 4, 0, 0) := by decide +kernel
theorem mi_165_38 : mI 165 38 = (16, (-17), 0, 21, 0) := by decide +kernel
theorem mi_165_41 : mI 165 41 = (27, 0, 2, 0, 0) := by decide +kernel
theorem mi_168_0 : mI 168 0 = (3, 0, 2, 0, 0) := by decide +kernel
theorem mi_168_1 : mI 168 1 = (14, 26, 2, 27, 0) := by decide +kernel
theorem mi_168_4 : mI 168 4 = (3, 0, 3, 0, 0) := by decide +kernel
theorem mi_168_5 : mI 168 5 = (14, 22, 2, 27, 0) := by decide +kernel
theorem mi_168_8 : mI 168 8 = (3, 0, 2, 0, 0) := by decide +kernel
theorem mi_168_9 : mI 168 9 = (12, 0, 1, 0, 0) := by decide +kernel
theorem mi_168_10 : mI 168 10 = (3, 0, 3, 0, 0) := by decide +kernel
theorem mi_168_11 : mI 168 11 = (12, 0, 1, 0, 0) := by decide +kernel
theorem mi_168_12 : mI 168 12 = (11, 0, 0, 0, 0) := by decide +kernel
theorem mi_168_13 : mI 168 13 = (5, 0, 0, 0, 0) := by decide +kernel
theorem mi_168_14 : mI 168 14 = (3, 0, 1, 0, 0) := by decide +kernel
theorem mi_168_15 : mI 168 15 = (26, 928, 22, 162, 0) := by decide +kernel
theorem mi_168_18 : mI 168 18 = (12, 0, 1, 0, 0) := by decide +kernel
theorem mi_168_19 : mI 168 19 = (13, 0, 0, 0, 0) := by decide +kernel
theorem mi_168_20 : mI 168 20 = (14, 7, 4, 27, 0) := by decide +kernel
theorem mi_168_23 : mI 168 23 = (1, 1, 0, 0, 0) := by decide +kernel
theorem mi_168_24 : mI 168 24 = (16, 4, 0, 28, 0) := by decide +kernel
theorem mi_168_27 : mI 168 27 = (1, 0, 0, 0, 0) := by decide +kernel
theorem mi_168_28 : mI 168 28 = (27, 0, 0, 0, 0) := by decide +kernel
theorem mi_196_0 : mI 196 0 = (3, 0, 1, 0, 0) := by decide +kernel
theorem mi_196_1 : mI 196 1 = (12, 0, 1, 0, 0) := by decide +kernel
theorem mi_196_2 : mI 196 2 = (2, 0, 0, 0, 0) := by decide +kernel
theorem mi_196_3 : mI 196 3 = (2, 2, 1, 83, 1320) := by decide +kernel
theorem mi_196_6 : mI 196 6 = (26, 1321, 85, 193, 1) := by decide +kernel
theorem mi_196_9 : mI 196 9 = (14, 6, 1, 15, 0) := by decide +kernel
theorem mi_196_12 : mI 196 12 = (1, (-2), 1, 0, 0) := by decide +kernel
theorem mi_196_14 : mI 196 14 = (27, 0, 0, 0, 0) := by decide +kernel
theorem mi_196_15 : mI 196 15 = (1, 0, 0, 0, 0) := by decide +kernel
theorem mi_196_16 : mI 196 16 = (6, 0, 2, 0, 0) := by decide +kernel
theorem mi_196_17 : mI 196 17 = (3, 0, 2, 0, 0) := by decide +kernel
theorem mi_196_18 : mI 196 18 = (1, 294, 2, 0, 0) := by decide +kernel
theorem mi_196_21 : mI 196 21 = (15, 27, 3, 48, 0) := by decide +kernel
theorem mi_196_24 : mI 196 24 = (5, 0, 0, 0, 0) := by decide +kernel
theorem mi_196_25 : mI 196 25 = (17, 1208, 13, 11, 2) := by decide +kernel
theorem mi_196_28 : mI 196 28 = (1, 294, 2, 0, 0) := by decide +kernel
theorem mi_196_31 : mI 196 31 = (3, 0, 1, 0, 0) := by decide +kernel
theorem mi_196_32 : mI 196 32 = (10, 0, 2, 0, 0) := by decide +kernel
theorem mi_196_33 : mI 196 33 = (3, 0, 2, 0, 0) := by decide +kernel
theorem mi_196_34 : mI 196 34 = (10, 0, 0, 0, 0) := by decide +kernel
theorem mi_196_35 : mI 196 35 = (5, 0, 0, 0, 0) := by decide +kernel
theorem mi_196_36 : mI 196 36 = (17, 1207, 9, 11, 1) := by decide +kernel
theorem mi_196_39 : mI 196 39 = (3, 0, 2, 0, 0) := by decide +kernel
theorem mi_196_40 : mI 196 40 = (19, 0, 0, 0, 0) := by decide +kernel
theorem mi_196_41 : mI 196 41 = (20, 0, 0, 0, 0) := by decide +kernel
theorem mi_196_42 : mI 196 42 = (9, 1, 2, 1, 0) := by decide +kernel
theorem mi_196_45 : mI 196 45 = (16, (-28), 0, 17, 0) := by decide +kernel
theorem mi_196_48 : mI 196 48 = (5, 0, 0, 0, 0) := by decide +kernel
theorem mi_196_49 : mI 196 49 = (17, 1209, 16, 11, 3) := by decide +kernel
theorem mi_196_52 : mI 196 52 = (3, 0, 1, 0, 0) := by decide +kernel
theorem mi_196_53 : mI 196 53 = (1, 1, 0, 0, 0) := by decide +kernel
theorem mi_196_54 : mI 196 54 = (20, 0, 1, 0, 0) := by decide +kernel
theorem mi_196_55 : mI 196 55 = (1, 0, 0, 0, 0) := by decide +kernel
theorem mi_196_56 : mI 196 56 = (27, 0, 0, 0, 0) := by decide +kernel
theorem mi_197_0 : mI 197 0 = (3, 0, 1, 0, 0) := by decide +kernel
theorem mi_197_1 : mI 197 1 = (12, 0, 1, 0, 0) := by decide +kernel
theorem mi_197_2 : mI 197 2 = (2, 0, 0, 0, 0) := by decide +kernel
theorem mi_197_3 : mI 197 3 = (2, 2, 1, 83, 1320) := by decide +kernel
theorem mi_197_6 : mI 197 6 = (26, 1321, 85, 193, 1) := by decide +kernel
theorem mi_197_9 : mI 197 9 = (14, 6, 1, 15, 0) := by decide +kernel
theorem mi_197_12 : mI 197 12 = (1, (-2), 1, 0, 0) := by decide +kernel
theorem mi_197_14 : mI 197 14 = (27, 0, 0, 0, 0) := by decide +kernel
theorem mi_197_15 : mI 197 15 = (5, 0, 0, 0, 0) := by decide +kernel
theorem mi_197_16 : mI 197 16 = (17, 1209, 16, 11, 3) := by decide +kernel
theorem mi_197_19 : mI 197 19 = (3, 0, 1, 0, 0) := by decide +kernel
theorem mi_197_20 : mI 197 20 = (19, 0, 1, 0, 0) := by decide +kernel
theorem mi_197_21 : mI 197 21 = (14, 6, 1, 27, 0) := by decide +kernel
theorem mi_197_24 : mI 197 24 = (1, (-6), 1, 0, 0) := by decide +kernel
theorem mi_197_26 : mI 197 26 = (27, 0, 0, 0, 0) := by decide +kernel
theorem mi_197_27 : mI 197 27 = (1, 0, 0, 0, 0) := by decide +kernel
theorem mi_197_28 : mI 197 28 = (6, 0, 2, 0, 0) := by decide +kernel
theorem mi_197_29 : mI 197 29 = (3, 0, 2, 0, 0) := by decide +kernel
theorem mi_197_30 : mI 197 30 = (1, 294, 2, 0, 0) := by decide +kernel
theorem mi_197_33 : mI 197 33 = (15, 27, 3, 60, 0) := by decide +kernel
theorem mi_197_36 : mI 197 36 = (5, 0, 0, 0, 0) := by decide +kernel
theorem mi_197_37 : mI 197 37 = (17, 1207, 9, 11, 1) := by decide +kernel
theorem mi_197_40 : mI 197 40 = (3, 0, 2, 0, 0) := by decide +kernel
theorem mi_197_41 : mI 197 41 = (5, 0, 0, 0, 0) := by decide +kernel
theorem mi_197_42 : mI 197 42 = (17, 1208, 13, 11, 2) := by decide +kernel
theorem mi_197_45 : mI 197 45 = (1, 294, 2, 0, 0) := by decide +kernel
theorem mi_197_48 : mI 197 48 = (3, 0, 1, 0, 0) := by decide +kernel
theorem mi_197_49 : mI 197 49 = (10, 0, 2, 0, 0) := by decide +kernel
theorem mi_197_50 : mI 197 50 = (3, 0, 2, 0, 0) := by decide +kernel
theorem mi_197_51 : mI 197 51 = (10, 0, 0, 0, 0) := by decide +kernel
theorem mi_197_52 : mI 197 52 = (19, 0, 0, 0, 0) := by decide +kernel
theorem mi_197_53 : mI 197 53 = (20, 0, 0, 0, 0) := by decide +kernel
theorem mi_197_54 : mI 197 54 = (9, 1, 2, 1, 0) := by decide +kernel
theorem mi_197_57 : mI 197 57 = (16, (-28), 0, 29, 0) := by decide +kernel
theorem mi_197_60 : mI 197 60 = (1, 0, 0, 0, 0) := by decide +kernel
theorem mi_197_61 : mI 197 61 = (27, 0, 0, 0, 0) := by decide +kernel
theorem mi_336_0 : mI 336 0 = (3, 0, 0, 0, 0) := by decide +kernel
theorem mi_336_1 : mI 336 1 = (12, 0, 1, 0, 0) := by decide +kernel
theorem mi_336_2 : mI 336 2 = (2, 0, 0, 0, 0) := by decide +kernel
theorem mi_336_3 : mI 336 3 = (2, 3, 1, 299, 1488) := by decide +kernel
theorem mi_336_6 : mI 336 6 = (26, 1321, 85, 193, 1) := by decide +kernel
theorem mi_336_9 : mI 336 9 = (27, 0, 0, 0, 0) := by decide +kernel
theorem mi_338_0 : mI 338 0 = (3, 0, 1, 0, 0) := by decide +kernel
theorem mi_338_1 : mI 338 1 = (26, 1773, 371, 336, 1) := by decide +kernel
theorem mi_338_4 : mI 338 4 = (14, 21, 0, 25, 0) := by decide +kernel
theorem mi_338_7 : mI 338 7 = (3, 0, 2, 0, 0) := by decide +kernel
theorem mi_338_8 : mI 338 8 = (12, 0, 1, 0, 0) := by decide +kernel
theorem mi_338_9 : mI 338 9 = (2, 0, 0, 0, 0) := by decide +kernel
theorem mi_338_10 : mI 338 10 = (2, 3, 1, 299, 1488) := by decide +kernel
theorem mi_338_13 : mI 338 13 = (26, 1321, 85, 193, 1) := by decide +kernel
theorem mi_338_16 : mI 338 16 = (14, 9, 0, 25, 0) := by decide +kernel
theorem mi_338_19 : mI 338 19 = (3, 0, 3, 0, 0) := by decide +kernel
theorem mi_338_20 : mI 338 20 = (1, 60, 1, 0, 0) := by decide +kernel
theorem mi_338_22 : mI 338 22 = (15, 6, 5, 28, 0) := by decide +kernel
theorem mi_338_25 : mI 338 25 = (1, (-2), 1, 0, 0) := by decide +kernel
theorem mi_338_27 : mI 338 27 = (27, 0, 0, 0, 0) := by decide +kernel
theorem mi_338_28 : mI 338 28 = (3, 0, 3, 0, 0) := by decide +kernel
theorem mi_338_29 : mI 338 29 = (14, 6, 3, 35, 0) := by decide +kernel
theorem mi_338_32 : mI 338 32 = (1, (-3), 1, 0, 0) := by decide +kernel
theorem mi_338_34 : mI 338 34 = (27, 0, 0, 0, 0) := by decide +kernel
theorem mi_338_35 : mI 338 35 = (5, 0, 0, 0, 0) := by decide +kernel
theorem mi_338_36 : mI 338 36 = (17, 1238, 67, 11, 32) := by decide +kernel
theorem mi_338_39 : mI 338 39 = (3, 0, 1, 0, 0) := by decide +kernel
theorem mi_338_40 : mI 338 40 = (3, 0, 3, 0, 0) := by decide +kernel
theorem mi_338_41 : mI 338 41 = (20, 0, 0, 0, 0) := by decide +kernel
theorem mi_338_42 : mI 338 42 = (5, 0, 0, 0, 0) := by decide +kernel
theorem mi_338_43 : mI 338 43 = (17, 1239, 70, 11, 33) := by decide +kernel
theorem mi_338_46 : mI 338 46 = (3, 0, 1, 0, 0) := by decide +kernel
theorem mi_338_47 : mI 338 47 = (3, 0, 2, 0, 0) := by decide +kernel
theorem mi_338_48 : mI 338 48 = (20, 0, 0, 0, 0) := by decide +kernel
theorem mi_338_49 : mI 338 49 = (1, 0, 0, 0, 0) := by decide +kernel
theorem mi_338_50 : mI 338 50 = (6, 0, 4, 1, 0) := by decide +kernel
theorem mi_338_52 : mI 338 52 = (3, 0, 4, 1, 0) := by decide +kernel
theorem mi_338_54 : mI 338 54 = (1, 60, 1, 0, 0) := by decide +kernel
theorem mi_338_56 : mI 338 56 = (15, 22, 3, 78, 0) := by decide +kernel
theorem mi_338_59 : mI 338 59 = (5, 0, 0, 0, 0) := by decide +kernel
theorem mi_338_60 : mI 338 60 = (17, 1240, 73, 11, 34) := by decide +kernel
theorem mi_338_63 : mI 338 63 = (1, 60, 1, 0, 0) := by decide +kernel
theorem mi_338_65 : mI 338 65 = (3, 0, 1, 0, 0) := by decide +kernel
theorem mi_338_66 : mI 338 66 = (10, 0, 2, 0, 0) := by decide +kernel
theorem mi_338_67 : mI 338 67 = (3, 0, 4, 1, 0) := by decide +kernel
theorem mi_338_69 : mI 338 69 = (10, 0, 0, 0, 0) := by decide +kernel
theorem mi_338_70 : mI 338 70 = (2, 0, 0, 0, 0) := by decide +kernel
theorem mi_338_71 : mI 338 71 = (20, 0, 2, 0, 0) := by decide +kernel
theorem mi_338_72 : mI 338 72 = (9, 1, 4, 0, 0) := by decide +kernel
theorem mi_338_75 : mI 338 75 = (16, (-23), 0, 52, 0) := by decide +kernel
theorem mi_338_78 : mI 338 78 = (1, 0, 0, 0, 0) := by decide +kernel
theorem mi_338_79 : mI 338 79 = (27, 0, 0, 0, 0) := by decide +kernel
theorem mi_339_0 : mI 339 0 = (3, 0, 1, 0, 0) := by decide +kernel
theorem mi_339_1 : mI 339 1 = (26, 1773, 371, 336, 1) := by decide +kernel
theorem mi_339_4 : mI 339 4 = (14, 6, 1, 10, 0) := by decide +kernel
theorem mi_339_7 : mI 339 7 = (1, (-2), 1, 0, 0) := by decide +kernel
theorem mi_339_9 : mI 339 9 = (27, 0, 0, 0, 0) := by decide +kernel
theorem mi_339_10 : mI 339 10 = (5, 0, 0, 0, 0) := by decide +kernel
theorem mi_339_11 : mI 339 11 = (17, 1238, 67, 11, 32) := by decide +kernel
theorem mi_339_14 : mI 339 14 = (3, 0, 1, 0, 0) := by decide +kernel
theorem mi_339_15 : mI 339 15 = (19, 0, 0, 0, 0) := by decide +kernel
theorem mi_339_16 : mI 339 16 = (1, (-1), 0, 0, 0) := by decide +kernel
theorem mi_339_17 : mI 339 17 = (15, 6, 1, 23, 0) := by decide +kernel
theorem mi_339_20 : mI 339 20 = (1, (-6), 1, 0, 0) := by decide +kernel
theorem mi_339_22 : mI 339 22 = (27, 0, 0, 0, 0) := by decide +kernel
theorem mi_339_23 : mI 339 23 = (3, 0, 2, 0, 0) := by decide +kernel
theorem mi_339_24 : mI 339 24 = (12, 0, 1, 0, 0) := by decide +kernel
theorem mi_339_25 : mI 339 25 = (2, 0, 0, 0, 0) := by decide +kernel
theorem mi_339_26 : mI 339 26 = (5, 0, 0, 0, 0) := by decide +kernel
theorem mi_339_27 : mI 339 27 = (17, 1238, 67, 11, 32) := by decide +kernel
theorem mi_339_30 : mI 339 30 = (3, 0, 1, 0, 0) := by decide +kernel
theorem mi_339_31 : mI 339 31 = (19, 0, 0, 0, 0) := by decide +kernel
theorem mi_339_32 : mI 339 32 = (1, 1, 0, 0, 0) := by decide +kernel
theorem mi_339_33 : mI 339 33 = (10, 0, 1, 0, 0) := by decide +kernel
theorem mi_339_34 : mI 339 34 = (12, 0, 1, 0, 0) := by decide +kernel
theorem mi_339_35 : mI 339 35 = (26, 1321, 85, 193, 1) := by decide +kernel
theorem mi_339_38 : mI 339 38 = (14, 6, 1, 44, 0) := by decide +kernel
theorem mi_339_41 : mI 339 41 = (1, (-7), 1, 0, 0) := by decide +kernel
theorem mi_339_43 : mI 339 43 = (27, 0, 0, 0, 0) := by decide +kernel
theorem mi_339_44 : mI 339 44 = (5, 0, 0, 0, 0) := by decide +kernel
theorem mi_339_45 : mI 339 45 = (17, 1240, 73, 11, 34) := by decide +kernel
theorem mi_339_48 : mI 339 48 = (1, 60, 1, 0, 0) := by decide +kernel
theorem mi_339_50 : mI 339 50 = (3, 0, 1, 0, 0) := by decide +kernel
theorem mi_339_51 : mI 339 51 = (10, 0, 2, 0, 0) := by decide +kernel
theorem mi_339_52 : mI 339 52 = (3, 0, 2, 0, 0) := by decide +kernel
theorem mi_339_53 : mI 339 53 = (10, 0, 0, 0, 0) := by decide +kernel
theorem mi_339_54 : mI 339 54 = (4, 0, 3, 0, 0) := by decide +kernel
theorem mi_339_55 : mI 339 55 = (5, 0, 0, 0, 0) := by decide +kernel
theorem mi_339_56 : mI 339 56 = (17, 1239, 70, 11, 33) := by decide +kernel
theorem mi_339_59 : mI 339 59 = (3, 0, 1, 0, 0) := by decide +kernel
theorem mi_339_60 : mI 339 60 = (19, 0, 0, 0, 0) := by decide +kernel
theorem mi_339_61 : mI 339 61 = (26, 1931, 471, 337, 1) := by decide +kernel
theorem mi_339_64 : mI 339 64 = (20, 0, 2, 0, 0) := by decide +kernel
theorem mi_339_65 : mI 339 65 = (1, 0, 0, 0, 0) := by decide +kernel
theorem mi_339_66 : mI 339 66 = (27, 0, 0, 0, 0) := by decide +kernel
theorem mi_340_0 : mI 340 0 = (3, 0, 1, 0, 0) := by decide +kernel
theorem mi_340_1 : mI 340 1 = (26, 1773, 371, 336, 1) := by decide +kernel
theorem mi_340_4 : mI 340 4 = (14, 10, 0, 14, 0) := by decide +kernel
theorem mi_340_7 : mI 340 7 = (3, 0, 3, 0, 0) := by decide +kernel
theorem mi_340_8 : mI 340 8 = (26, 1773, 371, 336, 1) := by decide +kernel
theorem mi_340_11 : mI 340 11 = (14, 6, 1, 17, 0) := by decide +kernel
theorem mi_340_14 : mI 340 14 = (1, (-2), 1, 0, 0) := by decide +kernel
theorem mi_340_16 : mI 340 16 = (27, 0, 0, 0, 0) := by decide +kernel
theorem mi_340_17 : mI 340 17 = (5, 0, 0, 0, 0) := by decide +kernel
theorem mi_340_18 : mI 340 18 = (17, 1238, 67, 11, 32) := by decide +kernel
theorem mi_340_21 : mI 340 21 = (3, 0, 1, 0, 0) := by decide +kernel
theorem mi_340_22 : mI 340 22 = (19, 0, 0, 0, 0) := by decide +kernel
theorem mi_340_23 : mI 340 23 = (1, (-1), 0, 0, 0) := by decide +kernel
theorem mi_340_24 : mI 340 24 = (15, 13, 0, 37, 0) := by decide +kernel
theorem mi_340_27 : mI 340 27 = (5, 0, 0, 0, 0) := by decide +kernel
theorem mi_340_28 : mI 340 28 = (17, 1238, 67, 11, 32) := by decide +kernel
theorem mi_340_31 : mI 340 31 = (3, 0, 3, 0, 0) := by decide +kernel
theorem mi_340_32 : mI 340 32 = (19, 0, 0, 0, 0) := by decide +kernel
theorem mi_340_33 : mI 340 33 = (1, (-1), 0, 0, 0) := by decide +kernel
theorem mi_340_34 : mI 340 34 = (15, 6, 1, 40, 0) := by decide +kernel
theorem mi_340_37 : mI 340 37 = (1, (-6), 1, 0, 0) := by decide +kernel
theorem mi_340_39 : mI 340 39 = (27, 0, 0, 0, 0) := by decide +kernel
theorem mi_340_40 : mI 340 40 = (5, 0, 0, 0, 0) := by decide +kernel
theorem mi_340_41 : mI 340 41 = (17, 1239, 70, 11, 33) := by decide +kernel
theorem mi_340_44 : mI 340 44 = (3, 0, 1, 0, 0) := by decide +kernel
theorem mi_340_45 : mI 340 45 = (19, 0, 0, 0, 0) := by decide +kernel
theorem mi_340_46 : mI 340 46 = (5, 0, 0, 0, 0) := by decide +kernel
theorem mi_340_47 : mI 340 47 = (17, 1239, 70, 11, 33) := by decide +kernel
theorem mi_340_50 : mI 340 50 = (3, 0, 3, 0, 0) := by decide +kernel
theorem mi_340_51 : mI 340 51 = (19, 0, 0, 0, 0) := by decide +kernel
theorem mi_340_52 : mI 340 52 = (15, 6, 0, 58, 0) := by decide +kernel
theorem mi_340_55 : mI 340 55 = (1, (-8), 1, 0, 0) := by decide +kernel
theorem mi_340_57 : mI 340 57 = (27, 0, 0, 0, 0) := by decide +kernel
theorem mi_340_58 : mI 340 58 = (3, 0, 2, 0, 0) := by decide +kernel
theorem mi_340_59 : mI 340 59 = (14, 48, 2, 107, 0) := by decide +kernel
theorem mi_340_62 : mI 340 62 = (3, 0, 4, 1, 0) := by decide +kernel
theorem mi_340_64 : mI 340 64 = (14, 43, 2, 107, 0) := by decide +kernel
theorem mi_340_67 : mI 340 67 = (3, 0, 5, 1, 0) := by decide +kernel
theorem mi_340_69 : mI 340 69 = (14, 38, 2, 107, 0) := by decide +kernel
theorem mi_340_72 : mI 340 72 = (3, 0, 2, 0, 0) := by decide +kernel
theorem mi_340_73 : mI 340 73 = (12, 0, 1, 0, 0) := by decide +kernel
theorem mi_340_74 : mI 340 74 = (3, 0, 5, 1, 0) := by decide +kernel
theorem mi_340_76 : mI 340 76 = (12, 0, 1, 0, 0) := by decide +kernel
theorem mi_340_77 : mI 340 77 = (11, 0, 0, 0, 0) := by decide +kernel
theorem mi_340_78 : mI 340 78 = (5, 0, 0, 0, 0) := by decide +kernel
theorem mi_340_79 : mI 340 79 = (17, 1238, 67, 11, 32) := by decide +kernel
theorem mi_340_82 : mI 340 82 = (3, 0, 1, 0, 0) := by decide +kernel
theorem mi_340_83 : mI 340 83 = (19, 0, 0, 0, 0) := by decide +kernel
theorem mi_340_84 : mI 340 84 = (12, 0, 1, 0, 0) := by decide +kernel
theorem mi_340_85 : mI 340 85 = (13, 0, 0, 0, 0) := by decide +kernel
theorem mi_340_86 : mI 340 86 = (14, 21, 4, 107, 0) := by decide +kernel
theorem mi_340_89 : mI 340 89 = (3, 0, 4, 1, 0) := by decide +kernel
theorem mi_340_91 : mI 340 91 = (12, 0, 1, 0, 0) := by decide +kernel
theorem mi_340_92 : mI 340 92 = (3, 0, 5, 1, 0) := by decide +kernel
theorem mi_340_94 : mI 340 94 = (12, 0, 1, 0, 0) := by decide +kernel
theorem mi_340_95 : mI 340 95 = (11, 0, 0, 0, 0) := by decide +kernel
theorem mi_340_96 : mI 340 96 = (5, 0, 0, 0, 0) := by decide +kernel
theorem mi_340_97 : mI 340 97 = (17, 1238, 67, 11, 32) := by decide +kernel
theorem mi_340_100 : mI 340 100 = (3, 0, 3, 0, 0) := by decide +kernel
theorem mi_340_101 : mI 340 101 = (19, 0, 0, 0, 0) := by decide +kernel
theorem mi_340_102 : mI 340 102 = (12, 0, 1, 0, 0) := by decide +kernel
theorem mi_340_103 : mI 340 103 = (13, 0, 0, 0, 0) := by decide +kernel
theorem mi_340_104 : mI 340 104 = (14, 6, 5, 110, 0) := by decide +kernel
theorem mi_340_107 : mI 340 107 = (1, (-7), 1, 0, 0) := by decide +kernel
theorem mi_340_109 : mI 340 109 = (27, 0, 0, 0, 0) := by decide +kernel
theorem mi_340_110 : mI 340 110 = (1, 0, 0, 0, 0) := by decide +kernel
theorem mi_340_111 : mI 340 111 = (6, 0, 6, 1, 0) := by decide +kernel
theorem mi_340_113 : mI 340 113 = (3, 0, 6, 1, 0) := by decide +kernel
theorem mi_340_115 : mI 340 115 = (3, 0, 5, 1, 0) := by decide +kernel
theorem mi_340_117 : mI 340 117 = (15, 30, 3, 147, 0) := by decide +kernel
theorem mi_340_120 : mI 340 120 = (5, 0, 0, 0, 0) := by decide +kernel
theorem mi_340_121 : mI 340 121 = (17, 1241, 77, 11, 35) := by decide +kernel
theorem mi_340_124 : mI 340 124 = (3, 0, 6, 1, 0) := by decide +kernel
theorem mi_340_126 : mI 340 126 = (5, 0, 0, 0, 0) := by decide +kernel
theorem mi_340_127 : mI 340 127 = (17, 1240, 73, 11, 34) := by decide +kernel
theorem mi_340_130 : mI 340 130 = (1, 60, 1, 0, 0) := by decide +kernel
theorem mi_340_132 : mI 340 132 = (3, 0, 1, 0, 0) := by decide +kernel
theorem mi_340_133 : mI 340 133 = (10, 0, 2, 0, 0) := by decide +kernel
theorem mi_340_134 : mI 340 134 = (3, 0, 2, 0, 0) := by decide +kernel
theorem mi_340_135 : mI 340 135 = (10, 0, 0, 0, 0) := by decide +kernel
theorem mi_340_136 : mI 340 136 = (3, 0, 6, 1, 0) := by decide +kernel
theorem mi_340_138 : mI 340 138 = (10, 0, 0, 0, 0) := by decide +kernel
theorem mi_340_139 : mI 340 139 = (19, 0, 2, 0, 0) := by decide +kernel
theorem mi_340_140 : mI 340 140 = (20, 0, 2, 0, 0) := by decide +kernel
theorem mi_340_141 : mI 340 141 = (9, 1, 6, 0, 0) := by decide +kernel
theorem mi_340_144 : mI 340 144 = (16, (-31), 0, 113, 0) := by decide +kernel
theorem mi_340_147 : mI 340 147 = (1, 0, 0, 0, 0) := by decide +kernel
theorem mi_340_148 : mI 340 148 = (6, 0, 6, 1, 0) := by decide +kernel
theorem mi_340_150 : mI 340 150 = (3, 0, 6, 1, 0) := by decide +kernel
theorem mi_340_152 : mI 340 152 = (3, 0, 5, 1, 0) := by decide +kernel
theorem mi_340_154 : mI 340 154 = (15, 31, 3, 185, 0) := by decide +kernel
theorem mi_340_157 : mI 340 157 = (5, 0, 0, 0, 0) := by decide +kernel
theorem mi_340_158 : mI 340 158 = (17, 1240, 73, 11, 34) := by decide +kernel
theorem mi_340_161 : mI 340 161 = (1, 60, 1, 0, 0) := by decide +kernel
theorem mi_340_163 : mI 340 163 = (3, 0, 3, 0, 0) := by decide +kernel
theorem mi_340_164 : mI 340 164 = (10, 0, 2, 0, 0) := by decide +kernel
theorem mi_340_165 : mI 340 165 = (3, 0, 4, 1, 0) := by decide +kernel
theorem mi_340_167 : mI 340 167 = (10, 0, 0, 0, 0) := by decide +kernel
theorem mi_340_168 : mI 340 168 = (3, 0, 6, 1, 0) := by decide +kernel
theorem mi_340_170 : mI 340 170 = (10, 0, 0, 0, 0) := by decide +kernel
theorem mi_340_171 : mI 340 171 = (5, 0, 0, 0, 0) := by decide +kernel
theorem mi_340_172 : mI 340 172 = (17, 1241, 77, 11, 35) := by decide +kernel
theorem mi_340_175 : mI 340 175 = (3, 0, 6, 1, 0) := by decide +kernel
theorem mi_340_177 : mI 340 177 = (19, 0, 2, 0, 0) := by decide +kernel
theorem mi_340_178 : mI 340 178 = (20, 0, 2, 0, 0) := by decide +kernel
theorem mi_340_179 : mI 340 179 = (9, 1, 6, 0, 0) := by decide +kernel
theorem mi_340_182 : mI 340 182 = (16, (-32), 0, 150, 0) := by decide +kernel
theorem mi_340_185 : mI 340 185 = (1, 0, 0, 0, 0) := by decide +kernel
theorem mi_340_186 : mI 340 186 = (27, 0, 0, 0, 0) := by decide +kernel
section REL
variable {l : Launch} {D : va_G} {tys : List (ClassId × FieldType)} {A : Nat → Prop} {ad : Nat → Nat} {ws : va_W} {k d : Nat} {post : Option Value → va_W → Prop} {pc : Nat} {lv : List (Nat × Value)} {st : List Value} {a : Int} {x y z : Nat}
theorem o_c {c ci nf : Nat} {segs : List SG} (hG : GOK ad tys GG ws) (hg : GG[c]? = some ((0, ci, nf), segs)) : ∃ fs : List Value, ws[c]? = some (ad c, .inr (ci, fs)) ∧ fs.length = nf := by
  obtain ⟨e, a1, a2, a3⟩ := hG c _ hg
  obtain ⟨fs, rfl, hl⟩ := a2
  exact ⟨fs, a1, hl⟩
theorem V_getO {c ci nf i : Nat} {segs : List SG} {v : Value} (hi : mI k pc = (17, a, x, ci, i)) (hG : GOK ad tys GG ws) (hg : GG[c]? = some ((0, ci, nf), segs)) (hx : rd ws c i = some v) (kk : V l D tys A k d 0 0 post 0 0 (pc + 3) lv (v :: st) ws) : V l D tys A k d 0 0 post 0 0 pc lv (.ref (ad c) :: st) ws := by
  obtain ⟨fs, a1, hl⟩ := o_c hG hg
  rw [rd_at a1] at hx
  exact V_get hi a1 hx kk
theorem rrO {c ci nf i q : Nat} {segs : List SG} (hg : GG[c]? = some ((0, ci, nf), segs)) (hs : segAt segs i = some (2, (q : Int), (q : Int))) (hi2 : i < nf) (hG : GOK ad tys GG ws) : rd ws c i = some (.ref (ad q)) := by
  obtain ⟨e, a1, a2, a3⟩ := hG c _ hg
  obtain ⟨fs, rfl, hl⟩ := a2
  have hv : fs[i]? = some fs[i] := List.getElem?_eq_getElem (by omega)
  obtain ⟨sp, q1, q2⟩ := a3 i _ hv
  rw [hs] at q1
  cases q1
  have q2 : fs[i] = .ref (ad ((q : Int).toNat)) := q2
  rw [Int.toNat_natCast] at q2
  rw [rd_at a1]
  show fs[i]? = _
  rw [hv, q2]
theorem V_callO {c ci nf d' : Nat} {segs : List SG} {As : List Value} {post' : Option Value → va_W → Prop} (hi : mI k pc = (26, a, x, y, 0)) (hy : y < 352) (hk : mKind y = 0) (hci : mCi y = ci) (hcn : ci < 99) (hg : GG[c]? = some ((0, ci, nf), segs)) (hG : GOK ad tys GG ws) (hc : CT l D tys A y d' 0 0 (.ref (ad c) :: As) ws post') (hd : d' < d) (hn : As.length = mN y) (hst : (st.map fun v => v.category).sum ≤ 8) (kk : ∀ (r : Option Value) (ws' : va_W), post' r ws' → V l D tys A k d 0 0 post 0 0 (pc + 3) lv (r.toList ++ st) ws') : V l D tys A k d 0 0 post 0 0 pc lv (As.reverse ++ .ref (ad c) :: st) ws := by
  obtain ⟨fs, a1, hl⟩ := o_c hG hg
  obtain ⟨T, N, hcl⟩ := ci_at hy hk (by omega)
  rw [hci] at hcl
  exact V_virt hi hy hc hd hn a1 hcl hst ⟨Nat.le_refl _, Nat.le_refl _⟩ kk
theorem V_lenA {c ty n : Nat} {segs : List SG} (hi : mI k pc = (21, a, x, y, z)) (hG : GOK ad tys GG ws) (hg : GG[c]? = some ((1, ty, n), segs)) (kk : V l D tys A k d 0 0 post 0 0 (pc + 1) lv (.int (Int32.ofInt (n : Int)) :: st) ws) : V l D tys A k d 0 0 post 0 0 pc lv (.ref (ad c) :: st) ws := by
  obtain ⟨cA, f, h1, h2⟩ := ar_of hG hg
  exact V_alen hi h1 h2 kk
theorem at_ct {c n j : Nat} {segs : List SG} {v : Int32} (hG : GOK ad tys GG ws) (hg : GG[c]? = some ((1, 0, n), segs)) (hj : j < n) (hn : n ≤ 100000) (hx : rd ws c j = some (.int v)) : CT l D tys A 147 0 0 0 [.ref (ad c), .int (Int32.ofInt (j : Int))] ws (fun r w => w = ws ∧ r = some (.int v)) := by
  refine CT_of_V (by omega) (show (2 : Nat) ≤ mML 147 by decide +kernel) ?_
  refine V_iload (v := Int32.ofInt (j : Int)) mi_147_0 (List.Mem.tail _ (List.Mem.head _)) ?_
  have h1 : cdP 2 (Int32.ofInt (j : Int)) 0 ↔ cdZ 2 ((j : Int) - 0) := cdP_iff (x := 2) (a := (j : Int)) (b := 0) (by omega) (by omega) (by omega) (by omega)
  refine V_if mi_147_1 (fun h => absurd (show (j : Int) - 0 < 0 from h1.mp h) (by omega)) (fun _ => ?_)
  refine V_iload (v := Int32.ofInt (j : Int)) mi_147_4 (List.Mem.tail _ (List.Mem.head _)) ?_
  refine V_aload (v := ad c) mi_147_5 (List.Mem.head _) ?_
  refine V_lenA mi_147_6 hG hg ?_
  have h2 := cdP_iff (x := 3) (a := (j : Int)) (b := (n : Int)) (by omega) (by omega) (by omega) (by omega)
  refine V_icmp mi_147_7 (fun h => absurd (show 0 ≤ (j : Int) - n from h2.mp h) (by omega)) (fun _ => ?_)
  refine V_aload (v := ad c) mi_147_10 (List.Mem.head _) ?_
  refine V_iload (v := Int32.ofInt (j : Int)) mi_147_11 (List.Mem.tail _ (List.Mem.head _)) ?_
  refine V_aldX (j := j) mi_147_12 rfl hG hg hj hn hx ?_
  refine V_goto mi_147_13 ?_
  exact V_retI mi_147_17 (fun h => absurd h (by decide +kernel)) ⟨rfl, rfl⟩
theorem put_ct {c n j : Nat} {lo hi : Int} {segs : List SG} {v : Int32} (hG : GOK ad tys GG ws) (hg : GG[c]? = some ((1, 0, n), segs)) (hj : j < n) (hn : n ≤ 100000) (hs : segAt segs j = some (0, lo, hi)) (b1 : lo ≤ v.toInt) (b2 : v.toInt ≤ hi) : CT l D tys A 148 0 0 0 [.ref (ad c), .int (Int32.ofInt (j : Int)), .int v] ws (fun r w => r = none ∧ GOK ad tys GG w ∧ Upd1 ws w c j (.int v)) := by
  refine CT_of_V (by omega) (show (3 : Nat) ≤ mML 148 by decide +kernel) ?_
  refine V_iload (v := Int32.ofInt (j : Int)) mi_148_0 (List.Mem.tail _ (List.Mem.head _)) ?_
  have h1 : cdP 2 (Int32.ofInt (j : Int)) 0 ↔ cdZ 2 ((j : Int) - 0) := cdP_iff (x := 2) (a := (j : Int)) (b := 0) (by omega) (by omega) (by omega) (by omega)
  refine V_if mi_148_1 (fun h => absurd (show (j : Int) - 0 < 0 from h1.mp h) (by omega)) (fun _ => ?_)
  refine V_iload (v := Int32.ofInt (j : Int)) mi_148_4 (List.Mem.tail _ (List.Mem.head _)) ?_
  refine V_aload (v := ad c) mi_148_5 (List.Mem.head _) ?_
  refine V_lenA mi_148_6 hG hg ?_
  have h2 := cdP_iff (x := 3) (a := (j : Int)) (b := (n : Int)) (by omega) (by omega) (by omega) (by omega)
  refine V_icmp mi_148_7 (fun h => absurd (show 0 ≤ (j : Int) - n from h2.mp h) (by omega)) (fun _ => ?_)
  refine V_aload (v := ad c) mi_148_10 (List.Mem.head _) ?_
  refine V_iload (v := Int32.ofInt (j : Int)) mi_148_11 (List.Mem.tail _ (List.Mem.head _)) ?_
  refine V_iload (v := v) mi_148_12 (List.Mem.tail _ (List.Mem.tail _ (List.Mem.head _))) ?_
  refine V_astX (j := j) mi_148_13 rfl hG hg hj hn hs b1 b2 (fun w1 G1 U1 => ?_)
  exact V_retV mi_148_14 ⟨rfl, G1, U1⟩
theorem gr32 : ∃ g, GG[90]? = some ((0, 11, 36), g) ∧ segAt g 32 = some (2, ((107 : Nat) : Int), ((107 : Nat) : Int)) := ⟨_, rfl, by decide +kernel⟩
theorem gr33 : ∃ g, GG[90]? = some ((0, 11, 36), g) ∧ segAt g 33 = some (2, ((108 : Nat) : Int), ((108 : Nat) : Int)) := ⟨_, rfl, by decide +kernel⟩
theorem cmp_l {u v : Int32} : cdP 2 u v ↔ u.toInt < v.toInt := by
  have h := cdP_iff (x := 2) (a := u.toInt) (b := v.toInt) (Int32.le_toInt u) (by have := Int32.toInt_lt u; omega) (Int32.le_toInt v) (by have := Int32.toInt_lt v; omega)
  rw [Int32.ofInt_toInt, Int32.ofInt_toInt] at h
  rw [h]
  show u.toInt - v.toInt < 0 ↔ _
  omega
theorem cmp_le {u v : Int32} : cdP 5 u v ↔ u.toInt ≤ v.toInt := by
  have h := cdP_iff (x := 5) (a := u.toInt) (b := v.toInt) (Int32.le_toInt u) (by have := Int32.toInt_lt u; omega) (Int32.le_toInt v) (by have := Int32.toInt_lt v; omega)
  rw [Int32.ofInt_toInt, Int32.ofInt_toInt] at h
  rw [h]
  show u.toInt - v.toInt ≤ 0 ↔ _
  omega
theorem tIi (z : Int) (h1 : -2147483648 ≤ z) (h2 : z ≤ 2147483647) : (Int32.ofInt z).toInt = z := Int32.toInt_ofInt_of_le h1 (by omega)
theorem n8c {c j : Nat} (h : c ≠ 90) : ¬ (c = mnC ∧ spJ j = true) := fun q => h q.1
theorem el_ (v : Int32) : v.toInt64 = Int64.ofInt v.toInt := by
  have b1 := Int32.le_toInt v
  have b2 := Int32.toInt_lt v
  have q := Int32.toInt64_ofInt (n := v.toInt) (by show -2147483648 ≤ _; omega) (by show _ ≤ 2147483647; omega)
  rw [Int32.ofInt_toInt] at q
  exact q
end REL
end
section
section PAS
variable {l : Launch} {D : va_G} {tys : List (ClassId × FieldType)} {A : Nat → Prop} {ad : Nat → Nat} {ws : va_W} {k d : Nat} {post : Option Value → va_W → Prop} {pc : Nat} {lv : List (Nat × Value)} {st : List Value} {a : Int} {x y z : Nat}
theorem V_lastI {c n j : Nat} {segs : List SG} {ix : Int32} {q : Int64} (hi : mI k pc = (20, a, 2, y, z)) (hix : ix = Int32.ofInt (j : Int)) (hG : GOK ad tys GG ws) (hg : GG[c]? = some ((2, 3, n), segs)) (hj : j < n) (hn : n ≤ 100000) (hs : segAt segs j = some (1, -9223372036854775808, 9223372036854775807)) (kk : ∀ w : va_W, GOK ad tys GG w → Upd1 ws w c j (.long q) → V l D tys A k d 0 0 post 0 0 (pc + 1) lv st w) : V l D tys A k d 0 0 post 0 0 pc lv (.long q :: .int ix :: .ref (ad c) :: st) ws := by
  subst hix
  obtain ⟨e, b1, b2, b3⟩ := hG c _ hg
  obtain ⟨cA, f, rfl, c1⟩ := b2
  refine V_last hi b1 c1 (ix_in hj hn).1 ?_
  rw [(ix_in hj hn).2]
  have q1 := Int64.le_toInt q
  have q2 := Int64.toInt_lt q
  have hu := GOK_upd (j := j) (v := .long q) (e' := .inl (cA, n, .inr (.inl (vp_updL f j q)))) hG hg b1 ⟨cA, _, rfl, c1⟩ (fun j' => by
    show (if j' < n then some (Value.long (vp_updL f j q j')) else none) = if j' = j then some (Value.long q) else if j' < n then some (Value.long (f j')) else none
    unfold vp_updL
    by_cases h : j' = j
    · subst h; simp [hj]
    · simp [h]) hs ⟨q.toInt, by rw [Int64.ofInt_toInt], by show (-9223372036854775808 : Int) ≤ q.toInt; omega, by show q.toInt ≤ (9223372036854775807 : Int); omega⟩
  exact kk _ hu.1 hu.2
theorem gl109 : ∃ s, GG[109]? = some ((2, 3, 240), s) ∧ ∀ j, j < 240 → segAt s j = some (1, -9223372036854775808, 9223372036854775807) := by
  refine ⟨_, rfl, fun j hj => ?_⟩
  show (bif Nat.blt j 240 then some _ else _) = _
  rw [show Nat.blt j 240 = true from Nat.blt_eq.mpr hj]
  rfl
theorem gl110 : ∃ s, GG[110]? = some ((2, 3, 60), s) ∧ ∀ j, j < 60 → segAt s j = some (1, -9223372036854775808, 9223372036854775807) := by
  refine ⟨_, rfl, fun j hj => ?_⟩
  show (bif Nat.blt j 60 then some _ else _) = _
  rw [show Nat.blt j 60 = true from Nat.blt_eq.mpr hj]
  rfl
theorem gr34 : ∃ g, GG[90]? = some ((0, 11, 36), g) ∧ segAt g 34 = some (2, ((109 : Nat) : Int), ((109 : Nat) : Int)) := ⟨_, rfl, by decide +kernel⟩
theorem gr35 : ∃ g, GG[90]? = some ((0, 11, 36), g) ∧ segAt g 35 = some (2, ((110 : Nat) : Int), ((110 : Nat) : Int)) := ⟨_, rfl, by decide +kernel⟩
theorem ladd_ {u v : Int} : lbF 0 (Int64.ofInt u) (Int64.ofInt v) = Int64.ofInt (u + v) := by
  show Int64.ofInt u + Int64.ofInt v = _
  rw [← Int64.ofInt_add]
theorem l0 {v : Int32} (h : cdP 2 v 0) : v.toInt < 0 := cmp_l.mp h
end PAS
section PAT
variable {l : Launch} {D : va_G} {tys : List (ClassId × FieldType)} {A : Nat → Prop} {ad : Nat → Nat} {ws : va_W}
end PAT
section PAU
variable {l : Launch} {D : va_G} {tys : List (ClassId × FieldType)} {A : Nat → Prop} {ad : Nat → Nat} {ws : va_W}
end PAU
end
section
theorem mi_1_0 : mI 1 0 = (5, 0, 0, 0, 0) := by decide +kernel
theorem mi_1_1 : mI 1 1 = (17, 298, 20, 10, 1) := by decide +kernel
theorem mi_1_4 : mI 1 4 = (17, 41, 84, 9, 1) := by decide +kernel
theorem mi_1_7 : mI 1 7 = (1, 20, 1, 0, 0) := by decide +kernel
theorem mi_1_9 : mI 1 9 = (10, 0, 0, 0, 0) := by decide +kernel
theorem mi_1_10 : mI 1 10 = (1, 1400, 2, 0, 0) := by decide +kernel
theorem mi_1_13 : mI 1 13 = (15, 5, 5, 18, 0) := by decide +kernel
theorem mi_1_16 : mI 1 16 = (1, (-1), 0, 0, 0) := by decide +kernel
theorem mi_1_17 : mI 1 17 = (27, 0, 0, 0, 0) := by decide +kernel
theorem mi_1_18 : mI 1 18 = (5, 0, 0, 0, 0) := by decide +kernel
theorem mi_1_19 : mI 1 19 = (17, 298, 20, 10, 1) := by decide +kernel
theorem mi_1_22 : mI 1 22 = (3, 0, 1, 0, 0) := by decide +kernel
theorem mi_1_23 : mI 1 23 = (26, 341, 90, 185, 0) := by decide +kernel
theorem mi_1_26 : mI 1 26 = (5, 0, 0, 0, 0) := by decide +kernel
theorem mi_1_27 : mI 1 27 = (17, 298, 20, 10, 1) := by decide +kernel
theorem mi_1_30 : mI 1 30 = (3, 0, 2, 0, 0) := by decide +kernel
theorem mi_1_31 : mI 1 31 = (26, 341, 90, 185, 0) := by decide +kernel
theorem mi_1_34 : mI 1 34 = (5, 0, 0, 0, 0) := by decide +kernel
theorem mi_1_35 : mI 1 35 = (17, 298, 20, 10, 1) := by decide +kernel
theorem mi_1_38 : mI 1 38 = (3, 0, 3, 0, 0) := by decide +kernel
theorem mi_1_39 : mI 1 39 = (26, 341, 90, 185, 0) := by decide +kernel
theorem mi_1_42 : mI 1 42 = (5, 0, 0, 0, 0) := by decide +kernel
theorem mi_1_43 : mI 1 43 = (17, 298, 20, 10, 1) := by decide +kernel
theorem mi_1_46 : mI 1 46 = (3, 0, 4, 1, 0) := by decide +kernel
theorem mi_1_48 : mI 1 48 = (26, 341, 90, 185, 0) := by decide +kernel
theorem mi_1_51 : mI 1 51 = (5, 0, 0, 0, 0) := by decide +kernel
theorem mi_1_52 : mI 1 52 = (17, 298, 20, 10, 1) := by decide +kernel
theorem mi_1_55 : mI 1 55 = (3, 0, 5, 1, 0) := by decide +kernel
theorem mi_1_57 : mI 1 57 = (26, 341, 90, 185, 0) := by decide +kernel
theorem mi_1_60 : mI 1 60 = (5, 0, 0, 0, 0) := by decide +kernel
theorem mi_1_61 : mI 1 61 = (17, 298, 20, 10, 1) := by decide +kernel
theorem mi_1_64 : mI 1 64 = (17, 41, 84, 9, 1) := by decide +kernel
theorem mi_1_67 : mI 1 67 = (27, 0, 0, 0, 0) := by decide +kernel
theorem mi_2_0 : mI 2 0 = (3, 0, 1, 0, 0) := by decide +kernel
theorem mi_2_1 : mI 2 1 = (14, 14, 2, 15, 0) := by decide +kernel
theorem mi_2_4 : mI 2 4 = (3, 0, 1, 0, 0) := by decide +kernel
theorem mi_2_5 : mI 2 5 = (5, 0, 0, 0, 0) := by decide +kernel
theorem mi_2_6 : mI 2 6 = (17, 298, 20, 10, 1) := by decide +kernel
theorem mi_2_9 : mI 2 9 = (17, 41, 84, 9, 1) := by decide +kernel
theorem mi_2_12 : mI 2 12 = (15, 5, 5, 17, 0) := by decide +kernel
theorem mi_2_15 : mI 2 15 = (1, (-1), 0, 0, 0) := by decide +kernel
theorem mi_2_16 : mI 2 16 = (27, 0, 0, 0, 0) := by decide +kernel
theorem mi_2_17 : mI 2 17 = (5, 0, 0, 0, 0) := by decide +kernel
theorem mi_2_18 : mI 2 18 = (17, 298, 20, 10, 1) := by decide +kernel
theorem mi_2_21 : mI 2 21 = (3, 0, 1, 0, 0) := by decide +kernel
theorem mi_2_22 : mI 2 22 = (18, 41, 84, 9, 1) := by decide +kernel
theorem mi_2_25 : mI 2 25 = (3, 0, 1, 0, 0) := by decide +kernel
theorem mi_2_26 : mI 2 26 = (27, 0, 0, 0, 0) := by decide +kernel
theorem mi_3_0 : mI 3 0 = (5, 0, 0, 0, 0) := by decide +kernel
theorem mi_3_1 : mI 3 1 = (17, 297, 12, 10, 0) := by decide +kernel
theorem mi_3_4 : mI 3 4 = (5, 0, 0, 0, 0) := by decide +kernel
theorem mi_3_5 : mI 3 5 = (17, 300, 28, 10, 3) := by decide +kernel
theorem mi_3_8 : mI 3 8 = (26, 353, 94, 133, 0) := by decide +kernel
theorem mi_3_11 : mI 3 11 = (5, 0, 0, 0, 0) := by decide +kernel
theorem mi_3_12 : mI 3 12 = (17, 298, 20, 10, 1) := by decide +kernel
theorem mi_3_15 : mI 3 15 = (1, 0, 0, 0, 0) := by decide +kernel
theorem mi_3_16 : mI 3 16 = (18, 41, 84, 9, 1) := by decide +kernel
theorem mi_3_19 : mI 3 19 = (5, 0, 0, 0, 0) := by decide +kernel
theorem mi_3_20 : mI 3 20 = (17, 297, 12, 10, 0) := by decide +kernel
theorem mi_3_23 : mI 3 23 = (17, 67, 98, 5, 1) := by decide +kernel
theorem mi_3_26 : mI 3 26 = (14, 6, 0, 32, 0) := by decide +kernel
theorem mi_3_29 : mI 3 29 = (1, (-4), 1, 0, 0) := by decide +kernel
theorem mi_3_31 : mI 3 31 = (27, 0, 0, 0, 0) := by decide +kernel
theorem mi_3_32 : mI 3 32 = (5, 0, 0, 0, 0) := by decide +kernel
theorem mi_3_33 : mI 3 33 = (17, 299, 24, 10, 2) := by decide +kernel
theorem mi_3_36 : mI 3 36 = (5, 0, 0, 0, 0) := by decide +kernel
theorem mi_3_37 : mI 3 37 = (17, 300, 28, 10, 3) := by decide +kernel
theorem mi_3_40 : mI 3 40 = (26, 521, 101, 100, 0) := by decide +kernel
theorem mi_3_43 : mI 3 43 = (5, 0, 0, 0, 0) := by decide +kernel
theorem mi_3_44 : mI 3 44 = (26, 528, 104, 73, 0) := by decide +kernel
theorem mi_3_47 : mI 3 47 = (5, 0, 0, 0, 0) := by decide +kernel
theorem mi_3_48 : mI 3 48 = (17, 299, 24, 10, 2) := by decide +kernel
theorem mi_3_51 : mI 3 51 = (17, 85, 107, 2, 0) := by decide +kernel
theorem mi_3_54 : mI 3 54 = (27, 0, 0, 0, 0) := by decide +kernel
theorem mi_185_0 : mI 185 0 = (1, 24, 1, 0, 0) := by decide +kernel
theorem mi_185_2 : mI 185 2 = (6, 0, 2, 0, 0) := by decide +kernel
theorem mi_185_3 : mI 185 3 = (3, 0, 2, 0, 0) := by decide +kernel
theorem mi_185_4 : mI 185 4 = (14, 51, 2, 55, 0) := by decide +kernel
theorem mi_185_7 : mI 185 7 = (5, 0, 0, 0, 0) := by decide +kernel
theorem mi_185_8 : mI 185 8 = (17, 42, 15, 9, 1) := by decide +kernel
theorem mi_185_11 : mI 185 11 = (14, 38, 2, 49, 0) := by decide +kernel
theorem mi_185_14 : mI 185 14 = (5, 0, 0, 0, 0) := by decide +kernel
theorem mi_185_15 : mI 185 15 = (17, 42, 15, 9, 1) := by decide +kernel
theorem mi_185_18 : mI 185 18 = (5, 0, 0, 0, 0) := by decide +kernel
theorem mi_185_19 : mI 185 19 = (17, 40, 9, 9, 0) := by decide +kernel
theorem mi_185_22 : mI 185 22 = (21, 0, 0, 0, 0) := by decide +kernel
theorem mi_185_23 : mI 185 23 = (15, 26, 3, 49, 0) := by decide +kernel
theorem mi_185_26 : mI 185 26 = (5, 0, 0, 0, 0) := by decide +kernel
theorem mi_185_27 : mI 185 27 = (17, 40, 9, 9, 0) := by decide +kernel
theorem mi_185_30 : mI 185 30 = (5, 0, 0, 0, 0) := by decide +kernel
theorem mi_185_31 : mI 185 31 = (17, 42, 15, 9, 1) := by decide +kernel
theorem mi_185_34 : mI 185 34 = (3, 0, 1, 0, 0) := by decide +kernel
theorem mi_185_35 : mI 185 35 = (3, 0, 2, 0, 0) := by decide +kernel
theorem mi_185_36 : mI 185 36 = (10, 0, 10, 0, 0) := by decide +kernel
theorem mi_185_37 : mI 185 37 = (12, 0, 3, 0, 0) := by decide +kernel
theorem mi_185_38 : mI 185 38 = (20, 0, 1, 0, 0) := by decide +kernel
theorem mi_185_39 : mI 185 39 = (5, 0, 0, 0, 0) := by decide +kernel
theorem mi_185_40 : mI 185 40 = (22, 0, 0, 0, 0) := by decide +kernel
theorem mi_185_41 : mI 185 41 = (17, 42, 15, 9, 1) := by decide +kernel
theorem mi_185_44 : mI 185 44 = (1, 1, 0, 0, 0) := by decide +kernel
theorem mi_185_45 : mI 185 45 = (10, 0, 0, 0, 0) := by decide +kernel
theorem mi_185_46 : mI 185 46 = (18, 42, 15, 9, 1) := by decide +kernel
theorem mi_185_49 : mI 185 49 = (9, (-8), 2, 0, 0) := by decide +kernel
theorem mi_185_52 : mI 185 52 = (16, (-49), 0, 3, 0) := by decide +kernel
theorem mi_185_55 : mI 185 55 = (27, 0, 2, 0, 0) := by decide +kernel
theorem mi_210_0 : mI 210 0 = (5, 0, 0, 0, 0) := by decide +kernel
theorem mi_210_1 : mI 210 1 = (17, 1211, 97, 11, 5) := by decide +kernel
theorem mi_210_4 : mI 210 4 = (1, 20, 1, 0, 0) := by decide +kernel
theorem mi_210_6 : mI 210 6 = (10, 0, 0, 0, 0) := by decide +kernel
theorem mi_210_7 : mI 210 7 = (1, 1400, 2, 0, 0) := by decide +kernel
theorem mi_210_10 : mI 210 10 = (15, 5, 5, 15, 0) := by decide +kernel
theorem mi_210_13 : mI 210 13 = (1, (-1), 0, 0, 0) := by decide +kernel
theorem mi_210_14 : mI 210 14 = (27, 0, 0, 0, 0) := by decide +kernel
theorem mi_210_15 : mI 210 15 = (5, 0, 0, 0, 0) := by decide +kernel
theorem mi_210_16 : mI 210 16 = (17, 1212, 24, 11, 6) := by decide +kernel
theorem mi_210_19 : mI 210 19 = (1, 0, 0, 0, 0) := by decide +kernel
theorem mi_210_20 : mI 210 20 = (3, 0, 1, 0, 0) := by decide +kernel
theorem mi_210_21 : mI 210 21 = (20, 0, 0, 0, 0) := by decide +kernel
theorem mi_210_22 : mI 210 22 = (5, 0, 0, 0, 0) := by decide +kernel
theorem mi_210_23 : mI 210 23 = (17, 1212, 24, 11, 6) := by decide +kernel
theorem mi_210_26 : mI 210 26 = (1, 1, 0, 0, 0) := by decide +kernel
theorem mi_210_27 : mI 210 27 = (3, 0, 2, 0, 0) := by decide +kernel
theorem mi_210_28 : mI 210 28 = (20, 0, 0, 0, 0) := by decide +kernel
theorem mi_210_29 : mI 210 29 = (5, 0, 0, 0, 0) := by decide +kernel
theorem mi_210_30 : mI 210 30 = (17, 1212, 24, 11, 6) := by decide +kernel
theorem mi_210_33 : mI 210 33 = (1, 2, 0, 0, 0) := by decide +kernel
theorem mi_210_34 : mI 210 34 = (3, 0, 3, 0, 0) := by decide +kernel
theorem mi_210_35 : mI 210 35 = (20, 0, 0, 0, 0) := by decide +kernel
theorem mi_210_36 : mI 210 36 = (5, 0, 0, 0, 0) := by decide +kernel
theorem mi_210_37 : mI 210 37 = (17, 1212, 24, 11, 6) := by decide +kernel
theorem mi_210_40 : mI 210 40 = (1, 3, 0, 0, 0) := by decide +kernel
theorem mi_210_41 : mI 210 41 = (3, 0, 4, 1, 0) := by decide +kernel
theorem mi_210_43 : mI 210 43 = (20, 0, 0, 0, 0) := by decide +kernel
theorem mi_210_44 : mI 210 44 = (5, 0, 0, 0, 0) := by decide +kernel
theorem mi_210_45 : mI 210 45 = (17, 1212, 24, 11, 6) := by decide +kernel
theorem mi_210_48 : mI 210 48 = (1, 4, 0, 0, 0) := by decide +kernel
theorem mi_210_49 : mI 210 49 = (3, 0, 5, 1, 0) := by decide +kernel
theorem mi_210_51 : mI 210 51 = (20, 0, 0, 0, 0) := by decide +kernel
theorem mi_210_52 : mI 210 52 = (1, 0, 0, 0, 0) := by decide +kernel
theorem mi_210_53 : mI 210 53 = (6, 0, 6, 1, 0) := by decide +kernel
theorem mi_210_55 : mI 210 55 = (3, 0, 6, 1, 0) := by decide +kernel
theorem mi_210_57 : mI 210 57 = (1, 20, 1, 0, 0) := by decide +kernel
theorem mi_210_59 : mI 210 59 = (15, 42, 3, 101, 0) := by decide +kernel
theorem mi_210_62 : mI 210 62 = (5, 0, 0, 0, 0) := by decide +kernel
theorem mi_210_63 : mI 210 63 = (17, 1210, 20, 11, 4) := by decide +kernel
theorem mi_210_66 : mI 210 66 = (5, 0, 0, 0, 0) := by decide +kernel
theorem mi_210_67 : mI 210 67 = (17, 1211, 97, 11, 5) := by decide +kernel
theorem mi_210_70 : mI 210 70 = (3, 0, 6, 1, 0) := by decide +kernel
theorem mi_210_72 : mI 210 72 = (10, 0, 0, 0, 0) := by decide +kernel
theorem mi_210_73 : mI 210 73 = (5, 0, 0, 0, 0) := by decide +kernel
theorem mi_210_74 : mI 210 74 = (17, 1212, 24, 11, 6) := by decide +kernel
theorem mi_210_77 : mI 210 77 = (3, 0, 6, 1, 0) := by decide +kernel
theorem mi_210_79 : mI 210 79 = (1, 4, 0, 0, 0) := by decide +kernel
theorem mi_210_80 : mI 210 80 = (10, 0, 3, 0, 0) := by decide +kernel
theorem mi_210_81 : mI 210 81 = (19, 0, 0, 0, 0) := by decide +kernel
theorem mi_210_82 : mI 210 82 = (1, 24, 1, 0, 0) := by decide +kernel
theorem mi_210_84 : mI 210 84 = (1, 8, 1, 0, 0) := by decide +kernel
theorem mi_210_86 : mI 210 86 = (3, 0, 6, 1, 0) := by decide +kernel
theorem mi_210_88 : mI 210 88 = (1, 4, 0, 0, 0) := by decide +kernel
theorem mi_210_89 : mI 210 89 = (10, 0, 4, 0, 0) := by decide +kernel
theorem mi_210_90 : mI 210 90 = (10, 0, 2, 0, 0) := by decide +kernel
theorem mi_210_91 : mI 210 91 = (10, 0, 1, 0, 0) := by decide +kernel
theorem mi_210_92 : mI 210 92 = (10, 0, 9, 0, 0) := by decide +kernel
theorem mi_210_93 : mI 210 93 = (12, 0, 3, 0, 0) := by decide +kernel
theorem mi_210_94 : mI 210 94 = (20, 0, 1, 0, 0) := by decide +kernel
theorem mi_210_95 : mI 210 95 = (9, 1, 6, 0, 0) := by decide +kernel
theorem mi_210_98 : mI 210 98 = (16, (-43), 0, 55, 0) := by decide +kernel
theorem mi_210_101 : mI 210 101 = (5, 0, 0, 0, 0) := by decide +kernel
theorem mi_210_102 : mI 210 102 = (22, 0, 0, 0, 0) := by decide +kernel
theorem mi_210_103 : mI 210 103 = (17, 1211, 97, 11, 5) := by decide +kernel
theorem mi_210_106 : mI 210 106 = (1, 20, 1, 0, 0) := by decide +kernel
theorem mi_210_108 : mI 210 108 = (10, 0, 0, 0, 0) := by decide +kernel
theorem mi_210_109 : mI 210 109 = (18, 1211, 97, 11, 5) := by decide +kernel
theorem mi_210_112 : mI 210 112 = (5, 0, 0, 0, 0) := by decide +kernel
theorem mi_210_113 : mI 210 113 = (17, 1211, 97, 11, 5) := by decide +kernel
theorem mi_210_116 : mI 210 116 = (27, 0, 0, 0, 0) := by decide +kernel
theorem mi_211_0 : mI 211 0 = (3, 0, 1, 0, 0) := by decide +kernel
theorem mi_211_1 : mI 211 1 = (12, 0, 1, 0, 0) := by decide +kernel
theorem mi_211_2 : mI 211 2 = (2, 0, 0, 0, 0) := by decide +kernel
theorem mi_211_3 : mI 211 3 = (5, 0, 0, 0, 0) := by decide +kernel
theorem mi_211_4 : mI 211 4 = (17, 1211, 97, 11, 5) := by decide +kernel
theorem mi_211_7 : mI 211 7 = (12, 0, 1, 0, 0) := by decide +kernel
theorem mi_211_8 : mI 211 8 = (26, 1321, 85, 193, 1) := by decide +kernel
theorem mi_211_11 : mI 211 11 = (14, 5, 1, 16, 0) := by decide +kernel
theorem mi_211_14 : mI 211 14 = (1, (-1), 0, 0, 0) := by decide +kernel
theorem mi_211_15 : mI 211 15 = (27, 0, 0, 0, 0) := by decide +kernel
theorem mi_211_16 : mI 211 16 = (5, 0, 0, 0, 0) := by decide +kernel
theorem mi_211_17 : mI 211 17 = (3, 0, 1, 0, 0) := by decide +kernel
theorem mi_211_18 : mI 211 18 = (18, 1211, 97, 11, 5) := by decide +kernel
theorem mi_211_21 : mI 211 21 = (3, 0, 1, 0, 0) := by decide +kernel
theorem mi_211_22 : mI 211 22 = (27, 0, 0, 0, 0) := by decide +kernel
section TAP
variable {l : Launch} {D : va_G} {tys : List (ClassId × FieldType)} {A : Nat → Prop} {ad : Nat → Nat} {ws : va_W} {k d : Nat} {post : Option Value → va_W → Prop} {pc : Nat} {lv : List (Nat × Value)} {st : List Value} {a : Int} {x y z : Nat}
theorem V_putO {c ci nf i : Nat} {segs : List SG} {lo hi : Int} {v : Int32} (hi0 : mI k pc = (18, a, x, ci, i)) (hG : GOK ad tys GG ws) (hg : GG[c]? = some ((0, ci, nf), segs)) (hs : segAt segs i = some (0, lo, hi)) (hn2 : i < nf) (hty : clTy ci i = .int) (hn : nfin ci i = true) (h1 : lo ≤ v.toInt) (h2 : v.toInt ≤ hi) (kk : ∀ w : va_W, GOK ad tys GG w → Upd1 ws w c i (.int v) → V l D tys A k d 0 0 post 0 0 (pc + 3) lv st w) : V l D tys A k d 0 0 post 0 0 pc lv (.int v :: .ref (ad c) :: st) ws := by
  obtain ⟨e, a1, a2, a3⟩ := hG c _ hg
  obtain ⟨fs, rfl, hl⟩ := a2
  refine V_put hi0 a1 (by omega) (fun C T N hc => ?_) (by rw [hty]; rfl) (by rw [hty]; rfl) ?_
  · unfold nfin at hn
    rw [hc] at hn
    simpa using hn
  · obtain ⟨u1, u2⟩ := GOK_upd (e' := .inr (ci, fs.set i (.int v))) hG hg a1 ⟨_, rfl, by rw [List.length_set]; exact hl⟩ (rdE_obj (by omega) _) hs ⟨v.toInt, by rw [Int32.ofInt_toInt], h1, h2⟩
    exact kk _ u1 u2
theorem gx2 : ∃ s, GG[2]? = some ((0, 9, 6), s) ∧ segAt s 1 = some (0, 0, 1400) := ⟨_, rfl, by decide +kernel⟩
theorem gx0t : ∃ s, GG[0]? = some ((0, 10, 13), s) ∧ segAt s 1 = some (2, ((2 : Nat) : Int), ((2 : Nat) : Int)) := ⟨_, rfl, by decide +kernel⟩
noncomputable def edV (z : Int) (n : Int32) : Int32 := if 0 ≤ n.toInt ∧ n.toInt ≤ z then n else Int32.ofInt (-1)
noncomputable def edT (z : Int) (n : Int32) : Int := if 0 ≤ n.toInt ∧ n.toInt ≤ z then n.toInt else z
theorem endx_ct (hG : GOK ad tys GG ws) (n : Int32) {z : Int} (hz : rd ws 2 1 = some (.int (Int32.ofInt z))) (z0 : 0 ≤ z) (z1 : z ≤ 1400) : CT l D tys A 2 0 0 0 [.ref (ad 0), .int n] ws (fun r w => r = some (.int (edV z n)) ∧ GOK ad tys GG w ∧ FRm [2] ws w ∧ rd w 2 1 = some (.int (Int32.ofInt (edT z n)))) := by
  refine CT_of_V (by omega) (show (2 : Nat) ≤ mML 2 by decide +kernel) ?_
  obtain ⟨s0, e0, t1⟩ := gx0t
  obtain ⟨s2, e2, t2⟩ := gx2
  have no : ∀ lv : List (Nat × Value), ¬ (0 ≤ n.toInt ∧ n.toInt ≤ z) → V l D tys A 2 0 0 0 (fun r w => r = some (.int (edV z n)) ∧ GOK ad tys GG w ∧ FRm [2] ws w ∧ rd w 2 1 = some (.int (Int32.ofInt (edT z n)))) 0 0 15 lv [] ws := fun lv h => V_ipush mi_2_15 (V_retI mi_2_16 (fun h => absurd h (by decide +kernel)) ⟨by unfold edV; rw [if_neg h], hG, FRm_rf, by unfold edT; rw [if_neg h]; exact hz⟩)
  have lvs : lv_args 0 [Value.ref (ad 0), .int n] = [(0, .ref (ad 0)), (1, .int n)] := rfl
  rw [lvs]
  refine V_iload (v := n) mi_2_0 (by simp) ?_
  refine V_if mi_2_1 (fun h => no _ (fun q => by have := cmp_l.mp h; have e : (0 : Int32).toInt = 0 := rfl; omega)) (fun h1 => ?_)
  have h1 : 0 ≤ n.toInt := by
    rcases Int.lt_or_le n.toInt 0 with q | q
    · exact absurd (cmp_l.mpr (show n.toInt < (0 : Int32).toInt from q)) h1
    · exact q
  refine V_iload (v := n) mi_2_4 (by simp) ?_
  refine V_aload (v := ad 0) mi_2_5 (by simp) ?_
  refine V_getO mi_2_6 hG e0 (rrO e0 t1 (by omega) hG) ?_
  refine V_getO mi_2_9 hG e2 hz ?_
  have ez : (Int32.ofInt z).toInt = z := tIi z (by omega) (by omega)
  refine V_icmp mi_2_12 (fun h2 => ?_) (fun h2 => no _ (fun q => h2 (cmp_le.mpr (by omega))))
  have h2 : n.toInt ≤ z := by have := cmp_le.mp h2; omega
  refine V_aload (v := ad 0) mi_2_17 (by simp) ?_
  refine V_getO mi_2_18 hG e0 (rrO e0 t1 (by omega) hG) ?_
  refine V_iload (v := n) mi_2_21 (by simp) ?_
  refine V_putO mi_2_22 hG e2 t2 (by omega) rfl (by decide +kernel) h1 (by omega) (fun w1 G1 U1 => ?_)
  refine V_iload (v := n) mi_2_25 (by simp) ?_
  exact V_retI mi_2_26 (fun h => absurd h (by decide +kernel)) ⟨by unfold edV; rw [if_pos ⟨h1, h2⟩], G1, FRm_upd FRm_rf U1 (by simp) (n8c (by omega)), by unfold edT; rw [if_pos ⟨h1, h2⟩, Int32.ofInt_toInt]; exact upd_eq U1⟩
end TAP
end
