theorem mi_61_0 : mI 61 0 = (5, 0, 0, 0, 0) := by decide +kernel
theorem mi_61_1 : mI 61 1 = (17, 299, 24, 10, 2) := by decide +kernel
theorem mi_61_4 : mI 61 4 = (26, 817, 237, 101, 0) := by decide +kernel
theorem mi_61_7 : mI 61 7 = (14, 8, 0, 15, 0) := by decide +kernel
theorem mi_61_10 : mI 61 10 = (3, 0, 1, 0, 0) := by decide +kernel
theorem mi_61_11 : mI 61 11 = (1, (-1), 0, 0, 0) := by decide +kernel
theorem mi_61_12 : mI 61 12 = (15, 6, 3, 18, 0) := by decide +kernel
theorem mi_61_15 : mI 61 15 = (1, (-2), 1, 0, 0) := by decide +kernel
theorem mi_61_17 : mI 61 17 = (27, 0, 0, 0, 0) := by decide +kernel
theorem mi_61_18 : mI 61 18 = (5, 0, 0, 0, 0) := by decide +kernel
theorem mi_61_19 : mI 61 19 = (17, 307, 76, 10, 10) := by decide +kernel
theorem mi_61_22 : mI 61 22 = (5, 0, 0, 0, 0) := by decide +kernel
theorem mi_61_23 : mI 61 23 = (17, 299, 24, 10, 2) := by decide +kernel
theorem mi_61_26 : mI 61 26 = (26, 1088, 336, 129, 0) := by decide +kernel
theorem mi_61_29 : mI 61 29 = (6, 0, 2, 0, 0) := by decide +kernel
theorem mi_61_30 : mI 61 30 = (3, 0, 1, 0, 0) := by decide +kernel
theorem mi_61_31 : mI 61 31 = (1, (-1), 0, 0, 0) := by decide +kernel
theorem mi_61_32 : mI 61 32 = (15, 8, 0, 40, 0) := by decide +kernel
theorem mi_61_35 : mI 61 35 = (3, 0, 1, 0, 0) := by decide +kernel
theorem mi_61_36 : mI 61 36 = (3, 0, 2, 0, 0) := by decide +kernel
theorem mi_61_37 : mI 61 37 = (15, 14, 2, 51, 0) := by decide +kernel
theorem mi_61_40 : mI 61 40 = (3, 0, 1, 0, 0) := by decide +kernel
theorem mi_61_41 : mI 61 41 = (1, (-1), 0, 0, 0) := by decide +kernel
theorem mi_61_42 : mI 61 42 = (15, 7, 1, 49, 0) := by decide +kernel
theorem mi_61_45 : mI 61 45 = (3, 0, 2, 0, 0) := by decide +kernel
theorem mi_61_46 : mI 61 46 = (16, 4, 0, 50, 0) := by decide +kernel
theorem mi_61_49 : mI 61 49 = (1, (-1), 0, 0, 0) := by decide +kernel
theorem mi_61_50 : mI 61 50 = (27, 0, 0, 0, 0) := by decide +kernel
theorem mi_61_51 : mI 61 51 = (5, 0, 0, 0, 0) := by decide +kernel
theorem mi_61_52 : mI 61 52 = (17, 307, 76, 10, 10) := by decide +kernel
theorem mi_61_55 : mI 61 55 = (5, 0, 0, 0, 0) := by decide +kernel
theorem mi_61_56 : mI 61 56 = (17, 299, 24, 10, 2) := by decide +kernel
theorem mi_61_59 : mI 61 59 = (3, 0, 2, 0, 0) := by decide +kernel
theorem mi_61_60 : mI 61 60 = (26, 1093, 340, 130, 0) := by decide +kernel
theorem mi_61_63 : mI 61 63 = (5, 0, 0, 0, 0) := by decide +kernel
theorem mi_61_64 : mI 61 64 = (17, 307, 76, 10, 10) := by decide +kernel
theorem mi_61_67 : mI 61 67 = (17, 289, 344, 4, 0) := by decide +kernel
theorem mi_61_70 : mI 61 70 = (3, 0, 1, 0, 0) := by decide +kernel
theorem mi_61_71 : mI 61 71 = (26, 625, 133, 147, 1) := by decide +kernel
theorem mi_61_74 : mI 61 74 = (27, 0, 0, 0, 0) := by decide +kernel
theorem mi_125_0 : mI 125 0 = (5, 0, 1, 0, 0) := by decide +kernel
theorem mi_125_1 : mI 125 1 = (17, 86, 18, 2, 1) := by decide +kernel
theorem mi_125_4 : mI 125 4 = (3, 0, 2, 0, 0) := by decide +kernel
theorem mi_125_5 : mI 125 5 = (3, 0, 3, 0, 0) := by decide +kernel
theorem mi_125_6 : mI 125 6 = (10, 0, 1, 0, 0) := by decide +kernel
theorem mi_125_7 : mI 125 7 = (26, 1068, 24, 151, 1) := by decide +kernel
theorem mi_125_10 : mI 125 10 = (7, 0, 4, 1, 0) := by decide +kernel
theorem mi_125_12 : mI 125 12 = (1, 0, 0, 0, 0) := by decide +kernel
theorem mi_125_13 : mI 125 13 = (6, 0, 6, 1, 0) := by decide +kernel
theorem mi_125_15 : mI 125 15 = (3, 0, 6, 1, 0) := by decide +kernel
theorem mi_125_17 : mI 125 17 = (5, 0, 1, 0, 0) := by decide +kernel
theorem mi_125_18 : mI 125 18 = (17, 102, 30, 2, 4) := by decide +kernel
theorem mi_125_21 : mI 125 21 = (15, 71, 3, 92, 0) := by decide +kernel
theorem mi_125_24 : mI 125 24 = (3, 0, 2, 0, 0) := by decide +kernel
theorem mi_125_25 : mI 125 25 = (5, 0, 1, 0, 0) := by decide +kernel
theorem mi_125_26 : mI 125 26 = (3, 0, 6, 1, 0) := by decide +kernel
theorem mi_125_28 : mI 125 28 = (26, 1071, 33, 106, 0) := by decide +kernel
theorem mi_125_31 : mI 125 31 = (26, 1072, 37, 342, 1) := by decide +kernel
theorem mi_125_34 : mI 125 34 = (6, 0, 7, 1, 0) := by decide +kernel
theorem mi_125_36 : mI 125 36 = (5, 0, 0, 0, 0) := by decide +kernel
theorem mi_125_37 : mI 125 37 = (5, 0, 1, 0, 0) := by decide +kernel
theorem mi_125_38 : mI 125 38 = (3, 0, 6, 1, 0) := by decide +kernel
theorem mi_125_40 : mI 125 40 = (3, 0, 7, 1, 0) := by decide +kernel
theorem mi_125_42 : mI 125 42 = (3, 0, 3, 0, 0) := by decide +kernel
theorem mi_125_43 : mI 125 43 = (26, 1072, 37, 342, 1) := by decide +kernel
theorem mi_125_46 : mI 125 46 = (26, 1073, 43, 126, 0) := by decide +kernel
theorem mi_125_49 : mI 125 49 = (14, 37, 0, 86, 0) := by decide +kernel
theorem mi_125_52 : mI 125 52 = (3, 0, 7, 1, 0) := by decide +kernel
theorem mi_125_54 : mI 125 54 = (3, 0, 3, 0, 0) := by decide +kernel
theorem mi_125_55 : mI 125 55 = (15, 5, 4, 60, 0) := by decide +kernel
theorem mi_125_58 : mI 125 58 = (1, 0, 0, 0, 0) := by decide +kernel
theorem mi_125_59 : mI 125 59 = (27, 0, 0, 0, 0) := by decide +kernel
theorem mi_125_60 : mI 125 60 = (5, 0, 1, 0, 0) := by decide +kernel
theorem mi_125_61 : mI 125 61 = (3, 0, 6, 1, 0) := by decide +kernel
theorem mi_125_63 : mI 125 63 = (3, 0, 2, 0, 0) := by decide +kernel
theorem mi_125_64 : mI 125 64 = (26, 1078, 47, 127, 1) := by decide +kernel
theorem mi_125_67 : mI 125 67 = (14, 19, 1, 86, 0) := by decide +kernel
theorem mi_125_70 : mI 125 70 = (4, 0, 4, 1, 0) := by decide +kernel
theorem mi_125_72 : mI 125 72 = (5, 0, 1, 0, 0) := by decide +kernel
theorem mi_125_73 : mI 125 73 = (17, 86, 18, 2, 1) := by decide +kernel
theorem mi_125_76 : mI 125 76 = (3, 0, 2, 0, 0) := by decide +kernel
theorem mi_125_77 : mI 125 77 = (3, 0, 7, 1, 0) := by decide +kernel
theorem mi_125_79 : mI 125 79 = (10, 0, 1, 0, 0) := by decide +kernel
theorem mi_125_80 : mI 125 80 = (26, 1068, 24, 151, 1) := by decide +kernel
theorem mi_125_83 : mI 125 83 = (11, 0, 1, 0, 0) := by decide +kernel
theorem mi_125_84 : mI 125 84 = (7, 0, 4, 1, 0) := by decide +kernel
theorem mi_125_86 : mI 125 86 = (9, 1, 6, 0, 0) := by decide +kernel
theorem mi_125_89 : mI 125 89 = (16, (-74), 0, 15, 0) := by decide +kernel
theorem mi_125_92 : mI 125 92 = (4, 0, 4, 1, 0) := by decide +kernel
theorem mi_125_94 : mI 125 94 = (12, 0, 2, 0, 0) := by decide +kernel
theorem mi_125_95 : mI 125 95 = (27, 0, 0, 0, 0) := by decide +kernel
theorem mi_126_0 : mI 126 0 = (1, 0, 0, 0, 0) := by decide +kernel
theorem mi_126_1 : mI 126 1 = (6, 0, 4, 1, 0) := by decide +kernel
theorem mi_126_3 : mI 126 3 = (3, 0, 4, 1, 0) := by decide +kernel
theorem mi_126_5 : mI 126 5 = (3, 0, 3, 0, 0) := by decide +kernel
theorem mi_126_6 : mI 126 6 = (15, 30, 3, 36, 0) := by decide +kernel
theorem mi_126_9 : mI 126 9 = (5, 0, 1, 0, 0) := by decide +kernel
theorem mi_126_10 : mI 126 10 = (3, 0, 2, 0, 0) := by decide +kernel
theorem mi_126_11 : mI 126 11 = (3, 0, 4, 1, 0) := by decide +kernel
theorem mi_126_13 : mI 126 13 = (26, 1077, 50, 107, 0) := by decide +kernel
theorem mi_126_16 : mI 126 16 = (5, 0, 0, 0, 0) := by decide +kernel
theorem mi_126_17 : mI 126 17 = (17, 288, 9, 4, 0) := by decide +kernel
theorem mi_126_20 : mI 126 20 = (3, 0, 4, 1, 0) := by decide +kernel
theorem mi_126_22 : mI 126 22 = (26, 1051, 53, 147, 1) := by decide +kernel
theorem mi_126_25 : mI 126 25 = (15, 5, 0, 30, 0) := by decide +kernel
theorem mi_126_28 : mI 126 28 = (1, 0, 0, 0, 0) := by decide +kernel
theorem mi_126_29 : mI 126 29 = (27, 0, 0, 0, 0) := by decide +kernel
theorem mi_126_30 : mI 126 30 = (9, 1, 4, 0, 0) := by decide +kernel
theorem mi_126_33 : mI 126 33 = (16, (-30), 0, 3, 0) := by decide +kernel
theorem mi_126_36 : mI 126 36 = (1, 1, 0, 0, 0) := by decide +kernel
theorem mi_126_37 : mI 126 37 = (27, 0, 0, 0, 0) := by decide +kernel
theorem mi_127_0 : mI 127 0 = (3, 0, 2, 0, 0) := by decide +kernel
theorem mi_127_1 : mI 127 1 = (5, 0, 0, 0, 0) := by decide +kernel
theorem mi_127_2 : mI 127 2 = (3, 0, 1, 0, 0) := by decide +kernel
theorem mi_127_3 : mI 127 3 = (26, 1071, 33, 106, 0) := by decide +kernel
theorem mi_127_6 : mI 127 6 = (26, 1072, 37, 342, 1) := by decide +kernel
theorem mi_127_9 : mI 127 9 = (6, 0, 3, 0, 0) := by decide +kernel
theorem mi_127_10 : mI 127 10 = (1, 0, 0, 0, 0) := by decide +kernel
theorem mi_127_11 : mI 127 11 = (6, 0, 4, 1, 0) := by decide +kernel
theorem mi_127_13 : mI 127 13 = (3, 0, 4, 1, 0) := by decide +kernel
theorem mi_127_15 : mI 127 15 = (5, 0, 0, 0, 0) := by decide +kernel
theorem mi_127_16 : mI 127 16 = (17, 102, 30, 2, 4) := by decide +kernel
theorem mi_127_19 : mI 127 19 = (15, 71, 3, 90, 0) := by decide +kernel
theorem mi_127_22 : mI 127 22 = (3, 0, 2, 0, 0) := by decide +kernel
theorem mi_127_23 : mI 127 23 = (5, 0, 0, 0, 0) := by decide +kernel
theorem mi_127_24 : mI 127 24 = (3, 0, 4, 1, 0) := by decide +kernel
theorem mi_127_26 : mI 127 26 = (26, 1071, 33, 106, 0) := by decide +kernel
theorem mi_127_29 : mI 127 29 = (26, 1072, 37, 342, 1) := by decide +kernel
theorem mi_127_32 : mI 127 32 = (6, 0, 5, 1, 0) := by decide +kernel
theorem mi_127_34 : mI 127 34 = (3, 0, 5, 1, 0) := by decide +kernel
theorem mi_127_36 : mI 127 36 = (3, 0, 3, 0, 0) := by decide +kernel
theorem mi_127_37 : mI 127 37 = (15, 15, 2, 52, 0) := by decide +kernel
theorem mi_127_40 : mI 127 40 = (3, 0, 5, 1, 0) := by decide +kernel
theorem mi_127_42 : mI 127 42 = (3, 0, 3, 0, 0) := by decide +kernel
theorem mi_127_43 : mI 127 43 = (15, 13, 1, 56, 0) := by decide +kernel
theorem mi_127_46 : mI 127 46 = (3, 0, 4, 1, 0) := by decide +kernel
theorem mi_127_48 : mI 127 48 = (3, 0, 1, 0, 0) := by decide +kernel
theorem mi_127_49 : mI 127 49 = (15, 7, 3, 56, 0) := by decide +kernel
theorem mi_127_52 : mI 127 52 = (1, 1, 0, 0, 0) := by decide +kernel
theorem mi_127_53 : mI 127 53 = (16, 4, 0, 57, 0) := by decide +kernel
theorem mi_127_56 : mI 127 56 = (1, 0, 0, 0, 0) := by decide +kernel
theorem mi_127_57 : mI 127 57 = (6, 0, 6, 1, 0) := by decide +kernel
theorem mi_127_59 : mI 127 59 = (3, 0, 4, 1, 0) := by decide +kernel
theorem mi_127_61 : mI 127 61 = (3, 0, 1, 0, 0) := by decide +kernel
theorem mi_127_62 : mI 127 62 = (15, 22, 0, 84, 0) := by decide +kernel
theorem mi_127_65 : mI 127 65 = (3, 0, 6, 1, 0) := by decide +kernel
theorem mi_127_67 : mI 127 67 = (14, 17, 0, 84, 0) := by decide +kernel
theorem mi_127_70 : mI 127 70 = (5, 0, 0, 0, 0) := by decide +kernel
theorem mi_127_71 : mI 127 71 = (3, 0, 1, 0, 0) := by decide +kernel
theorem mi_127_72 : mI 127 72 = (3, 0, 4, 1, 0) := by decide +kernel
theorem mi_127_74 : mI 127 74 = (3, 0, 5, 1, 0) := by decide +kernel
theorem mi_127_76 : mI 127 76 = (26, 1081, 57, 128, 1) := by decide +kernel
theorem mi_127_79 : mI 127 79 = (14, 5, 0, 84, 0) := by decide +kernel
theorem mi_127_82 : mI 127 82 = (1, 1, 0, 0, 0) := by decide +kernel
theorem mi_127_83 : mI 127 83 = (27, 0, 0, 0, 0) := by decide +kernel
theorem mi_127_84 : mI 127 84 = (9, 1, 4, 0, 0) := by decide +kernel
theorem mi_127_87 : mI 127 87 = (16, (-74), 0, 13, 0) := by decide +kernel
theorem mi_127_90 : mI 127 90 = (1, 0, 0, 0, 0) := by decide +kernel
theorem mi_127_91 : mI 127 91 = (27, 0, 0, 0, 0) := by decide +kernel
theorem mi_128_0 : mI 128 0 = (1, 0, 0, 0, 0) := by decide +kernel
theorem mi_128_1 : mI 128 1 = (6, 0, 4, 1, 0) := by decide +kernel
theorem mi_128_3 : mI 128 3 = (3, 0, 4, 1, 0) := by decide +kernel
theorem mi_128_5 : mI 128 5 = (3, 0, 3, 0, 0) := by decide +kernel
theorem mi_128_6 : mI 128 6 = (15, 28, 3, 34, 0) := by decide +kernel
theorem mi_128_9 : mI 128 9 = (5, 0, 0, 0, 0) := by decide +kernel
theorem mi_128_10 : mI 128 10 = (3, 0, 1, 0, 0) := by decide +kernel
theorem mi_128_11 : mI 128 11 = (3, 0, 4, 1, 0) := by decide +kernel
theorem mi_128_13 : mI 128 13 = (26, 1077, 50, 107, 0) := by decide +kernel
theorem mi_128_16 : mI 128 16 = (5, 0, 0, 0, 0) := by decide +kernel
theorem mi_128_17 : mI 128 17 = (3, 0, 2, 0, 0) := by decide +kernel
theorem mi_128_18 : mI 128 18 = (3, 0, 4, 1, 0) := by decide +kernel
theorem mi_128_20 : mI 128 20 = (26, 1077, 50, 107, 0) := by decide +kernel
theorem mi_128_23 : mI 128 23 = (15, 5, 0, 28, 0) := by decide +kernel
theorem mi_128_26 : mI 128 26 = (1, 0, 0, 0, 0) := by decide +kernel
theorem mi_128_27 : mI 128 27 = (27, 0, 0, 0, 0) := by decide +kernel
theorem mi_128_28 : mI 128 28 = (9, 1, 4, 0, 0) := by decide +kernel
theorem mi_128_31 : mI 128 31 = (16, (-28), 0, 3, 0) := by decide +kernel
theorem mi_128_34 : mI 128 34 = (1, 1, 0, 0, 0) := by decide +kernel
theorem mi_128_35 : mI 128 35 = (27, 0, 0, 0, 0) := by decide +kernel
theorem mi_129_0 : mI 129 0 = (1, 1, 0, 0, 0) := by decide +kernel
theorem mi_129_1 : mI 129 1 = (6, 0, 2, 0, 0) := by decide +kernel
theorem mi_129_2 : mI 129 2 = (3, 0, 2, 0, 0) := by decide +kernel
theorem mi_129_3 : mI 129 3 = (1, 6, 1, 0, 0) := by decide +kernel
theorem mi_129_5 : mI 129 5 = (15, 21, 4, 26, 0) := by decide +kernel
theorem mi_129_8 : mI 129 8 = (5, 0, 0, 0, 0) := by decide +kernel
theorem mi_129_9 : mI 129 9 = (5, 0, 1, 0, 0) := by decide +kernel
theorem mi_129_10 : mI 129 10 = (3, 0, 2, 0, 0) := by decide +kernel
theorem mi_129_11 : mI 129 11 = (1, 0, 0, 0, 0) := by decide +kernel
theorem mi_129_12 : mI 129 12 = (26, 1092, 61, 125, 0) := by decide +kernel
theorem mi_129_15 : mI 129 15 = (14, 5, 5, 20, 0) := by decide +kernel
theorem mi_129_18 : mI 129 18 = (3, 0, 2, 0, 0) := by decide +kernel
theorem mi_129_19 : mI 129 19 = (27, 0, 0, 0, 0) := by decide +kernel
theorem mi_129_20 : mI 129 20 = (9, 1, 2, 0, 0) := by decide +kernel
theorem mi_129_23 : mI 129 23 = (16, (-21), 0, 2, 0) := by decide +kernel
theorem mi_129_26 : mI 129 26 = (1, (-1), 0, 0, 0) := by decide +kernel
theorem mi_129_27 : mI 129 27 = (27, 0, 0, 0, 0) := by decide +kernel
theorem mi_130_0 : mI 130 0 = (1, 0, 0, 0, 0) := by decide +kernel
theorem mi_130_1 : mI 130 1 = (6, 0, 3, 0, 0) := by decide +kernel
theorem mi_130_2 : mI 130 2 = (3, 0, 3, 0, 0) := by decide +kernel
theorem mi_130_3 : mI 130 3 = (3, 0, 2, 0, 0) := by decide +kernel
theorem mi_130_4 : mI 130 4 = (15, 52, 3, 56, 0) := by decide +kernel
theorem mi_130_7 : mI 130 7 = (1, 0, 0, 0, 0) := by decide +kernel
theorem mi_130_8 : mI 130 8 = (6, 0, 4, 1, 0) := by decide +kernel
theorem mi_130_10 : mI 130 10 = (3, 0, 4, 1, 0) := by decide +kernel
theorem mi_130_12 : mI 130 12 = (5, 0, 1, 0, 0) := by decide +kernel
theorem mi_130_13 : mI 130 13 = (17, 86, 18, 2, 1) := by decide +kernel
theorem mi_130_16 : mI 130 16 = (15, 34, 3, 50, 0) := by decide +kernel
theorem mi_130_19 : mI 130 19 = (5, 0, 0, 0, 0) := by decide +kernel
theorem mi_130_20 : mI 130 20 = (17, 288, 9, 4, 0) := by decide +kernel
theorem mi_130_23 : mI 130 23 = (3, 0, 3, 0, 0) := by decide +kernel
theorem mi_130_24 : mI 130 24 = (3, 0, 4, 1, 0) := by decide +kernel
theorem mi_130_26 : mI 130 26 = (26, 1055, 65, 148, 1) := by decide +kernel
theorem mi_130_29 : mI 130 29 = (5, 0, 0, 0, 0) := by decide +kernel
theorem mi_130_30 : mI 130 30 = (5, 0, 1, 0, 0) := by decide +kernel
theorem mi_130_31 : mI 130 31 = (3, 0, 2, 0, 0) := by decide +kernel
theorem mi_130_32 : mI 130 32 = (3, 0, 3, 0, 0) := by decide +kernel
theorem mi_130_33 : mI 130 33 = (1, 1, 0, 0, 0) := by decide +kernel
theorem mi_130_34 : mI 130 34 = (10, 0, 0, 0, 0) := by decide +kernel
theorem mi_130_35 : mI 130 35 = (26, 1092, 61, 125, 0) := by decide +kernel
theorem mi_130_38 : mI 130 38 = (14, 6, 5, 44, 0) := by decide +kernel
theorem mi_130_41 : mI 130 41 = (16, 9, 0, 50, 0) := by decide +kernel
theorem mi_130_44 : mI 130 44 = (9, 1, 4, 0, 0) := by decide +kernel
theorem mi_130_47 : mI 130 47 = (16, (-37), 0, 10, 0) := by decide +kernel
theorem mi_130_50 : mI 130 50 = (9, 1, 3, 0, 0) := by decide +kernel
theorem mi_130_53 : mI 130 53 = (16, (-51), 0, 2, 0) := by decide +kernel
theorem mi_130_56 : mI 130 56 = (27, 0, 2, 0, 0) := by decide +kernel
theorem mi_151_0 : mI 151 0 = (2, 1, 0, 0, 0) := by decide +kernel
theorem mi_151_1 : mI 151 1 = (7, 0, 2, 0, 0) := by decide +kernel
theorem mi_151_2 : mI 151 2 = (1, 0, 0, 0, 0) := by decide +kernel
theorem mi_151_3 : mI 151 3 = (6, 0, 4, 1, 0) := by decide +kernel
theorem mi_151_5 : mI 151 5 = (3, 0, 4, 1, 0) := by decide +kernel
theorem mi_151_7 : mI 151 7 = (3, 0, 1, 0, 0) := by decide +kernel
theorem mi_151_8 : mI 151 8 = (15, 14, 3, 22, 0) := by decide +kernel
theorem mi_151_11 : mI 151 11 = (4, 0, 2, 0, 0) := by decide +kernel
theorem mi_151_12 : mI 151 12 = (3, 0, 0, 0, 0) := by decide +kernel
theorem mi_151_13 : mI 151 13 = (12, 0, 1, 0, 0) := by decide +kernel
theorem mi_151_14 : mI 151 14 = (11, 0, 2, 0, 0) := by decide +kernel
theorem mi_151_15 : mI 151 15 = (7, 0, 2, 0, 0) := by decide +kernel
theorem mi_151_16 : mI 151 16 = (9, 1, 4, 0, 0) := by decide +kernel
theorem mi_151_19 : mI 151 19 = (16, (-14), 0, 5, 0) := by decide +kernel
theorem mi_151_22 : mI 151 22 = (4, 0, 2, 0, 0) := by decide +kernel
theorem mi_151_23 : mI 151 23 = (27, 0, 1, 0, 0) := by decide +kernel
theorem mi_309_0 : mI 309 0 = (1, 1, 0, 0, 0) := by decide +kernel
theorem mi_309_1 : mI 309 1 = (6, 0, 2, 0, 0) := by decide +kernel
theorem mi_309_2 : mI 309 2 = (1, 0, 0, 0, 0) := by decide +kernel
theorem mi_309_3 : mI 309 3 = (6, 0, 3, 0, 0) := by decide +kernel
theorem mi_309_4 : mI 309 4 = (3, 0, 3, 0, 0) := by decide +kernel
theorem mi_309_5 : mI 309 5 = (3, 0, 1, 0, 0) := by decide +kernel
theorem mi_309_6 : mI 309 6 = (15, 18, 3, 24, 0) := by decide +kernel
theorem mi_309_9 : mI 309 9 = (3, 0, 2, 0, 0) := by decide +kernel
theorem mi_309_10 : mI 309 10 = (5, 0, 0, 0, 0) := by decide +kernel
theorem mi_309_11 : mI 309 11 = (17, 1207, 9, 11, 1) := by decide +kernel
theorem mi_309_14 : mI 309 14 = (1, 0, 0, 0, 0) := by decide +kernel
theorem mi_309_15 : mI 309 15 = (19, 0, 0, 0, 0) := by decide +kernel
theorem mi_309_16 : mI 309 16 = (10, 0, 2, 0, 0) := by decide +kernel
theorem mi_309_17 : mI 309 17 = (6, 0, 2, 0, 0) := by decide +kernel
theorem mi_309_18 : mI 309 18 = (9, 1, 3, 0, 0) := by decide +kernel
theorem mi_309_21 : mI 309 21 = (16, (-17), 0, 4, 0) := by decide +kernel
theorem mi_309_24 : mI 309 24 = (3, 0, 2, 0, 0) := by decide +kernel
theorem mi_309_25 : mI 309 25 = (27, 0, 0, 0, 0) := by decide +kernel
theorem mi_310_0 : mI 310 0 = (5, 0, 0, 0, 0) := by decide +kernel
theorem mi_310_1 : mI 310 1 = (3, 0, 2, 0, 0) := by decide +kernel
theorem mi_310_2 : mI 310 2 = (18, 1236, 393, 11, 30) := by decide +kernel
theorem mi_310_5 : mI 310 5 = (3, 0, 1, 0, 0) := by decide +kernel
theorem mi_310_6 : mI 310 6 = (6, 0, 3, 0, 0) := by decide +kernel
theorem mi_310_7 : mI 310 7 = (3, 0, 2, 0, 0) := by decide +kernel
theorem mi_310_8 : mI 310 8 = (1, 1, 0, 0, 0) := by decide +kernel
theorem mi_310_9 : mI 310 9 = (10, 0, 1, 0, 0) := by decide +kernel
theorem mi_310_10 : mI 310 10 = (6, 0, 4, 1, 0) := by decide +kernel
theorem mi_310_12 : mI 310 12 = (3, 0, 4, 1, 0) := by decide +kernel
theorem mi_310_14 : mI 310 14 = (14, 33, 2, 47, 0) := by decide +kernel
theorem mi_310_17 : mI 310 17 = (5, 0, 0, 0, 0) := by decide +kernel
theorem mi_310_18 : mI 310 18 = (17, 1235, 61, 11, 29) := by decide +kernel
theorem mi_310_21 : mI 310 21 = (3, 0, 4, 1, 0) := by decide +kernel
theorem mi_310_23 : mI 310 23 = (3, 0, 3, 0, 0) := by decide +kernel
theorem mi_310_24 : mI 310 24 = (5, 0, 0, 0, 0) := by decide +kernel
theorem mi_310_25 : mI 310 25 = (17, 1207, 9, 11, 1) := by decide +kernel
theorem mi_310_28 : mI 310 28 = (1, 0, 0, 0, 0) := by decide +kernel
theorem mi_310_29 : mI 310 29 = (19, 0, 0, 0, 0) := by decide +kernel
theorem mi_310_30 : mI 310 30 = (10, 0, 4, 0, 0) := by decide +kernel
theorem mi_310_31 : mI 310 31 = (20, 0, 0, 0, 0) := by decide +kernel
theorem mi_310_32 : mI 310 32 = (3, 0, 3, 0, 0) := by decide +kernel
theorem mi_310_33 : mI 310 33 = (5, 0, 0, 0, 0) := by decide +kernel
theorem mi_310_34 : mI 310 34 = (17, 1207, 9, 11, 1) := by decide +kernel
theorem mi_310_37 : mI 310 37 = (1, 0, 0, 0, 0) := by decide +kernel
theorem mi_310_38 : mI 310 38 = (19, 0, 0, 0, 0) := by decide +kernel
theorem mi_310_39 : mI 310 39 = (10, 0, 3, 0, 0) := by decide +kernel
theorem mi_310_40 : mI 310 40 = (6, 0, 3, 0, 0) := by decide +kernel
theorem mi_310_41 : mI 310 41 = (9, (-1), 4, 0, 0) := by decide +kernel
theorem mi_310_44 : mI 310 44 = (16, (-32), 0, 12, 0) := by decide +kernel
theorem mi_310_47 : mI 310 47 = (27, 0, 2, 0, 0) := by decide +kernel
theorem mi_323_0 : mI 323 0 = (1, 0, 0, 0, 0) := by decide +kernel
theorem mi_323_1 : mI 323 1 = (6, 0, 2, 0, 0) := by decide +kernel
theorem mi_323_2 : mI 323 2 = (3, 0, 2, 0, 0) := by decide +kernel
theorem mi_323_3 : mI 323 3 = (5, 0, 0, 0, 0) := by decide +kernel
theorem mi_323_4 : mI 323 4 = (3, 0, 1, 0, 0) := by decide +kernel
theorem mi_323_5 : mI 323 5 = (26, 1452, 93, 204, 0) := by decide +kernel
theorem mi_323_8 : mI 323 8 = (15, 34, 3, 42, 0) := by decide +kernel
theorem mi_323_11 : mI 323 11 = (3, 0, 2, 0, 0) := by decide +kernel
theorem mi_323_12 : mI 323 12 = (5, 0, 0, 0, 0) := by decide +kernel
theorem mi_323_13 : mI 323 13 = (17, 1236, 393, 11, 30) := by decide +kernel
theorem mi_323_16 : mI 323 16 = (15, 26, 3, 42, 0) := by decide +kernel
theorem mi_323_19 : mI 323 19 = (5, 0, 0, 0, 0) := by decide +kernel
theorem mi_323_20 : mI 323 20 = (17, 1235, 61, 11, 29) := by decide +kernel
theorem mi_323_23 : mI 323 23 = (3, 0, 2, 0, 0) := by decide +kernel
theorem mi_323_24 : mI 323 24 = (19, 0, 0, 0, 0) := by decide +kernel
theorem mi_323_25 : mI 323 25 = (5, 0, 0, 0, 0) := by decide +kernel
theorem mi_323_26 : mI 323 26 = (3, 0, 1, 0, 0) := by decide +kernel
theorem mi_323_27 : mI 323 27 = (3, 0, 2, 0, 0) := by decide +kernel
theorem mi_323_28 : mI 323 28 = (26, 1456, 290, 205, 0) := by decide +kernel
theorem mi_323_31 : mI 323 31 = (15, 5, 0, 36, 0) := by decide +kernel
theorem mi_323_34 : mI 323 34 = (1, 1, 0, 0, 0) := by decide +kernel
theorem mi_323_35 : mI 323 35 = (27, 0, 0, 0, 0) := by decide +kernel
theorem mi_323_36 : mI 323 36 = (9, 1, 2, 0, 0) := by decide +kernel
theorem mi_323_39 : mI 323 39 = (16, (-37), 0, 2, 0) := by decide +kernel
theorem mi_323_42 : mI 323 42 = (1, 0, 0, 0, 0) := by decide +kernel
theorem mi_323_43 : mI 323 43 = (27, 0, 0, 0, 0) := by decide +kernel
theorem mi_324_0 : mI 324 0 = (1, 0, 0, 0, 0) := by decide +kernel
theorem mi_324_1 : mI 324 1 = (6, 0, 1, 0, 0) := by decide +kernel
theorem mi_324_2 : mI 324 2 = (3, 0, 1, 0, 0) := by decide +kernel
theorem mi_324_3 : mI 324 3 = (5, 0, 0, 0, 0) := by decide +kernel
theorem mi_324_4 : mI 324 4 = (17, 1207, 9, 11, 1) := by decide +kernel
theorem mi_324_7 : mI 324 7 = (1, 3, 0, 0, 0) := by decide +kernel
theorem mi_324_8 : mI 324 8 = (19, 0, 0, 0, 0) := by decide +kernel
theorem mi_324_9 : mI 324 9 = (15, 19, 3, 28, 0) := by decide +kernel
theorem mi_324_12 : mI 324 12 = (5, 0, 0, 0, 0) := by decide +kernel
theorem mi_324_13 : mI 324 13 = (3, 0, 1, 0, 0) := by decide +kernel
theorem mi_324_14 : mI 324 14 = (26, 1877, 439, 323, 0) := by decide +kernel
theorem mi_324_17 : mI 324 17 = (14, 5, 1, 22, 0) := by decide +kernel
theorem mi_324_20 : mI 324 20 = (1, 0, 0, 0, 0) := by decide +kernel
theorem mi_324_21 : mI 324 21 = (27, 0, 0, 0, 0) := by decide +kernel
theorem mi_324_22 : mI 324 22 = (9, 1, 1, 0, 0) := by decide +kernel
theorem mi_324_25 : mI 324 25 = (16, (-23), 0, 2, 0) := by decide +kernel
theorem mi_324_28 : mI 324 28 = (1, 1, 0, 0, 0) := by decide +kernel
theorem mi_324_29 : mI 324 29 = (27, 0, 0, 0, 0) := by decide +kernel
theorem mi_326_0 : mI 326 0 = (5, 0, 0, 0, 0) := by decide +kernel
theorem mi_326_1 : mI 326 1 = (26, 1689, 350, 198, 0) := by decide +kernel
theorem mi_326_4 : mI 326 4 = (14, 8, 0, 12, 0) := by decide +kernel
theorem mi_326_7 : mI 326 7 = (3, 0, 1, 0, 0) := by decide +kernel
theorem mi_326_8 : mI 326 8 = (1, (-1), 0, 0, 0) := by decide +kernel
theorem mi_326_9 : mI 326 9 = (15, 6, 3, 15, 0) := by decide +kernel
theorem mi_326_12 : mI 326 12 = (1, (-2), 1, 0, 0) := by decide +kernel
theorem mi_326_14 : mI 326 14 = (27, 0, 0, 0, 0) := by decide +kernel
theorem mi_326_15 : mI 326 15 = (1, 1, 0, 0, 0) := by decide +kernel
theorem mi_326_16 : mI 326 16 = (6, 0, 2, 0, 0) := by decide +kernel
theorem mi_326_17 : mI 326 17 = (3, 0, 2, 0, 0) := by decide +kernel
theorem mi_326_18 : mI 326 18 = (1, 6, 1, 0, 0) := by decide +kernel
theorem mi_326_20 : mI 326 20 = (15, 64, 4, 84, 0) := by decide +kernel
theorem mi_326_23 : mI 326 23 = (1, 0, 0, 0, 0) := by decide +kernel
theorem mi_326_24 : mI 326 24 = (6, 0, 3, 0, 0) := by decide +kernel
theorem mi_326_25 : mI 326 25 = (3, 0, 3, 0, 0) := by decide +kernel
theorem mi_326_26 : mI 326 26 = (5, 0, 0, 0, 0) := by decide +kernel
theorem mi_326_27 : mI 326 27 = (3, 0, 2, 0, 0) := by decide +kernel
theorem mi_326_28 : mI 326 28 = (26, 1814, 406, 309, 0) := by decide +kernel
theorem mi_326_31 : mI 326 31 = (15, 47, 3, 78, 0) := by decide +kernel
theorem mi_326_34 : mI 326 34 = (5, 0, 0, 0, 0) := by decide +kernel
theorem mi_326_35 : mI 326 35 = (3, 0, 3, 0, 0) := by decide +kernel
theorem mi_326_36 : mI 326 36 = (3, 0, 2, 0, 0) := by decide +kernel
theorem mi_326_37 : mI 326 37 = (26, 1818, 409, 310, 0) := by decide +kernel
theorem mi_326_40 : mI 326 40 = (5, 0, 0, 0, 0) := by decide +kernel
theorem mi_326_41 : mI 326 41 = (26, 1873, 442, 324, 0) := by decide +kernel
theorem mi_326_44 : mI 326 44 = (14, 28, 0, 72, 0) := by decide +kernel
theorem mi_326_47 : mI 326 47 = (3, 0, 1, 0, 0) := by decide +kernel
theorem mi_326_48 : mI 326 48 = (1, (-1), 0, 0, 0) := by decide +kernel
theorem mi_326_49 : mI 326 49 = (15, 7, 1, 56, 0) := by decide +kernel
theorem mi_326_52 : mI 326 52 = (3, 0, 2, 0, 0) := by decide +kernel
theorem mi_326_53 : mI 326 53 = (16, 18, 0, 71, 0) := by decide +kernel
theorem mi_326_56 : mI 326 56 = (3, 0, 1, 0, 0) := by decide +kernel
theorem mi_326_57 : mI 326 57 = (3, 0, 2, 0, 0) := by decide +kernel
theorem mi_326_58 : mI 326 58 = (15, 12, 3, 70, 0) := by decide +kernel
theorem mi_326_61 : mI 326 61 = (5, 0, 0, 0, 0) := by decide +kernel
theorem mi_326_62 : mI 326 62 = (17, 1235, 61, 11, 29) := by decide +kernel
theorem mi_326_65 : mI 326 65 = (3, 0, 1, 0, 0) := by decide +kernel
theorem mi_326_66 : mI 326 66 = (19, 0, 0, 0, 0) := by decide +kernel
theorem mi_326_67 : mI 326 67 = (16, 4, 0, 71, 0) := by decide +kernel
theorem mi_326_70 : mI 326 70 = (1, (-1), 0, 0, 0) := by decide +kernel
theorem mi_326_71 : mI 326 71 = (27, 0, 0, 0, 0) := by decide +kernel
theorem mi_326_72 : mI 326 72 = (9, 1, 3, 0, 0) := by decide +kernel
theorem mi_326_75 : mI 326 75 = (16, (-50), 0, 25, 0) := by decide +kernel
theorem mi_326_78 : mI 326 78 = (9, 1, 2, 0, 0) := by decide +kernel
theorem mi_326_81 : mI 326 81 = (16, (-64), 0, 17, 0) := by decide +kernel
theorem mi_326_84 : mI 326 84 = (1, (-1), 0, 0, 0) := by decide +kernel
theorem mi_326_85 : mI 326 85 = (27, 0, 0, 0, 0) := by decide +kernel
section XWC
theorem allU_f {P : Nat → Bool} {i n : Nat} (hi : i < n) (h : P i = false) : allU P n = false := by
  cases c : allU P n with
  | false => rfl
  | true => exact absurd ((allU_i n).mp c i hi) (by rw [h]; exact Bool.false_ne_true)
theorem exiU_t {P : Nat → Bool} {i n : Nat} (hi : i < n) (h : P i = true) : exiU P n = true := (exiU_i n).mpr ⟨i, hi, h⟩
theorem exiU_f {P : Nat → Bool} {n : Nat} (h : ∀ i, i < n → P i = false) : exiU P n = false := by
  cases c : exiU P n with
  | false => rfl
  | true =>
    obtain ⟨i, hi, k⟩ := (exiU_i n).mp c
    rw [h i hi] at k
    exact absurd k Bool.false_ne_true
theorem smN_b (b : Nat → Bool) : ∀ n : Nat, 0 ≤ smN (fun c => if b c = true then 1 else 0) n ∧ smN (fun c => if b c = true then 1 else 0) n ≤ (n : Int)
  | 0 => ⟨Int.le_refl _, Int.le_refl _⟩
  | n + 1 => by
    have ih := smN_b b n
    show 0 ≤ smN (fun c => if b c = true then 1 else 0) n + (if b n = true then 1 else 0) ∧ smN (fun c => if b c = true then 1 else 0) n + (if b n = true then 1 else 0) ≤ ((n + 1 : Nat) : Int)
    split
    · exact ⟨by omega, by omega⟩
    · exact ⟨by omega, by omega⟩
theorem smN_pos (b : Nat → Bool) : ∀ n : Nat, 0 < smN (fun c => if b c = true then 1 else 0) n ↔ ∃ c, c < n ∧ b c = true
  | 0 => ⟨fun h => absurd h (Int.lt_irrefl _), fun ⟨c, h, _⟩ => absurd h (Nat.not_lt_zero c)⟩
  | n + 1 => by
    have ih := smN_pos b n
    have nn := (smN_b b n).1
    show 0 < smN (fun c => if b c = true then 1 else 0) n + (if b n = true then 1 else 0) ↔ _
    by_cases q : b n = true
    · rw [if_pos q]
      exact ⟨fun _ => ⟨n, by omega, q⟩, fun _ => by omega⟩
    · rw [if_neg q]
      constructor
      · intro h
        obtain ⟨c, h1, h2⟩ := ih.mp (by omega)
        exact ⟨c, by omega, h2⟩
      · rintro ⟨c, h1, h2⟩
        have h3 : c < n := by
          by_cases e : c = n
          · rw [e] at h2
            exact absurd h2 q
          · omega
        have := ih.mpr ⟨c, h3, h2⟩
        omega
/-- how much of folk f's name lies in one of N syllables -/
noncomputable def szN (G : Nat → Int) (N f : Nat) : Nat := min N (G (6 + 7 * f)).toNat
noncomputable def syN (G : Nat → Int) (f i : Nat) : Nat := (G (7 + 7 * f + i)).toNat
/-- the first k syllables of what is spelt don't speak against f's name -/
noncomputable def skB (G : Nat → Int) (N k : Nat) (p : Nat → Nat) (f : Nat) : Bool := allU (fun i => decide (syN G f i = p i)) (min (szN G N f) k)
noncomputable def hdB (G : Nat → Int) (N k : Nat) (p : Nat → Nat) (f : Nat) : Bool := skB G N k p f && decide (szN G N f ≤ k)
noncomputable def lfB (G : Nat → Int) (S m N k : Nat) (p : Nat → Nat) (f : Nat) : Int := if (skB G N k p f && !(tkB m (szN G N) (syN G) f)) = true then ((S ^ (N - szN G N f) : Nat) : Int) else 0
noncomputable def ffX (G : Nat → Int) (S m N k : Nat) (p : Nat → Nat) : Int := if exiU (hdB G N k p) m = true then 0 else ((S ^ (N - k) : Nat) : Int) - smN (lfB G S m N k p) m
/-- the name of N syllables with this code is free -/
noncomputable def frI (G : Nat → Int) (S m N c : Nat) : Bool := !(exiU (cvB S N (szN G N) (syN G) c) m)
theorem szN_le {G : Nat → Int} {N f : Nat} : szN G N f ≤ N := Nat.min_le_left _ _
theorem ffX_eq {G : Nat → Int} {S m N k : Nat} {p : Nat → Nat} (hS : 0 < S) (m6 : m ≤ 6) (hk : k ≤ N) (hp : ∀ i, i < k → p i < S) (hs : ∀ f, f < m → ∀ i, i < szN G N f → syN G f i < S) : ffX G S m N k p = smN (fun c => if (decide (c / S ^ (N - k) = vlC S p k) && frI G S m N c) = true then 1 else 0) (S ^ N) := by
  have hz : ∀ f, f < m → szN G N f ≤ N := fun f _ => szN_le
  have dv : ∀ c, c < S ^ N → ((∀ i, i < k → dgC S N c i = p i) ↔ c / S ^ (N - k) = vlC S p k) := fun c hc => dgC_k hc k hk hp
  have dc : ∀ f, f < m → ∀ c, c < S ^ N → ((∀ i, i < szN G N f → dgC S N c i = syN G f i) ↔ c / S ^ (N - szN G N f) = vlC S (syN G f) (szN G N f)) := fun f hf c hc => dgC_k hc (szN G N f) (hz f hf) (hs f hf)
  unfold ffX
  by_cases h : exiU (hdB G N k p) m = true
  · rw [if_pos h]
    obtain ⟨f, hf, h2⟩ := (exiU_i m).mp h
    unfold hdB at h2
    rw [Bool.and_eq_true] at h2
    obtain ⟨h3, h4⟩ := h2
    have h4 := of_decide_eq_true h4
    unfold skB at h3
    have h3 := (allU_i _).mp h3
    have e : ∀ c, c < S ^ N → (if (decide (c / S ^ (N - k) = vlC S p k) && frI G S m N c) = true then (1 : Int) else 0) = 0 := fun c hc => by
      rw [if_neg]
      intro z
      rw [Bool.and_eq_true] at z
      have d := (dv c hc).mpr (of_decide_eq_true z.1)
      have cv : cvB S N (szN G N) (syN G) c f = true := decide_eq_true ((dc f hf c hc).mp (fun i hi => (d i (by omega)).trans (of_decide_eq_true (h3 i (by omega))).symm))
      have y := z.2
      unfold frI at y
      rw [exiU_t hf cv] at y
      exact absurd y (by decide)
    rw [smN_cg (b := fun _ => 0) _ e]
    exact (smN_0 _).symm
  · rw [if_neg h]
    have e : ∀ c, c < S ^ N → (if (decide (c / S ^ (N - k) = vlC S p k) && frI G S m N c) = true then (1 : Int) else 0) = (if c / S ^ (N - k) = vlC S p k then 1 else 0) - smN (fun f => if (decide (c / S ^ (N - k) = vlC S p k) && (cvB S N (szN G N) (syN G) c f && !(tkB m (szN G N) (syN G) f))) = true then 1 else 0) m := fun c hc => by
      by_cases v : c / S ^ (N - k) = vlC S p k
      · have o := one_cv (S := S) (N := N) (m := m) (c := c) (sz := szN G N) (s := syN G) m6 hc hz hs
        rw [if_pos v, decide_eq_true v]
        rw [smN_cg (b := fun f => if (cvB S N (szN G N) (syN G) c f && !(tkB m (szN G N) (syN G) f)) = true then 1 else 0) m (fun f _ => by rw [Bool.true_and]), o, Bool.true_and]
        unfold frI
        cases exiU (cvB S N (szN G N) (syN G) c) m <;> rfl
      · rw [if_neg v, decide_eq_false v]
        rw [smN_cg (b := fun _ => 0) m (fun f _ => by rw [Bool.false_and, if_neg Bool.false_ne_true]), smN_0, Bool.false_and, if_neg Bool.false_ne_true]
        all_goals rfl
    have t : ∀ f, f < m → lfB G S m N k p f = smN (fun c => if (decide (c / S ^ (N - k) = vlC S p k) && (cvB S N (szN G N) (syN G) c f && !(tkB m (szN G N) (syN G) f))) = true then 1 else 0) (S ^ N) := fun f hf => by
      have nh : hdB G N k p f = false := by
        cases x : hdB G N k p f with
        | false => rfl
        | true => exact absurd (exiU_t hf x) h
      unfold lfB
      cases tk : tkB m (szN G N) (syN G) f with
      | true =>
        rw [Bool.not_true, Bool.and_false, if_neg Bool.false_ne_true]
        rw [smN_cg (b := fun _ => 0) _ (fun c _ => by rw [Bool.and_false, Bool.and_false, if_neg Bool.false_ne_true])]
        exact (smN_0 _).symm
      | false =>
        rw [Bool.not_false]
        cases sk : skB G N k p f with
        | false =>
          rw [Bool.false_and, if_neg Bool.false_ne_true]
          have ex : ∃ i, i < min (szN G N f) k ∧ syN G f i ≠ p i := by
            apply Classical.byContradiction
            intro z
            have y : skB G N k p f = true := (allU_i _).mpr (fun i hi => decide_eq_true (Classical.byContradiction (fun w => z ⟨i, hi, w⟩)))
            rw [sk] at y
            exact Bool.false_ne_true y
          obtain ⟨i, hi, ne⟩ := ex
          rw [smN_cg (b := fun _ => 0) _ (fun c hc => by
            rw [if_neg]
            intro z
            rw [Bool.and_eq_true, Bool.and_true] at z
            have d := (dv c hc).mpr (of_decide_eq_true z.1)
            have g := (dc f hf c hc).mpr (of_decide_eq_true z.2)
            exact ne ((g i (by omega)).symm.trans (d i (by omega))))]
          exact (smN_0 _).symm
        | true =>
          rw [Bool.and_true, if_pos rfl]
          have ks : k < szN G N f := by
            unfold hdB at nh
            rw [sk, Bool.true_and] at nh
            have := of_decide_eq_false nh
            omega
          unfold skB at sk
          have eq : ∀ i, i < k → syN G f i = p i := fun i hi => of_decide_eq_true ((allU_i _).mp sk i (by omega))
          rw [smN_cg (b := fun c => if c / S ^ (N - szN G N f) = vlC S (syN G f) (szN G N f) then 1 else 0) _ (fun c hc => by
            by_cases v : c / S ^ (N - szN G N f) = vlC S (syN G f) (szN G N f)
            · have cv : cvB S N (szN G N) (syN G) c f = true := decide_eq_true v
              have iv : c / S ^ (N - k) = vlC S p k := (dv c hc).mp (fun i hi => ((dc f hf c hc).mpr v i (by omega)).trans (eq i hi))
              rw [if_pos v, cv, decide_eq_true iv]
              all_goals rfl
            · have cv : cvB S N (szN G N) (syN G) c f = false := decide_eq_false v
              rw [if_neg v, cv, Bool.false_and, Bool.and_false, if_neg Bool.false_ne_true])]
          exact (dgC_n hS (hz f hf) (hs f hf)).symm
    have e2 := (smN_cg _ e).trans ((smN_sub _).trans (congrArg (fun z => smN (fun c => if c / S ^ (N - k) = vlC S p k then 1 else 0) (S ^ N) - z) (smN_swap (g := fun f c => if (decide (c / S ^ (N - k) = vlC S p k) && (cvB S N (szN G N) (syN G) c f && !(tkB m (szN G N) (syN G) f))) = true then 1 else 0) m (S ^ N))))
    rw [smN_cg m t, ← dgC_n hS hk hp]
    exact e2.symm
/-- all codes: nothing is spelt yet -/
theorem ff0_eq {G : Nat → Int} {S m N : Nat} {p : Nat → Nat} (m6 : m ≤ 6) (hN : 1 ≤ N) (hs : ∀ f, f < m → ∀ i, i < szN G N f → syN G f i < S) : ffX G S m N 0 p = smN (fun c => if frI G S m N c = true then 1 else 0) (S ^ N) := by
  by_cases s0 : 0 < S
  · rw [ffX_eq s0 m6 (Nat.zero_le N) (fun i hi => absurd hi (Nat.not_lt_zero i)) hs]
    refine smN_cg _ (fun c hc => ?_)
    rw [decide_eq_true (show c / S ^ (N - 0) = vlC S p 0 by rw [Nat.sub_zero, Nat.div_eq_of_lt hc]; rfl), Bool.true_and]
  · have e : S = 0 := by omega
    rw [e, Nat.zero_pow (n := N) (by omega)]
    show _ = (0 : Int)
    unfold ffX
    by_cases h : exiU (hdB G N 0 p) m = true
    · rw [if_pos h]
    · rw [if_neg h, Nat.sub_zero, Nat.zero_pow (n := N) (by omega)]
      have m0 : m = 0 := by
        apply Classical.byContradiction
        intro z
        refine h (exiU_t (i := 0) (by omega) ?_)
        have z0 : szN G N 0 = 0 := by
          apply Classical.byContradiction
          intro y
          have := hs 0 (by omega) 0 (by omega)
          omega
        unfold hdB skB
        rw [z0]
        rfl
      rw [m0]
      rfl
theorem ffX_b {G : Nat → Int} {S m N k : Nat} {p : Nat → Nat} (hS : 0 < S) (S9 : S ≤ 9) (m6 : m ≤ 6) (N6 : N ≤ 6) (hk : k ≤ N) (hp : ∀ i, i < k → p i < S) (hs : ∀ f, f < m → ∀ i, i < szN G N f → syN G f i < S) : 0 ≤ ffX G S m N k p ∧ ffX G S m N k p ≤ 531441 := by
  rw [ffX_eq hS m6 hk hp hs]
  have b := smN_b (fun c => decide (c / S ^ (N - k) = vlC S p k) && frI G S m N c) (S ^ N)
  have l1 : S ^ N ≤ 9 ^ N := Nat.pow_le_pow_left S9 N
  have l2 : 9 ^ N ≤ 9 ^ 6 := Nat.pow_le_pow_right (by omega) N6
  have l3 : (9 : Nat) ^ 6 = 531441 := by decide
  exact ⟨b.1, Int.le_trans b.2 (by omega)⟩
theorem ff0_b {G : Nat → Int} {S m N : Nat} {p : Nat → Nat} (S9 : S ≤ 9) (m6 : m ≤ 6) (hN : 1 ≤ N) (N6 : N ≤ 6) (hs : ∀ f, f < m → ∀ i, i < szN G N f → syN G f i < S) : 0 ≤ ffX G S m N 0 p ∧ ffX G S m N 0 p ≤ 531441 := by
  rw [ff0_eq m6 hN hs]
  have b := smN_b (fun c => frI G S m N c) (S ^ N)
  have l1 : S ^ N ≤ 9 ^ N := Nat.pow_le_pow_left S9 N
  have l2 : 9 ^ N ≤ 9 ^ 6 := Nat.pow_le_pow_right (by omega) N6
  have l3 : (9 : Nat) ^ 6 = 531441 := by decide
  exact ⟨b.1, Int.le_trans b.2 (by omega)⟩
theorem ffX_pos {G : Nat → Int} {S m N k : Nat} {p : Nat → Nat} (hS : 0 < S) (m6 : m ≤ 6) (hk : k ≤ N) (hp : ∀ i, i < k → p i < S) (hs : ∀ f, f < m → ∀ i, i < szN G N f → syN G f i < S) : 0 < ffX G S m N k p ↔ ∃ c, c < S ^ N ∧ (∀ i, i < k → dgC S N c i = p i) ∧ frI G S m N c = true := by
  rw [ffX_eq hS m6 hk hp hs, smN_pos (fun c => decide (c / S ^ (N - k) = vlC S p k) && frI G S m N c)]
  constructor
  · rintro ⟨c, h1, h2⟩
    rw [Bool.and_eq_true] at h2
    exact ⟨c, h1, (dgC_k h1 k hk hp).mpr (of_decide_eq_true h2.1), h2.2⟩
  · rintro ⟨c, h1, h2, h3⟩
    refine ⟨c, h1, ?_⟩
    rw [Bool.and_eq_true]
    exact ⟨decide_eq_true ((dgC_k h1 k hk hp).mp h2), h3⟩
/-- the first of some codes that has it -/
noncomputable def fcK (P : Nat → Bool) : Nat → Nat → Option Nat
  | 0, _ => none
  | k + 1, c => if P c = true then some c else fcK P k (c + 1)
theorem fcK_s {P : Nat → Bool} {d : Nat} : ∀ k c : Nat, fcK P k c = some d → (c ≤ d ∧ d < c + k) ∧ P d = true ∧ ∀ e, c ≤ e → e < d → P e = false
  | 0, c, h => by
    have h : (none : Option Nat) = some d := h
    cases h
  | k + 1, c, h => by
    unfold fcK at h
    by_cases q : P c = true
    · rw [if_pos q] at h
      have e := Option.some.inj h
      rw [← e]
      exact ⟨⟨by omega, by omega⟩, q, fun x h1 h2 => absurd h1 (by omega)⟩
    · rw [if_neg q] at h
      obtain ⟨a, b, z⟩ := fcK_s k (c + 1) h
      refine ⟨⟨by omega, by omega⟩, b, fun x h1 h2 => ?_⟩
      by_cases e : x = c
      · rw [e]
        exact Bool.eq_false_iff.mpr q
      · exact z x (by omega) h2
theorem fcK_n {P : Nat → Bool} : ∀ k c : Nat, fcK P k c = none → ∀ e, c ≤ e → e < c + k → P e = false
  | 0, c, _, e, h1, h2 => absurd h1 (by omega)
  | k + 1, c, h, e, h1, h2 => by
    unfold fcK at h
    by_cases q : P c = true
    · rw [if_pos q] at h
      cases h
    · rw [if_neg q] at h
      by_cases x : e = c
      · rw [x]
        exact Bool.eq_false_iff.mpr q
      · exact fcK_n k (c + 1) h e (by omega) (by omega)
/-- the child's name: its size and its code -/
noncomputable def chO (G : Nat → Int) (S m : Nat) : Nat → Nat → Option (Nat × Nat)
  | 0, _ => none
  | k + 1, n => match fcK (frI G S m n) (S ^ n) 0 with
    | some c => some (n, c)
    | none => chO G S m k (n + 1)
theorem chO_y {G : Nat → Int} {S m k n c : Nat} (h : fcK (frI G S m n) (S ^ n) 0 = some c) : chO G S m (k + 1) n = some (n, c) := by
  show (match fcK (frI G S m n) (S ^ n) 0 with | some c => some (n, c) | none => chO G S m k (n + 1)) = _
  rw [h]
theorem chO_n {G : Nat → Int} {S m k n : Nat} (h : fcK (frI G S m n) (S ^ n) 0 = none) : chO G S m (k + 1) n = chO G S m k (n + 1) := by
  show (match fcK (frI G S m n) (S ^ n) 0 with | some c => some (n, c) | none => chO G S m k (n + 1)) = _
  rw [h]
noncomputable def chN : Option (Nat × Nat) → Int
  | none => -1
  | some q => (q.1 : Int)
noncomputable def chV (S : Nat) (w : Int) : Option (Nat × Nat) → Int
  | none => -1
  | some q => if w = -1 then (q.1 : Int) else if w < (q.1 : Int) then ((dgC S q.1 q.2 w.toNat : Nat) : Int) else -1
/-- the least size that has a free name -/
noncomputable def lsZ (G : Nat → Int) (S m : Nat) : Nat → Nat → Int
  | 0, _ => -1
  | k + 1, n => if 0 < ffX G S m n 0 (fun _ => 0) then (n : Int) else lsZ G S m k (n + 1)
theorem lsZ_y {G : Nat → Int} {S m k n : Nat} (h : 0 < ffX G S m n 0 (fun _ => 0)) : lsZ G S m (k + 1) n = (n : Int) := if_pos h
theorem lsZ_n {G : Nat → Int} {S m k n : Nat} (h : ¬ 0 < ffX G S m n 0 (fun _ => 0)) : lsZ G S m (k + 1) n = lsZ G S m k (n + 1) := if_neg h
theorem lsZ_ch {G : Nat → Int} {S m : Nat} (m6 : m ≤ 6) (hs : ∀ N, ∀ f, f < m → ∀ i, i < szN G N f → i < 6 → syN G f i < S) : ∀ k n : Nat, 1 ≤ n → n + k = 7 → lsZ G S m k n = chN (chO G S m k n) ∧ ∀ q, chO G S m k n = some q → (1 ≤ q.1 ∧ q.1 ≤ 6) ∧ q.2 < S ^ q.1 ∧ frI G S m q.1 q.2 = true ∧ ∀ e, e < q.2 → frI G S m q.1 e = false
  | 0, n, _, _ => ⟨rfl, fun q h => by
    have h : (none : Option (Nat × Nat)) = some q := h
    cases h⟩
  | k + 1, n, hn, hk => by
    have hz : ∀ f, f < m → ∀ i, i < szN G n f → syN G f i < S := fun f hf i hi => hs n f hf i hi (by have := szN_le (G := G) (N := n) (f := f); omega)
    cases c : fcK (frI G S m n) (S ^ n) 0 with
    | some d =>
      obtain ⟨a, b, z⟩ := fcK_s _ _ c
      have y : 0 < ffX G S m n 0 (fun _ => 0) := by
        rw [ff0_eq m6 hn hz, smN_pos (fun c => frI G S m n c)]
        exact ⟨d, by omega, b⟩
      rw [chO_y c, lsZ_y y]
      refine ⟨rfl, fun q h => ?_⟩
      rw [← Option.some.inj h]
      exact ⟨⟨hn, by show n ≤ 6; omega⟩, by show d < S ^ n; omega, b, fun e he => z e (by omega) he⟩
    | none =>
      have z := fcK_n _ _ c
      have y : ¬ 0 < ffX G S m n 0 (fun _ => 0) := by
        rw [ff0_eq m6 hn hz, smN_pos (fun c => frI G S m n c)]
        rintro ⟨e, h1, h2⟩
        rw [z e (by omega) (by omega)] at h2
        exact Bool.false_ne_true h2
      rw [chO_n c, lsZ_n y]
      exact lsZ_ch m6 hs k (n + 1) (by omega) (by omega)
/-- what is spelt up to i, and one syllable more -/
noncomputable def mixP (dg : Nat → Nat) (i d : Nat) (j : Nat) : Nat := if j < i then dg j else d
theorem vlC_cg {S : Nat} {a b : Nat → Nat} : ∀ k : Nat, (∀ i, i < k → a i = b i) → vlC S a k = vlC S b k
  | 0, _ => rfl
  | k + 1, h => by
    unfold vlC
    rw [vlC_cg k (fun i hi => h i (by omega)), h k (by omega)]
theorem dgC_lt {S n c i : Nat} (hS : 0 < S) : dgC S n c i < S := Nat.mod_lt _ hS
/-- the class's search finds its syllables one by one -/
theorem find_le {G : Nat → Int} {S m N c : Nat} (hS : 0 < S) (m6 : m ≤ 6) (hs : ∀ f, f < m → ∀ i, i < szN G N f → syN G f i < S) (hc : c < S ^ N) (hf : frI G S m N c = true) (hl : ∀ e, e < c → frI G S m N e = false) {i : Nat} (hi : i < N) : 0 < ffX G S m N (i + 1) (mixP (dgC S N c) i (dgC S N c i)) ∧ ∀ d, d < dgC S N c i → ¬ 0 < ffX G S m N (i + 1) (mixP (dgC S N c) i d) := by
  have mp : ∀ d, d ≤ dgC S N c i → ∀ j, j < i + 1 → mixP (dgC S N c) i d j < S := fun d hd j hj => by
    have a := dgC_lt (S := S) (n := N) (c := c) (i := j) hS
    have b := dgC_lt (S := S) (n := N) (c := c) (i := i) hS
    unfold mixP
    split
    · exact a
    · omega
  refine ⟨(ffX_pos hS m6 hi (mp _ (Nat.le_refl _)) hs).mpr ⟨c, hc, fun j hj => ?_, hf⟩, fun d hd h => ?_⟩
  · unfold mixP
    split
    · rfl
    · rw [show j = i by omega]
  · obtain ⟨e, he, de, fe⟩ := (ffX_pos hS m6 hi (mp d (by omega)) hs).mp h
    have q1 := (dgC_k he (i + 1) hi (mp d (by omega))).mp de
    have q2 := (dgC_k hc (i + 1) hi (s := dgC S N c) (fun j _ => dgC_lt hS)).mp (fun j _ => rfl)
    have q3 : vlC S (mixP (dgC S N c) i d) i = vlC S (dgC S N c) i := vlC_cg i (fun j hj => if_pos hj)
    have q4 : mixP (dgC S N c) i d i = d := if_neg (by omega)
    have q5 : vlC S (mixP (dgC S N c) i d) (i + 1) = S * vlC S (mixP (dgC S N c) i d) i + mixP (dgC S N c) i d i := rfl
    have q6 : vlC S (dgC S N c) (i + 1) = S * vlC S (dgC S N c) i + dgC S N c i := rfl
    rw [q3, q4] at q5
    have lt : e < c := by
      apply Classical.byContradiction
      intro z
      have := Nat.div_le_div_right (c := S ^ (N - (i + 1))) (show c ≤ e by omega)
      rw [q1, q2, q5, q6] at this
      omega
    rw [hl e lt] at fe
    exact Bool.false_ne_true fe
end XWC
