theorem mi_60_0 : mI 60 0 = (5, 0, 0, 0, 0) := by decide +kernel
theorem mi_60_1 : mI 60 1 = (17, 299, 24, 10, 2) := by decide +kernel
theorem mi_60_4 : mI 60 4 = (26, 817, 237, 101, 0) := by decide +kernel
theorem mi_60_7 : mI 60 7 = (14, 14, 0, 21, 0) := by decide +kernel
theorem mi_60_10 : mI 60 10 = (3, 0, 1, 0, 0) := by decide +kernel
theorem mi_60_11 : mI 60 11 = (1, 1, 0, 0, 0) := by decide +kernel
theorem mi_60_12 : mI 60 12 = (15, 9, 2, 21, 0) := by decide +kernel
theorem mi_60_15 : mI 60 15 = (3, 0, 1, 0, 0) := by decide +kernel
theorem mi_60_16 : mI 60 16 = (1, 6, 1, 0, 0) := by decide +kernel
theorem mi_60_18 : mI 60 18 = (15, 6, 5, 24, 0) := by decide +kernel
theorem mi_60_21 : mI 60 21 = (1, (-2), 1, 0, 0) := by decide +kernel
theorem mi_60_23 : mI 60 23 = (27, 0, 0, 0, 0) := by decide +kernel
theorem mi_60_24 : mI 60 24 = (5, 0, 0, 0, 0) := by decide +kernel
theorem mi_60_25 : mI 60 25 = (17, 307, 76, 10, 10) := by decide +kernel
theorem mi_60_28 : mI 60 28 = (5, 0, 0, 0, 0) := by decide +kernel
theorem mi_60_29 : mI 60 29 = (17, 299, 24, 10, 2) := by decide +kernel
theorem mi_60_32 : mI 60 32 = (3, 0, 1, 0, 0) := by decide +kernel
theorem mi_60_33 : mI 60 33 = (1, 0, 0, 0, 0) := by decide +kernel
theorem mi_60_34 : mI 60 34 = (26, 1064, 333, 125, 0) := by decide +kernel
theorem mi_60_37 : mI 60 37 = (27, 0, 0, 0, 0) := by decide +kernel
theorem mi_125_0 : mI 125 0 = (5, 0, 1, 0, 0) := by decide +kernel
theorem mi_125_1 : mI 125 1 = (17, 86, 18, 2, 1) := by decide +kernel
theorem mi_125_4 : mI 125 4 = (3, 0, 2, 0, 0) := by decide +kernel
theorem mi_125_5 : mI 125 5 = (3, 0, 3, 0, 0) := by decide +kernel
theorem mi_125_6 : mI 125 6 = (10, 0, 1, 0, 0) := by decide +kernel
theorem mi_125_7 : mI 125 7 = (26, 1068, 24, 151, 1) := by decide +kernel
theorem mi_125_10 : mI 125 10 = (7, 0, 4, 1, 0) := by decide +kernel
theorem mi_125_12 : mI 125 12 = (1, 0, 0, 0, 0) := by decide +kernel
theorem mi_125_13 : mI 125 13 = (6, 0, 6, 1, 0) := by decide +kernel
theorem mi_125_15 : mI 125 15 = (3, 0, 6, 1, 0) := by decide +kernel
theorem mi_125_17 : mI 125 17 = (5, 0, 1, 0, 0) := by decide +kernel
theorem mi_125_18 : mI 125 18 = (17, 102, 30, 2, 4) := by decide +kernel
theorem mi_125_21 : mI 125 21 = (15, 71, 3, 92, 0) := by decide +kernel
theorem mi_125_24 : mI 125 24 = (3, 0, 2, 0, 0) := by decide +kernel
theorem mi_125_25 : mI 125 25 = (5, 0, 1, 0, 0) := by decide +kernel
theorem mi_125_26 : mI 125 26 = (3, 0, 6, 1, 0) := by decide +kernel
theorem mi_125_28 : mI 125 28 = (26, 1071, 33, 106, 0) := by decide +kernel
theorem mi_125_31 : mI 125 31 = (26, 1072, 37, 342, 1) := by decide +kernel
theorem mi_125_34 : mI 125 34 = (6, 0, 7, 1, 0) := by decide +kernel
theorem mi_125_36 : mI 125 36 = (5, 0, 0, 0, 0) := by decide +kernel
theorem mi_125_37 : mI 125 37 = (5, 0, 1, 0, 0) := by decide +kernel
theorem mi_125_38 : mI 125 38 = (3, 0, 6, 1, 0) := by decide +kernel
theorem mi_125_40 : mI 125 40 = (3, 0, 7, 1, 0) := by decide +kernel
theorem mi_125_42 : mI 125 42 = (3, 0, 3, 0, 0) := by decide +kernel
theorem mi_125_43 : mI 125 43 = (26, 1072, 37, 342, 1) := by decide +kernel
theorem mi_125_46 : mI 125 46 = (26, 1073, 43, 126, 0) := by decide +kernel
theorem mi_125_49 : mI 125 49 = (14, 37, 0, 86, 0) := by decide +kernel
theorem mi_125_52 : mI 125 52 = (3, 0, 7, 1, 0) := by decide +kernel
theorem mi_125_54 : mI 125 54 = (3, 0, 3, 0, 0) := by decide +kernel
theorem mi_125_55 : mI 125 55 = (15, 5, 4, 60, 0) := by decide +kernel
theorem mi_125_58 : mI 125 58 = (1, 0, 0, 0, 0) := by decide +kernel
theorem mi_125_59 : mI 125 59 = (27, 0, 0, 0, 0) := by decide +kernel
theorem mi_125_60 : mI 125 60 = (5, 0, 1, 0, 0) := by decide +kernel
theorem mi_125_61 : mI 125 61 = (3, 0, 6, 1, 0) := by decide +kernel
theorem mi_125_63 : mI 125 63 = (3, 0, 2, 0, 0) := by decide +kernel
theorem mi_125_64 : mI 125 64 = (26, 1078, 47, 127, 1) := by decide +kernel
theorem mi_125_67 : mI 125 67 = (14, 19, 1, 86, 0) := by decide +kernel
theorem mi_125_70 : mI 125 70 = (4, 0, 4, 1, 0) := by decide +kernel
theorem mi_125_72 : mI 125 72 = (5, 0, 1, 0, 0) := by decide +kernel
theorem mi_125_73 : mI 125 73 = (17, 86, 18, 2, 1) := by decide +kernel
theorem mi_125_76 : mI 125 76 = (3, 0, 2, 0, 0) := by decide +kernel
theorem mi_125_77 : mI 125 77 = (3, 0, 7, 1, 0) := by decide +kernel
theorem mi_125_79 : mI 125 79 = (10, 0, 1, 0, 0) := by decide +kernel
theorem mi_125_80 : mI 125 80 = (26, 1068, 24, 151, 1) := by decide +kernel
theorem mi_125_83 : mI 125 83 = (11, 0, 1, 0, 0) := by decide +kernel
theorem mi_125_84 : mI 125 84 = (7, 0, 4, 1, 0) := by decide +kernel
theorem mi_125_86 : mI 125 86 = (9, 1, 6, 0, 0) := by decide +kernel
theorem mi_125_89 : mI 125 89 = (16, (-74), 0, 15, 0) := by decide +kernel
theorem mi_125_92 : mI 125 92 = (4, 0, 4, 1, 0) := by decide +kernel
theorem mi_125_94 : mI 125 94 = (12, 0, 2, 0, 0) := by decide +kernel
theorem mi_125_95 : mI 125 95 = (27, 0, 0, 0, 0) := by decide +kernel
theorem mi_126_0 : mI 126 0 = (1, 0, 0, 0, 0) := by decide +kernel
theorem mi_126_1 : mI 126 1 = (6, 0, 4, 1, 0) := by decide +kernel
theorem mi_126_3 : mI 126 3 = (3, 0, 4, 1, 0) := by decide +kernel
theorem mi_126_5 : mI 126 5 = (3, 0, 3, 0, 0) := by decide +kernel
theorem mi_126_6 : mI 126 6 = (15, 30, 3, 36, 0) := by decide +kernel
theorem mi_126_9 : mI 126 9 = (5, 0, 1, 0, 0) := by decide +kernel
theorem mi_126_10 : mI 126 10 = (3, 0, 2, 0, 0) := by decide +kernel
theorem mi_126_11 : mI 126 11 = (3, 0, 4, 1, 0) := by decide +kernel
theorem mi_126_13 : mI 126 13 = (26, 1077, 50, 107, 0) := by decide +kernel
theorem mi_126_16 : mI 126 16 = (5, 0, 0, 0, 0) := by decide +kernel
theorem mi_126_17 : mI 126 17 = (17, 288, 9, 4, 0) := by decide +kernel
theorem mi_126_20 : mI 126 20 = (3, 0, 4, 1, 0) := by decide +kernel
theorem mi_126_22 : mI 126 22 = (26, 1051, 53, 147, 1) := by decide +kernel
theorem mi_126_25 : mI 126 25 = (15, 5, 0, 30, 0) := by decide +kernel
theorem mi_126_28 : mI 126 28 = (1, 0, 0, 0, 0) := by decide +kernel
theorem mi_126_29 : mI 126 29 = (27, 0, 0, 0, 0) := by decide +kernel
theorem mi_126_30 : mI 126 30 = (9, 1, 4, 0, 0) := by decide +kernel
theorem mi_126_33 : mI 126 33 = (16, (-30), 0, 3, 0) := by decide +kernel
theorem mi_126_36 : mI 126 36 = (1, 1, 0, 0, 0) := by decide +kernel
theorem mi_126_37 : mI 126 37 = (27, 0, 0, 0, 0) := by decide +kernel
theorem mi_127_0 : mI 127 0 = (3, 0, 2, 0, 0) := by decide +kernel
theorem mi_127_1 : mI 127 1 = (5, 0, 0, 0, 0) := by decide +kernel
theorem mi_127_2 : mI 127 2 = (3, 0, 1, 0, 0) := by decide +kernel
theorem mi_127_3 : mI 127 3 = (26, 1071, 33, 106, 0) := by decide +kernel
theorem mi_127_6 : mI 127 6 = (26, 1072, 37, 342, 1) := by decide +kernel
theorem mi_127_9 : mI 127 9 = (6, 0, 3, 0, 0) := by decide +kernel
theorem mi_127_10 : mI 127 10 = (1, 0, 0, 0, 0) := by decide +kernel
theorem mi_127_11 : mI 127 11 = (6, 0, 4, 1, 0) := by decide +kernel
theorem mi_127_13 : mI 127 13 = (3, 0, 4, 1, 0) := by decide +kernel
theorem mi_127_15 : mI 127 15 = (5, 0, 0, 0, 0) := by decide +kernel
theorem mi_127_16 : mI 127 16 = (17, 102, 30, 2, 4) := by decide +kernel
theorem mi_127_19 : mI 127 19 = (15, 71, 3, 90, 0) := by decide +kernel
theorem mi_127_22 : mI 127 22 = (3, 0, 2, 0, 0) := by decide +kernel
theorem mi_127_23 : mI 127 23 = (5, 0, 0, 0, 0) := by decide +kernel
theorem mi_127_24 : mI 127 24 = (3, 0, 4, 1, 0) := by decide +kernel
theorem mi_127_26 : mI 127 26 = (26, 1071, 33, 106, 0) := by decide +kernel
theorem mi_127_29 : mI 127 29 = (26, 1072, 37, 342, 1) := by decide +kernel
theorem mi_127_32 : mI 127 32 = (6, 0, 5, 1, 0) := by decide +kernel
theorem mi_127_34 : mI 127 34 = (3, 0, 5, 1, 0) := by decide +kernel
theorem mi_127_36 : mI 127 36 = (3, 0, 3, 0, 0) := by decide +kernel
theorem mi_127_37 : mI 127 37 = (15, 15, 2, 52, 0) := by decide +kernel
theorem mi_127_40 : mI 127 40 = (3, 0, 5, 1, 0) := by decide +kernel
theorem mi_127_42 : mI 127 42 = (3, 0, 3, 0, 0) := by decide +kernel
theorem mi_127_43 : mI 127 43 = (15, 13, 1, 56, 0) := by decide +kernel
theorem mi_127_46 : mI 127 46 = (3, 0, 4, 1, 0) := by decide +kernel
theorem mi_127_48 : mI 127 48 = (3, 0, 1, 0, 0) := by decide +kernel
theorem mi_127_49 : mI 127 49 = (15, 7, 3, 56, 0) := by decide +kernel
theorem mi_127_52 : mI 127 52 = (1, 1, 0, 0, 0) := by decide +kernel
theorem mi_127_53 : mI 127 53 = (16, 4, 0, 57, 0) := by decide +kernel
theorem mi_127_56 : mI 127 56 = (1, 0, 0, 0, 0) := by decide +kernel
theorem mi_127_57 : mI 127 57 = (6, 0, 6, 1, 0) := by decide +kernel
theorem mi_127_59 : mI 127 59 = (3, 0, 4, 1, 0) := by decide +kernel
theorem mi_127_61 : mI 127 61 = (3, 0, 1, 0, 0) := by decide +kernel
theorem mi_127_62 : mI 127 62 = (15, 22, 0, 84, 0) := by decide +kernel
theorem mi_127_65 : mI 127 65 = (3, 0, 6, 1, 0) := by decide +kernel
theorem mi_127_67 : mI 127 67 = (14, 17, 0, 84, 0) := by decide +kernel
theorem mi_127_70 : mI 127 70 = (5, 0, 0, 0, 0) := by decide +kernel
theorem mi_127_71 : mI 127 71 = (3, 0, 1, 0, 0) := by decide +kernel
theorem mi_127_72 : mI 127 72 = (3, 0, 4, 1, 0) := by decide +kernel
theorem mi_127_74 : mI 127 74 = (3, 0, 5, 1, 0) := by decide +kernel
theorem mi_127_76 : mI 127 76 = (26, 1081, 57, 128, 1) := by decide +kernel
theorem mi_127_79 : mI 127 79 = (14, 5, 0, 84, 0) := by decide +kernel
theorem mi_127_82 : mI 127 82 = (1, 1, 0, 0, 0) := by decide +kernel
theorem mi_127_83 : mI 127 83 = (27, 0, 0, 0, 0) := by decide +kernel
theorem mi_127_84 : mI 127 84 = (9, 1, 4, 0, 0) := by decide +kernel
theorem mi_127_87 : mI 127 87 = (16, (-74), 0, 13, 0) := by decide +kernel
theorem mi_127_90 : mI 127 90 = (1, 0, 0, 0, 0) := by decide +kernel
theorem mi_127_91 : mI 127 91 = (27, 0, 0, 0, 0) := by decide +kernel
theorem mi_128_0 : mI 128 0 = (1, 0, 0, 0, 0) := by decide +kernel
theorem mi_128_1 : mI 128 1 = (6, 0, 4, 1, 0) := by decide +kernel
theorem mi_128_3 : mI 128 3 = (3, 0, 4, 1, 0) := by decide +kernel
theorem mi_128_5 : mI 128 5 = (3, 0, 3, 0, 0) := by decide +kernel
theorem mi_128_6 : mI 128 6 = (15, 28, 3, 34, 0) := by decide +kernel
theorem mi_128_9 : mI 128 9 = (5, 0, 0, 0, 0) := by decide +kernel
theorem mi_128_10 : mI 128 10 = (3, 0, 1, 0, 0) := by decide +kernel
theorem mi_128_11 : mI 128 11 = (3, 0, 4, 1, 0) := by decide +kernel
theorem mi_128_13 : mI 128 13 = (26, 1077, 50, 107, 0) := by decide +kernel
theorem mi_128_16 : mI 128 16 = (5, 0, 0, 0, 0) := by decide +kernel
theorem mi_128_17 : mI 128 17 = (3, 0, 2, 0, 0) := by decide +kernel
theorem mi_128_18 : mI 128 18 = (3, 0, 4, 1, 0) := by decide +kernel
theorem mi_128_20 : mI 128 20 = (26, 1077, 50, 107, 0) := by decide +kernel
theorem mi_128_23 : mI 128 23 = (15, 5, 0, 28, 0) := by decide +kernel
theorem mi_128_26 : mI 128 26 = (1, 0, 0, 0, 0) := by decide +kernel
theorem mi_128_27 : mI 128 27 = (27, 0, 0, 0, 0) := by decide +kernel
theorem mi_128_28 : mI 128 28 = (9, 1, 4, 0, 0) := by decide +kernel
theorem mi_128_31 : mI 128 31 = (16, (-28), 0, 3, 0) := by decide +kernel
theorem mi_128_34 : mI 128 34 = (1, 1, 0, 0, 0) := by decide +kernel
theorem mi_128_35 : mI 128 35 = (27, 0, 0, 0, 0) := by decide +kernel
theorem mi_151_0 : mI 151 0 = (2, 1, 0, 0, 0) := by decide +kernel
theorem mi_151_1 : mI 151 1 = (7, 0, 2, 0, 0) := by decide +kernel
theorem mi_151_2 : mI 151 2 = (1, 0, 0, 0, 0) := by decide +kernel
theorem mi_151_3 : mI 151 3 = (6, 0, 4, 1, 0) := by decide +kernel
theorem mi_151_5 : mI 151 5 = (3, 0, 4, 1, 0) := by decide +kernel
theorem mi_151_7 : mI 151 7 = (3, 0, 1, 0, 0) := by decide +kernel
theorem mi_151_8 : mI 151 8 = (15, 14, 3, 22, 0) := by decide +kernel
theorem mi_151_11 : mI 151 11 = (4, 0, 2, 0, 0) := by decide +kernel
theorem mi_151_12 : mI 151 12 = (3, 0, 0, 0, 0) := by decide +kernel
theorem mi_151_13 : mI 151 13 = (12, 0, 1, 0, 0) := by decide +kernel
theorem mi_151_14 : mI 151 14 = (11, 0, 2, 0, 0) := by decide +kernel
theorem mi_151_15 : mI 151 15 = (7, 0, 2, 0, 0) := by decide +kernel
theorem mi_151_16 : mI 151 16 = (9, 1, 4, 0, 0) := by decide +kernel
theorem mi_151_19 : mI 151 19 = (16, (-14), 0, 5, 0) := by decide +kernel
theorem mi_151_22 : mI 151 22 = (4, 0, 2, 0, 0) := by decide +kernel
theorem mi_151_23 : mI 151 23 = (27, 0, 1, 0, 0) := by decide +kernel
theorem mi_309_0 : mI 309 0 = (1, 1, 0, 0, 0) := by decide +kernel
theorem mi_309_1 : mI 309 1 = (6, 0, 2, 0, 0) := by decide +kernel
theorem mi_309_2 : mI 309 2 = (1, 0, 0, 0, 0) := by decide +kernel
theorem mi_309_3 : mI 309 3 = (6, 0, 3, 0, 0) := by decide +kernel
theorem mi_309_4 : mI 309 4 = (3, 0, 3, 0, 0) := by decide +kernel
theorem mi_309_5 : mI 309 5 = (3, 0, 1, 0, 0) := by decide +kernel
theorem mi_309_6 : mI 309 6 = (15, 18, 3, 24, 0) := by decide +kernel
theorem mi_309_9 : mI 309 9 = (3, 0, 2, 0, 0) := by decide +kernel
theorem mi_309_10 : mI 309 10 = (5, 0, 0, 0, 0) := by decide +kernel
theorem mi_309_11 : mI 309 11 = (17, 1207, 9, 11, 1) := by decide +kernel
theorem mi_309_14 : mI 309 14 = (1, 0, 0, 0, 0) := by decide +kernel
theorem mi_309_15 : mI 309 15 = (19, 0, 0, 0, 0) := by decide +kernel
theorem mi_309_16 : mI 309 16 = (10, 0, 2, 0, 0) := by decide +kernel
theorem mi_309_17 : mI 309 17 = (6, 0, 2, 0, 0) := by decide +kernel
theorem mi_309_18 : mI 309 18 = (9, 1, 3, 0, 0) := by decide +kernel
theorem mi_309_21 : mI 309 21 = (16, (-17), 0, 4, 0) := by decide +kernel
theorem mi_309_24 : mI 309 24 = (3, 0, 2, 0, 0) := by decide +kernel
theorem mi_309_25 : mI 309 25 = (27, 0, 0, 0, 0) := by decide +kernel
theorem mi_310_0 : mI 310 0 = (5, 0, 0, 0, 0) := by decide +kernel
theorem mi_310_1 : mI 310 1 = (3, 0, 2, 0, 0) := by decide +kernel
theorem mi_310_2 : mI 310 2 = (18, 1236, 393, 11, 30) := by decide +kernel
theorem mi_310_5 : mI 310 5 = (3, 0, 1, 0, 0) := by decide +kernel
theorem mi_310_6 : mI 310 6 = (6, 0, 3, 0, 0) := by decide +kernel
theorem mi_310_7 : mI 310 7 = (3, 0, 2, 0, 0) := by decide +kernel
theorem mi_310_8 : mI 310 8 = (1, 1, 0, 0, 0) := by decide +kernel
theorem mi_310_9 : mI 310 9 = (10, 0, 1, 0, 0) := by decide +kernel
theorem mi_310_10 : mI 310 10 = (6, 0, 4, 1, 0) := by decide +kernel
theorem mi_310_12 : mI 310 12 = (3, 0, 4, 1, 0) := by decide +kernel
theorem mi_310_14 : mI 310 14 = (14, 33, 2, 47, 0) := by decide +kernel
theorem mi_310_17 : mI 310 17 = (5, 0, 0, 0, 0) := by decide +kernel
theorem mi_310_18 : mI 310 18 = (17, 1235, 61, 11, 29) := by decide +kernel
theorem mi_310_21 : mI 310 21 = (3, 0, 4, 1, 0) := by decide +kernel
theorem mi_310_23 : mI 310 23 = (3, 0, 3, 0, 0) := by decide +kernel
theorem mi_310_24 : mI 310 24 = (5, 0, 0, 0, 0) := by decide +kernel
theorem mi_310_25 : mI 310 25 = (17, 1207, 9, 11, 1) := by decide +kernel
theorem mi_310_28 : mI 310 28 = (1, 0, 0, 0, 0) := by decide +kernel
theorem mi_310_29 : mI 310 29 = (19, 0, 0, 0, 0) := by decide +kernel
theorem mi_310_30 : mI 310 30 = (10, 0, 4, 0, 0) := by decide +kernel
theorem mi_310_31 : mI 310 31 = (20, 0, 0, 0, 0) := by decide +kernel
theorem mi_310_32 : mI 310 32 = (3, 0, 3, 0, 0) := by decide +kernel
theorem mi_310_33 : mI 310 33 = (5, 0, 0, 0, 0) := by decide +kernel
theorem mi_310_34 : mI 310 34 = (17, 1207, 9, 11, 1) := by decide +kernel
theorem mi_310_37 : mI 310 37 = (1, 0, 0, 0, 0) := by decide +kernel
theorem mi_310_38 : mI 310 38 = (19, 0, 0, 0, 0) := by decide +kernel
theorem mi_310_39 : mI 310 39 = (10, 0, 3, 0, 0) := by decide +kernel
theorem mi_310_40 : mI 310 40 = (6, 0, 3, 0, 0) := by decide +kernel
theorem mi_310_41 : mI 310 41 = (9, (-1), 4, 0, 0) := by decide +kernel
theorem mi_310_44 : mI 310 44 = (16, (-32), 0, 12, 0) := by decide +kernel
theorem mi_310_47 : mI 310 47 = (27, 0, 2, 0, 0) := by decide +kernel
theorem mi_323_0 : mI 323 0 = (1, 0, 0, 0, 0) := by decide +kernel
theorem mi_323_1 : mI 323 1 = (6, 0, 2, 0, 0) := by decide +kernel
theorem mi_323_2 : mI 323 2 = (3, 0, 2, 0, 0) := by decide +kernel
theorem mi_323_3 : mI 323 3 = (5, 0, 0, 0, 0) := by decide +kernel
theorem mi_323_4 : mI 323 4 = (3, 0, 1, 0, 0) := by decide +kernel
theorem mi_323_5 : mI 323 5 = (26, 1452, 93, 204, 0) := by decide +kernel
theorem mi_323_8 : mI 323 8 = (15, 34, 3, 42, 0) := by decide +kernel
theorem mi_323_11 : mI 323 11 = (3, 0, 2, 0, 0) := by decide +kernel
theorem mi_323_12 : mI 323 12 = (5, 0, 0, 0, 0) := by decide +kernel
theorem mi_323_13 : mI 323 13 = (17, 1236, 393, 11, 30) := by decide +kernel
theorem mi_323_16 : mI 323 16 = (15, 26, 3, 42, 0) := by decide +kernel
theorem mi_323_19 : mI 323 19 = (5, 0, 0, 0, 0) := by decide +kernel
theorem mi_323_20 : mI 323 20 = (17, 1235, 61, 11, 29) := by decide +kernel
theorem mi_323_23 : mI 323 23 = (3, 0, 2, 0, 0) := by decide +kernel
theorem mi_323_24 : mI 323 24 = (19, 0, 0, 0, 0) := by decide +kernel
theorem mi_323_25 : mI 323 25 = (5, 0, 0, 0, 0) := by decide +kernel
theorem mi_323_26 : mI 323 26 = (3, 0, 1, 0, 0) := by decide +kernel
theorem mi_323_27 : mI 323 27 = (3, 0, 2, 0, 0) := by decide +kernel
theorem mi_323_28 : mI 323 28 = (26, 1456, 290, 205, 0) := by decide +kernel
theorem mi_323_31 : mI 323 31 = (15, 5, 0, 36, 0) := by decide +kernel
theorem mi_323_34 : mI 323 34 = (1, 1, 0, 0, 0) := by decide +kernel
theorem mi_323_35 : mI 323 35 = (27, 0, 0, 0, 0) := by decide +kernel
theorem mi_323_36 : mI 323 36 = (9, 1, 2, 0, 0) := by decide +kernel
theorem mi_323_39 : mI 323 39 = (16, (-37), 0, 2, 0) := by decide +kernel
theorem mi_323_42 : mI 323 42 = (1, 0, 0, 0, 0) := by decide +kernel
theorem mi_323_43 : mI 323 43 = (27, 0, 0, 0, 0) := by decide +kernel
theorem mi_324_0 : mI 324 0 = (1, 0, 0, 0, 0) := by decide +kernel
theorem mi_324_1 : mI 324 1 = (6, 0, 1, 0, 0) := by decide +kernel
theorem mi_324_2 : mI 324 2 = (3, 0, 1, 0, 0) := by decide +kernel
theorem mi_324_3 : mI 324 3 = (5, 0, 0, 0, 0) := by decide +kernel
theorem mi_324_4 : mI 324 4 = (17, 1207, 9, 11, 1) := by decide +kernel
theorem mi_324_7 : mI 324 7 = (1, 3, 0, 0, 0) := by decide +kernel
theorem mi_324_8 : mI 324 8 = (19, 0, 0, 0, 0) := by decide +kernel
theorem mi_324_9 : mI 324 9 = (15, 19, 3, 28, 0) := by decide +kernel
theorem mi_324_12 : mI 324 12 = (5, 0, 0, 0, 0) := by decide +kernel
theorem mi_324_13 : mI 324 13 = (3, 0, 1, 0, 0) := by decide +kernel
theorem mi_324_14 : mI 324 14 = (26, 1877, 439, 323, 0) := by decide +kernel
theorem mi_324_17 : mI 324 17 = (14, 5, 1, 22, 0) := by decide +kernel
theorem mi_324_20 : mI 324 20 = (1, 0, 0, 0, 0) := by decide +kernel
theorem mi_324_21 : mI 324 21 = (27, 0, 0, 0, 0) := by decide +kernel
theorem mi_324_22 : mI 324 22 = (9, 1, 1, 0, 0) := by decide +kernel
theorem mi_324_25 : mI 324 25 = (16, (-23), 0, 2, 0) := by decide +kernel
theorem mi_324_28 : mI 324 28 = (1, 1, 0, 0, 0) := by decide +kernel
theorem mi_324_29 : mI 324 29 = (27, 0, 0, 0, 0) := by decide +kernel
theorem mi_325_0 : mI 325 0 = (5, 0, 0, 0, 0) := by decide +kernel
theorem mi_325_1 : mI 325 1 = (26, 1689, 350, 198, 0) := by decide +kernel
theorem mi_325_4 : mI 325 4 = (14, 15, 0, 19, 0) := by decide +kernel
theorem mi_325_7 : mI 325 7 = (3, 0, 1, 0, 0) := by decide +kernel
theorem mi_325_8 : mI 325 8 = (12, 0, 1, 0, 0) := by decide +kernel
theorem mi_325_9 : mI 325 9 = (2, 1, 0, 0, 0) := by decide +kernel
theorem mi_325_10 : mI 325 10 = (2, 6, 1, 374, 1776) := by decide +kernel
theorem mi_325_13 : mI 325 13 = (26, 1321, 85, 193, 1) := by decide +kernel
theorem mi_325_16 : mI 325 16 = (14, 6, 1, 22, 0) := by decide +kernel
theorem mi_325_19 : mI 325 19 = (1, (-2), 1, 0, 0) := by decide +kernel
theorem mi_325_21 : mI 325 21 = (27, 0, 0, 0, 0) := by decide +kernel
theorem mi_325_22 : mI 325 22 = (1, 0, 0, 0, 0) := by decide +kernel
theorem mi_325_23 : mI 325 23 = (6, 0, 2, 0, 0) := by decide +kernel
theorem mi_325_24 : mI 325 24 = (1, 0, 0, 0, 0) := by decide +kernel
theorem mi_325_25 : mI 325 25 = (6, 0, 3, 0, 0) := by decide +kernel
theorem mi_325_26 : mI 325 26 = (3, 0, 3, 0, 0) := by decide +kernel
theorem mi_325_27 : mI 325 27 = (5, 0, 0, 0, 0) := by decide +kernel
theorem mi_325_28 : mI 325 28 = (3, 0, 1, 0, 0) := by decide +kernel
theorem mi_325_29 : mI 325 29 = (26, 1814, 406, 309, 0) := by decide +kernel
theorem mi_325_32 : mI 325 32 = (15, 30, 3, 62, 0) := by decide +kernel
theorem mi_325_35 : mI 325 35 = (5, 0, 0, 0, 0) := by decide +kernel
theorem mi_325_36 : mI 325 36 = (3, 0, 3, 0, 0) := by decide +kernel
theorem mi_325_37 : mI 325 37 = (3, 0, 1, 0, 0) := by decide +kernel
theorem mi_325_38 : mI 325 38 = (26, 1818, 409, 310, 0) := by decide +kernel
theorem mi_325_41 : mI 325 41 = (3, 0, 2, 0, 0) := by decide +kernel
theorem mi_325_42 : mI 325 42 = (5, 0, 0, 0, 0) := by decide +kernel
theorem mi_325_43 : mI 325 43 = (26, 1873, 442, 324, 0) := by decide +kernel
theorem mi_325_46 : mI 325 46 = (14, 7, 0, 53, 0) := by decide +kernel
theorem mi_325_49 : mI 325 49 = (1, 1, 0, 0, 0) := by decide +kernel
theorem mi_325_50 : mI 325 50 = (16, 4, 0, 54, 0) := by decide +kernel
theorem mi_325_53 : mI 325 53 = (1, 0, 0, 0, 0) := by decide +kernel
theorem mi_325_54 : mI 325 54 = (10, 0, 0, 0, 0) := by decide +kernel
theorem mi_325_55 : mI 325 55 = (6, 0, 2, 0, 0) := by decide +kernel
theorem mi_325_56 : mI 325 56 = (9, 1, 3, 0, 0) := by decide +kernel
theorem mi_325_59 : mI 325 59 = (16, (-33), 0, 26, 0) := by decide +kernel
theorem mi_325_62 : mI 325 62 = (3, 0, 2, 0, 0) := by decide +kernel
theorem mi_325_63 : mI 325 63 = (27, 0, 0, 0, 0) := by decide +kernel
section XWC
theorem allU_f {P : Nat → Bool} {i n : Nat} (hi : i < n) (h : P i = false) : allU P n = false := by
  cases c : allU P n with
  | false => rfl
  | true => exact absurd ((allU_i n).mp c i hi) (by rw [h]; exact Bool.false_ne_true)
theorem exiU_t {P : Nat → Bool} {i n : Nat} (hi : i < n) (h : P i = true) : exiU P n = true := (exiU_i n).mpr ⟨i, hi, h⟩
theorem exiU_f {P : Nat → Bool} {n : Nat} (h : ∀ i, i < n → P i = false) : exiU P n = false := by
  cases c : exiU P n with
  | false => rfl
  | true =>
    obtain ⟨i, hi, k⟩ := (exiU_i n).mp c
    rw [h i hi] at k
    exact absurd k Bool.false_ne_true
/-- how much of folk f's name lies in one of N syllables -/
def szN (G : Nat → Int) (N f : Nat) : Nat := min N (G (6 + 7 * f)).toNat
def syN (G : Nat → Int) (f i : Nat) : Nat := (G (7 + 7 * f + i)).toNat
/-- the first k syllables of what is spelt don't speak against f's name -/
def skB (G : Nat → Int) (N k : Nat) (p : Nat → Nat) (f : Nat) : Bool := allU (fun i => decide (syN G f i = p i)) (min (szN G N f) k)
def hdB (G : Nat → Int) (N k : Nat) (p : Nat → Nat) (f : Nat) : Bool := skB G N k p f && decide (szN G N f ≤ k)
def lfB (G : Nat → Int) (S m N k : Nat) (p : Nat → Nat) (f : Nat) : Int := if (skB G N k p f && !(tkB m (szN G N) (syN G) f)) = true then ((S ^ (N - szN G N f) : Nat) : Int) else 0
def ffX (G : Nat → Int) (S m N k : Nat) (p : Nat → Nat) : Int := if exiU (hdB G N k p) m = true then 0 else ((S ^ (N - k) : Nat) : Int) - smN (lfB G S m N k p) m
/-- the name of N syllables with this code is free -/
def frI (G : Nat → Int) (S m N c : Nat) : Bool := !(exiU (cvB S N (szN G N) (syN G) c) m)
theorem szN_le {G : Nat → Int} {N f : Nat} : szN G N f ≤ N := Nat.min_le_left _ _
theorem ffX_eq {G : Nat → Int} {S m N k : Nat} {p : Nat → Nat} (hS : 0 < S) (m6 : m ≤ 6) (hk : k ≤ N) (hp : ∀ i, i < k → p i < S) (hs : ∀ f, f < m → ∀ i, i < szN G N f → syN G f i < S) : ffX G S m N k p = smN (fun c => if (decide (c / S ^ (N - k) = vlC S p k) && frI G S m N c) = true then 1 else 0) (S ^ N) := by
  have hz : ∀ f, f < m → szN G N f ≤ N := fun f _ => szN_le
  have dv : ∀ c, c < S ^ N → ((∀ i, i < k → dgC S N c i = p i) ↔ c / S ^ (N - k) = vlC S p k) := fun c hc => dgC_k hc k hk hp
  have dc : ∀ f, f < m → ∀ c, c < S ^ N → ((∀ i, i < szN G N f → dgC S N c i = syN G f i) ↔ c / S ^ (N - szN G N f) = vlC S (syN G f) (szN G N f)) := fun f hf c hc => dgC_k hc (szN G N f) (hz f hf) (hs f hf)
  unfold ffX
  by_cases h : exiU (hdB G N k p) m = true
  · rw [if_pos h]
    obtain ⟨f, hf, h2⟩ := (exiU_i m).mp h
    unfold hdB at h2
    rw [Bool.and_eq_true] at h2
    obtain ⟨h3, h4⟩ := h2
    have h4 := of_decide_eq_true h4
    unfold skB at h3
    have h3 := (allU_i _).mp h3
    have e : ∀ c, c < S ^ N → (if (decide (c / S ^ (N - k) = vlC S p k) && frI G S m N c) = true then (1 : Int) else 0) = 0 := fun c hc => by
      rw [if_neg]
      intro z
      rw [Bool.and_eq_true] at z
      have d := (dv c hc).mpr (of_decide_eq_true z.1)
      have cv : cvB S N (szN G N) (syN G) c f = true := decide_eq_true ((dc f hf c hc).mp (fun i hi => (d i (by omega)).trans (of_decide_eq_true (h3 i (by omega))).symm))
      have y := z.2
      unfold frI at y
      rw [exiU_t hf cv] at y
      exact absurd y (by decide)
    rw [smN_cg (b := fun _ => 0) _ e]
    exact (smN_0 _).symm
  · rw [if_neg h]
    have e : ∀ c, c < S ^ N → (if (decide (c / S ^ (N - k) = vlC S p k) && frI G S m N c) = true then (1 : Int) else 0) = (if c / S ^ (N - k) = vlC S p k then 1 else 0) - smN (fun f => if (decide (c / S ^ (N - k) = vlC S p k) && (cvB S N (szN G N) (syN G) c f && !(tkB m (szN G N) (syN G) f))) = true then 1 else 0) m := fun c hc => by
      by_cases v : c / S ^ (N - k) = vlC S p k
      · have o := one_cv (S := S) (N := N) (m := m) (c := c) (sz := szN G N) (s := syN G) m6 hc hz hs
        rw [if_pos v, decide_eq_true v]
        rw [smN_cg (b := fun f => if (cvB S N (szN G N) (syN G) c f && !(tkB m (szN G N) (syN G) f)) = true then 1 else 0) m (fun f _ => by rw [Bool.true_and]), o, Bool.true_and]
        unfold frI
        cases exiU (cvB S N (szN G N) (syN G) c) m <;> rfl
      · rw [if_neg v, decide_eq_false v]
        rw [smN_cg (b := fun _ => 0) m (fun f _ => by rw [Bool.false_and, if_neg Bool.false_ne_true]), smN_0, Bool.false_and, if_neg Bool.false_ne_true]
        all_goals rfl
    have t : ∀ f, f < m → lfB G S m N k p f = smN (fun c => if (decide (c / S ^ (N - k) = vlC S p k) && (cvB S N (szN G N) (syN G) c f && !(tkB m (szN G N) (syN G) f))) = true then 1 else 0) (S ^ N) := fun f hf => by
      have nh : hdB G N k p f = false := by
        cases x : hdB G N k p f with
        | false => rfl
        | true => exact absurd (exiU_t hf x) h
      unfold lfB
      cases tk : tkB m (szN G N) (syN G) f with
      | true =>
        rw [Bool.not_true, Bool.and_false, if_neg Bool.false_ne_true]
        rw [smN_cg (b := fun _ => 0) _ (fun c _ => by rw [Bool.and_false, Bool.and_false, if_neg Bool.false_ne_true])]
        exact (smN_0 _).symm
      | false =>
        rw [Bool.not_false]
        cases sk : skB G N k p f with
        | false =>
          rw [Bool.false_and, if_neg Bool.false_ne_true]
          have ex : ∃ i, i < min (szN G N f) k ∧ syN G f i ≠ p i := by
            apply Classical.byContradiction
            intro z
            have y : skB G N k p f = true := (allU_i _).mpr (fun i hi => decide_eq_true (Classical.byContradiction (fun w => z ⟨i, hi, w⟩)))
            rw [sk] at y
            exact Bool.false_ne_true y
          obtain ⟨i, hi, ne⟩ := ex
          rw [smN_cg (b := fun _ => 0) _ (fun c hc => by
            rw [if_neg]
            intro z
            rw [Bool.and_eq_true, Bool.and_true] at z
            have d := (dv c hc).mpr (of_decide_eq_true z.1)
            have g := (dc f hf c hc).mpr (of_decide_eq_true z.2)
            exact ne ((g i (by omega)).symm.trans (d i (by omega))))]
          exact (smN_0 _).symm
        | true =>
          rw [Bool.and_true, if_pos rfl]
          have ks : k < szN G N f := by
            unfold hdB at nh
            rw [sk, Bool.true_and] at nh
            have := of_decide_eq_false nh
            omega
          unfold skB at sk
          have eq : ∀ i, i < k → syN G f i = p i := fun i hi => of_decide_eq_true ((allU_i _).mp sk i (by omega))
          rw [smN_cg (b := fun c => if c / S ^ (N - szN G N f) = vlC S (syN G f) (szN G N f) then 1 else 0) _ (fun c hc => by
            by_cases v : c / S ^ (N - szN G N f) = vlC S (syN G f) (szN G N f)
            · have cv : cvB S N (szN G N) (syN G) c f = true := decide_eq_true v
              have iv : c / S ^ (N - k) = vlC S p k := (dv c hc).mp (fun i hi => ((dc f hf c hc).mpr v i (by omega)).trans (eq i hi))
              rw [if_pos v, cv, decide_eq_true iv]
              all_goals rfl
            · have cv : cvB S N (szN G N) (syN G) c f = false := decide_eq_false v
              rw [if_neg v, cv, Bool.false_and, Bool.and_false, if_neg Bool.false_ne_true])]
          exact (dgC_n hS (hz f hf) (hs f hf)).symm
    have e2 := (smN_cg _ e).trans ((smN_sub _).trans (congrArg (fun z => smN (fun c => if c / S ^ (N - k) = vlC S p k then 1 else 0) (S ^ N) - z) (smN_swap (g := fun f c => if (decide (c / S ^ (N - k) = vlC S p k) && (cvB S N (szN G N) (syN G) c f && !(tkB m (szN G N) (syN G) f))) = true then 1 else 0) m (S ^ N))))
    rw [smN_cg m t, ← dgC_n hS hk hp]
    exact e2.symm
/-- all codes: nothing is spelt yet -/
theorem ff0_eq {G : Nat → Int} {S m N : Nat} {p : Nat → Nat} (m6 : m ≤ 6) (hN : 1 ≤ N) (hs : ∀ f, f < m → ∀ i, i < szN G N f → syN G f i < S) : ffX G S m N 0 p = smN (fun c => if frI G S m N c = true then 1 else 0) (S ^ N) := by
  by_cases s0 : 0 < S
  · rw [ffX_eq s0 m6 (Nat.zero_le N) (fun i hi => absurd hi (Nat.not_lt_zero i)) hs]
    refine smN_cg _ (fun c hc => ?_)
    rw [decide_eq_true (show c / S ^ (N - 0) = vlC S p 0 by rw [Nat.sub_zero, Nat.div_eq_of_lt hc]; rfl), Bool.true_and]
  · have e : S = 0 := by omega
    rw [e, Nat.zero_pow (n := N) (by omega)]
    show _ = (0 : Int)
    unfold ffX
    by_cases h : exiU (hdB G N 0 p) m = true
    · rw [if_pos h]
    · rw [if_neg h, Nat.sub_zero, Nat.zero_pow (n := N) (by omega)]
      have m0 : m = 0 := by
        apply Classical.byContradiction
        intro z
        refine h (exiU_t (i := 0) (by omega) ?_)
        have z0 : szN G N 0 = 0 := by
          apply Classical.byContradiction
          intro y
          have := hs 0 (by omega) 0 (by omega)
          omega
        unfold hdB skB
        rw [z0]
        rfl
      rw [m0]
      rfl
theorem dgC_lt {S n c i : Nat} (hS : 0 < S) : dgC S n c i < S := Nat.mod_lt _ hS
end XWC
