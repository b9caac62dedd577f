theorem mi_73_0 : mI 73 0 = (5, 0, 0, 0, 0) := by decide +kernel
theorem mi_73_1 : mI 73 1 = (17, 301, 34, 10, 4) := by decide +kernel
theorem mi_73_4 : mI 73 4 = (5, 0, 0, 0, 0) := by decide +kernel
theorem mi_73_5 : mI 73 5 = (17, 299, 24, 10, 2) := by decide +kernel
theorem mi_73_8 : mI 73 8 = (26, 532, 404, 85, 0) := by decide +kernel
theorem mi_73_11 : mI 73 11 = (5, 0, 0, 0, 0) := by decide +kernel
theorem mi_73_12 : mI 73 12 = (17, 302, 41, 10, 5) := by decide +kernel
theorem mi_73_15 : mI 73 15 = (5, 0, 0, 0, 0) := by decide +kernel
theorem mi_73_16 : mI 73 16 = (17, 299, 24, 10, 2) := by decide +kernel
theorem mi_73_19 : mI 73 19 = (5, 0, 0, 0, 0) := by decide +kernel
theorem mi_73_20 : mI 73 20 = (17, 301, 34, 10, 4) := by decide +kernel
theorem mi_73_23 : mI 73 23 = (26, 553, 407, 173, 0) := by decide +kernel
theorem mi_73_26 : mI 73 26 = (27, 0, 2, 0, 0) := by decide +kernel
theorem mi_85_0 : mI 85 0 = (1, 0, 0, 0, 0) := by decide +kernel
theorem mi_85_1 : mI 85 1 = (6, 0, 2, 0, 0) := by decide +kernel
theorem mi_85_2 : mI 85 2 = (1, 0, 0, 0, 0) := by decide +kernel
theorem mi_85_3 : mI 85 3 = (6, 0, 3, 0, 0) := by decide +kernel
theorem mi_85_4 : mI 85 4 = (3, 0, 3, 0, 0) := by decide +kernel
theorem mi_85_5 : mI 85 5 = (5, 0, 1, 0, 0) := by decide +kernel
theorem mi_85_6 : mI 85 6 = (17, 94, 21, 2, 3) := by decide +kernel
theorem mi_85_9 : mI 85 9 = (15, 53, 3, 62, 0) := by decide +kernel
theorem mi_85_12 : mI 85 12 = (1, 0, 0, 0, 0) := by decide +kernel
theorem mi_85_13 : mI 85 13 = (6, 0, 4, 1, 0) := by decide +kernel
theorem mi_85_15 : mI 85 15 = (3, 0, 4, 1, 0) := by decide +kernel
theorem mi_85_17 : mI 85 17 = (5, 0, 1, 0, 0) := by decide +kernel
theorem mi_85_18 : mI 85 18 = (17, 108, 27, 2, 5) := by decide +kernel
theorem mi_85_21 : mI 85 21 = (15, 35, 3, 56, 0) := by decide +kernel
theorem mi_85_24 : mI 85 24 = (5, 0, 1, 0, 0) := by decide +kernel
theorem mi_85_25 : mI 85 25 = (17, 145, 30, 2, 16) := by decide +kernel
theorem mi_85_28 : mI 85 28 = (3, 0, 4, 1, 0) := by decide +kernel
theorem mi_85_30 : mI 85 30 = (26, 536, 33, 147, 1) := by decide +kernel
theorem mi_85_33 : mI 85 33 = (3, 0, 3, 0, 0) := by decide +kernel
theorem mi_85_34 : mI 85 34 = (15, 16, 1, 50, 0) := by decide +kernel
theorem mi_85_37 : mI 85 37 = (5, 0, 0, 0, 0) := by decide +kernel
theorem mi_85_38 : mI 85 38 = (17, 190, 9, 1, 0) := by decide +kernel
theorem mi_85_41 : mI 85 41 = (3, 0, 2, 0, 0) := by decide +kernel
theorem mi_85_42 : mI 85 42 = (3, 0, 4, 1, 0) := by decide +kernel
theorem mi_85_44 : mI 85 44 = (26, 537, 39, 148, 1) := by decide +kernel
theorem mi_85_47 : mI 85 47 = (9, 1, 2, 0, 0) := by decide +kernel
theorem mi_85_50 : mI 85 50 = (9, 1, 4, 0, 0) := by decide +kernel
theorem mi_85_53 : mI 85 53 = (16, (-38), 0, 15, 0) := by decide +kernel
theorem mi_85_56 : mI 85 56 = (9, 1, 3, 0, 0) := by decide +kernel
theorem mi_85_59 : mI 85 59 = (16, (-55), 0, 4, 0) := by decide +kernel
theorem mi_85_62 : mI 85 62 = (1, 0, 0, 0, 0) := by decide +kernel
theorem mi_85_63 : mI 85 63 = (6, 0, 3, 0, 0) := by decide +kernel
theorem mi_85_64 : mI 85 64 = (3, 0, 3, 0, 0) := by decide +kernel
theorem mi_85_65 : mI 85 65 = (5, 0, 1, 0, 0) := by decide +kernel
theorem mi_85_66 : mI 85 66 = (17, 108, 27, 2, 5) := by decide +kernel
theorem mi_85_69 : mI 85 69 = (15, 37, 3, 106, 0) := by decide +kernel
theorem mi_85_72 : mI 85 72 = (5, 0, 0, 0, 0) := by decide +kernel
theorem mi_85_73 : mI 85 73 = (17, 191, 15, 1, 1) := by decide +kernel
theorem mi_85_76 : mI 85 76 = (3, 0, 3, 0, 0) := by decide +kernel
theorem mi_85_77 : mI 85 77 = (5, 0, 1, 0, 0) := by decide +kernel
theorem mi_85_78 : mI 85 78 = (5, 0, 1, 0, 0) := by decide +kernel
theorem mi_85_79 : mI 85 79 = (17, 136, 43, 2, 13) := by decide +kernel
theorem mi_85_82 : mI 85 82 = (3, 0, 3, 0, 0) := by decide +kernel
theorem mi_85_83 : mI 85 83 = (26, 536, 33, 147, 1) := by decide +kernel
theorem mi_85_86 : mI 85 86 = (5, 0, 1, 0, 0) := by decide +kernel
theorem mi_85_87 : mI 85 87 = (17, 145, 30, 2, 16) := by decide +kernel
theorem mi_85_90 : mI 85 90 = (3, 0, 3, 0, 0) := by decide +kernel
theorem mi_85_91 : mI 85 91 = (26, 536, 33, 147, 1) := by decide +kernel
theorem mi_85_94 : mI 85 94 = (26, 538, 46, 86, 1) := by decide +kernel
theorem mi_85_97 : mI 85 97 = (26, 537, 39, 148, 1) := by decide +kernel
theorem mi_85_100 : mI 85 100 = (9, 1, 3, 0, 0) := by decide +kernel
theorem mi_85_103 : mI 85 103 = (16, (-39), 0, 64, 0) := by decide +kernel
theorem mi_85_106 : mI 85 106 = (27, 0, 2, 0, 0) := by decide +kernel
theorem mi_86_0 : mI 86 0 = (1, 0, 0, 0, 0) := by decide +kernel
theorem mi_86_1 : mI 86 1 = (6, 0, 3, 0, 0) := by decide +kernel
theorem mi_86_2 : mI 86 2 = (1, 0, 0, 0, 0) := by decide +kernel
theorem mi_86_3 : mI 86 3 = (6, 0, 4, 1, 0) := by decide +kernel
theorem mi_86_5 : mI 86 5 = (3, 0, 4, 1, 0) := by decide +kernel
theorem mi_86_7 : mI 86 7 = (5, 0, 0, 0, 0) := by decide +kernel
theorem mi_86_8 : mI 86 8 = (17, 104, 50, 2, 4) := by decide +kernel
theorem mi_86_11 : mI 86 11 = (15, 38, 3, 49, 0) := by decide +kernel
theorem mi_86_14 : mI 86 14 = (3, 0, 4, 1, 0) := by decide +kernel
theorem mi_86_16 : mI 86 16 = (3, 0, 1, 0, 0) := by decide +kernel
theorem mi_86_17 : mI 86 17 = (15, 26, 0, 43, 0) := by decide +kernel
theorem mi_86_20 : mI 86 20 = (5, 0, 0, 0, 0) := by decide +kernel
theorem mi_86_21 : mI 86 21 = (3, 0, 4, 1, 0) := by decide +kernel
theorem mi_86_23 : mI 86 23 = (3, 0, 2, 0, 0) := by decide +kernel
theorem mi_86_24 : mI 86 24 = (26, 541, 53, 110, 0) := by decide +kernel
theorem mi_86_27 : mI 86 27 = (5, 0, 0, 0, 0) := by decide +kernel
theorem mi_86_28 : mI 86 28 = (3, 0, 1, 0, 0) := by decide +kernel
theorem mi_86_29 : mI 86 29 = (3, 0, 2, 0, 0) := by decide +kernel
theorem mi_86_30 : mI 86 30 = (26, 541, 53, 110, 0) := by decide +kernel
theorem mi_86_33 : mI 86 33 = (15, 10, 1, 43, 0) := by decide +kernel
theorem mi_86_36 : mI 86 36 = (3, 0, 3, 0, 0) := by decide +kernel
theorem mi_86_37 : mI 86 37 = (1, 1, 0, 0, 0) := by decide +kernel
theorem mi_86_38 : mI 86 38 = (3, 0, 4, 1, 0) := by decide +kernel
theorem mi_86_40 : mI 86 40 = (10, 0, 8, 0, 0) := by decide +kernel
theorem mi_86_41 : mI 86 41 = (10, 0, 6, 0, 0) := by decide +kernel
theorem mi_86_42 : mI 86 42 = (6, 0, 3, 0, 0) := by decide +kernel
theorem mi_86_43 : mI 86 43 = (9, 1, 4, 0, 0) := by decide +kernel
theorem mi_86_46 : mI 86 46 = (16, (-41), 0, 5, 0) := by decide +kernel
theorem mi_86_49 : mI 86 49 = (3, 0, 3, 0, 0) := by decide +kernel
theorem mi_86_50 : mI 86 50 = (27, 0, 0, 0, 0) := by decide +kernel
theorem mi_87_0 : mI 87 0 = (5, 0, 1, 0, 0) := by decide +kernel
theorem mi_87_1 : mI 87 1 = (17, 132, 57, 2, 12) := by decide +kernel
theorem mi_87_4 : mI 87 4 = (5, 0, 0, 0, 0) := by decide +kernel
theorem mi_87_5 : mI 87 5 = (17, 192, 18, 1, 2) := by decide +kernel
theorem mi_87_8 : mI 87 8 = (26, 562, 60, 150, 1) := by decide +kernel
theorem mi_87_11 : mI 87 11 = (1, 0, 0, 0, 0) := by decide +kernel
theorem mi_87_12 : mI 87 12 = (6, 0, 2, 0, 0) := by decide +kernel
theorem mi_87_13 : mI 87 13 = (3, 0, 2, 0, 0) := by decide +kernel
theorem mi_87_14 : mI 87 14 = (5, 0, 1, 0, 0) := by decide +kernel
theorem mi_87_15 : mI 87 15 = (17, 104, 50, 2, 4) := by decide +kernel
theorem mi_87_18 : mI 87 18 = (15, 27, 3, 45, 0) := by decide +kernel
theorem mi_87_21 : mI 87 21 = (5, 0, 0, 0, 0) := by decide +kernel
theorem mi_87_22 : mI 87 22 = (17, 192, 18, 1, 2) := by decide +kernel
theorem mi_87_25 : mI 87 25 = (3, 0, 2, 0, 0) := by decide +kernel
theorem mi_87_26 : mI 87 26 = (1, 6, 1, 0, 0) := by decide +kernel
theorem mi_87_28 : mI 87 28 = (10, 0, 2, 0, 0) := by decide +kernel
theorem mi_87_29 : mI 87 29 = (3, 0, 2, 0, 0) := by decide +kernel
theorem mi_87_30 : mI 87 30 = (10, 0, 0, 0, 0) := by decide +kernel
theorem mi_87_31 : mI 87 31 = (5, 0, 1, 0, 0) := by decide +kernel
theorem mi_87_32 : mI 87 32 = (3, 0, 2, 0, 0) := by decide +kernel
theorem mi_87_33 : mI 87 33 = (26, 563, 64, 108, 0) := by decide +kernel
theorem mi_87_36 : mI 87 36 = (26, 537, 39, 148, 1) := by decide +kernel
theorem mi_87_39 : mI 87 39 = (9, 1, 2, 0, 0) := by decide +kernel
theorem mi_87_42 : mI 87 42 = (16, (-29), 0, 13, 0) := by decide +kernel
theorem mi_87_45 : mI 87 45 = (27, 0, 2, 0, 0) := by decide +kernel
theorem mi_88_0 : mI 88 0 = (5, 0, 0, 0, 0) := by decide +kernel
theorem mi_88_1 : mI 88 1 = (17, 192, 18, 1, 2) := by decide +kernel
theorem mi_88_4 : mI 88 4 = (3, 0, 1, 0, 0) := by decide +kernel
theorem mi_88_5 : mI 88 5 = (1, 6, 1, 0, 0) := by decide +kernel
theorem mi_88_7 : mI 88 7 = (10, 0, 2, 0, 0) := by decide +kernel
theorem mi_88_8 : mI 88 8 = (3, 0, 2, 0, 0) := by decide +kernel
theorem mi_88_9 : mI 88 9 = (10, 0, 0, 0, 0) := by decide +kernel
theorem mi_88_10 : mI 88 10 = (26, 536, 33, 147, 1) := by decide +kernel
theorem mi_88_13 : mI 88 13 = (27, 0, 0, 0, 0) := by decide +kernel
theorem mi_89_0 : mI 89 0 = (5, 0, 0, 0, 0) := by decide +kernel
theorem mi_89_1 : mI 89 1 = (17, 191, 15, 1, 1) := by decide +kernel
theorem mi_89_4 : mI 89 4 = (3, 0, 1, 0, 0) := by decide +kernel
theorem mi_89_5 : mI 89 5 = (26, 536, 33, 147, 1) := by decide +kernel
theorem mi_89_8 : mI 89 8 = (27, 0, 0, 0, 0) := by decide +kernel
theorem mi_90_0 : mI 90 0 = (5, 0, 0, 0, 0) := by decide +kernel
theorem mi_90_1 : mI 90 1 = (17, 190, 9, 1, 0) := by decide +kernel
theorem mi_90_4 : mI 90 4 = (3, 0, 1, 0, 0) := by decide +kernel
theorem mi_90_5 : mI 90 5 = (26, 536, 33, 147, 1) := by decide +kernel
theorem mi_90_8 : mI 90 8 = (27, 0, 0, 0, 0) := by decide +kernel
theorem mi_91_0 : mI 91 0 = (5, 0, 0, 0, 0) := by decide +kernel
theorem mi_91_1 : mI 91 1 = (5, 0, 1, 0, 0) := by decide +kernel
theorem mi_91_2 : mI 91 2 = (17, 136, 43, 2, 13) := by decide +kernel
theorem mi_91_5 : mI 91 5 = (3, 0, 2, 0, 0) := by decide +kernel
theorem mi_91_6 : mI 91 6 = (26, 536, 33, 147, 1) := by decide +kernel
theorem mi_91_9 : mI 91 9 = (5, 0, 1, 0, 0) := by decide +kernel
theorem mi_91_10 : mI 91 10 = (17, 139, 68, 2, 14) := by decide +kernel
theorem mi_91_13 : mI 91 13 = (3, 0, 2, 0, 0) := by decide +kernel
theorem mi_91_14 : mI 91 14 = (26, 536, 33, 147, 1) := by decide +kernel
theorem mi_91_17 : mI 91 17 = (26, 590, 71, 88, 0) := by decide +kernel
theorem mi_91_20 : mI 91 20 = (6, 0, 3, 0, 0) := by decide +kernel
theorem mi_91_21 : mI 91 21 = (3, 0, 3, 0, 0) := by decide +kernel
theorem mi_91_22 : mI 91 22 = (5, 0, 1, 0, 0) := by decide +kernel
theorem mi_91_23 : mI 91 23 = (17, 142, 74, 2, 15) := by decide +kernel
theorem mi_91_26 : mI 91 26 = (3, 0, 2, 0, 0) := by decide +kernel
theorem mi_91_27 : mI 91 27 = (26, 536, 33, 147, 1) := by decide +kernel
theorem mi_91_30 : mI 91 30 = (10, 0, 9, 0, 0) := by decide +kernel
theorem mi_91_31 : mI 91 31 = (1, 1, 0, 0, 0) := by decide +kernel
theorem mi_91_32 : mI 91 32 = (10, 0, 5, 0, 0) := by decide +kernel
theorem mi_91_33 : mI 91 33 = (14, 7, 0, 40, 0) := by decide +kernel
theorem mi_91_36 : mI 91 36 = (1, 1, 0, 0, 0) := by decide +kernel
theorem mi_91_37 : mI 91 37 = (16, 4, 0, 41, 0) := by decide +kernel
theorem mi_91_40 : mI 91 40 = (1, 0, 0, 0, 0) := by decide +kernel
theorem mi_91_41 : mI 91 41 = (27, 0, 0, 0, 0) := by decide +kernel
theorem mi_92_0 : mI 92 0 = (5, 0, 1, 0, 0) := by decide +kernel
theorem mi_92_1 : mI 92 1 = (17, 139, 68, 2, 14) := by decide +kernel
theorem mi_92_4 : mI 92 4 = (3, 0, 2, 0, 0) := by decide +kernel
theorem mi_92_5 : mI 92 5 = (26, 536, 33, 147, 1) := by decide +kernel
theorem mi_92_8 : mI 92 8 = (6, 0, 4, 1, 0) := by decide +kernel
theorem mi_92_10 : mI 92 10 = (1, 1, 0, 0, 0) := by decide +kernel
theorem mi_92_11 : mI 92 11 = (5, 0, 1, 0, 0) := by decide +kernel
theorem mi_92_12 : mI 92 12 = (17, 142, 74, 2, 15) := by decide +kernel
theorem mi_92_15 : mI 92 15 = (3, 0, 2, 0, 0) := by decide +kernel
theorem mi_92_16 : mI 92 16 = (26, 536, 33, 147, 1) := by decide +kernel
theorem mi_92_19 : mI 92 19 = (10, 0, 8, 0, 0) := by decide +kernel
theorem mi_92_20 : mI 92 20 = (6, 0, 5, 1, 0) := by decide +kernel
theorem mi_92_22 : mI 92 22 = (1, 0, 0, 0, 0) := by decide +kernel
theorem mi_92_23 : mI 92 23 = (6, 0, 6, 1, 0) := by decide +kernel
theorem mi_92_25 : mI 92 25 = (1, 0, 0, 0, 0) := by decide +kernel
theorem mi_92_26 : mI 92 26 = (6, 0, 7, 1, 0) := by decide +kernel
theorem mi_92_28 : mI 92 28 = (3, 0, 7, 1, 0) := by decide +kernel
theorem mi_92_30 : mI 92 30 = (5, 0, 1, 0, 0) := by decide +kernel
theorem mi_92_31 : mI 92 31 = (17, 104, 50, 2, 4) := by decide +kernel
theorem mi_92_34 : mI 92 34 = (15, 67, 3, 101, 0) := by decide +kernel
theorem mi_92_37 : mI 92 37 = (3, 0, 3, 0, 0) := by decide +kernel
theorem mi_92_38 : mI 92 38 = (3, 0, 7, 1, 0) := by decide +kernel
theorem mi_92_40 : mI 92 40 = (10, 0, 9, 0, 0) := by decide +kernel
theorem mi_92_41 : mI 92 41 = (1, 1, 0, 0, 0) := by decide +kernel
theorem mi_92_42 : mI 92 42 = (10, 0, 5, 0, 0) := by decide +kernel
theorem mi_92_43 : mI 92 43 = (14, 52, 0, 95, 0) := by decide +kernel
theorem mi_92_46 : mI 92 46 = (5, 0, 0, 0, 0) := by decide +kernel
theorem mi_92_47 : mI 92 47 = (3, 0, 7, 1, 0) := by decide +kernel
theorem mi_92_49 : mI 92 49 = (3, 0, 4, 1, 0) := by decide +kernel
theorem mi_92_51 : mI 92 51 = (26, 590, 71, 88, 0) := by decide +kernel
theorem mi_92_54 : mI 92 54 = (3, 0, 5, 1, 0) := by decide +kernel
theorem mi_92_56 : mI 92 56 = (10, 0, 5, 0, 0) := by decide +kernel
theorem mi_92_57 : mI 92 57 = (14, 38, 1, 95, 0) := by decide +kernel
theorem mi_92_60 : mI 92 60 = (5, 0, 0, 0, 0) := by decide +kernel
theorem mi_92_61 : mI 92 61 = (17, 192, 18, 1, 2) := by decide +kernel
theorem mi_92_64 : mI 92 64 = (3, 0, 7, 1, 0) := by decide +kernel
theorem mi_92_66 : mI 92 66 = (1, 6, 1, 0, 0) := by decide +kernel
theorem mi_92_68 : mI 92 68 = (10, 0, 2, 0, 0) := by decide +kernel
theorem mi_92_69 : mI 92 69 = (3, 0, 4, 1, 0) := by decide +kernel
theorem mi_92_71 : mI 92 71 = (10, 0, 0, 0, 0) := by decide +kernel
theorem mi_92_72 : mI 92 72 = (5, 0, 0, 0, 0) := by decide +kernel
theorem mi_92_73 : mI 92 73 = (3, 0, 7, 1, 0) := by decide +kernel
theorem mi_92_75 : mI 92 75 = (3, 0, 4, 1, 0) := by decide +kernel
theorem mi_92_77 : mI 92 77 = (26, 590, 71, 88, 0) := by decide +kernel
theorem mi_92_80 : mI 92 80 = (3, 0, 5, 1, 0) := by decide +kernel
theorem mi_92_82 : mI 92 82 = (10, 0, 6, 0, 0) := by decide +kernel
theorem mi_92_83 : mI 92 83 = (26, 537, 39, 148, 1) := by decide +kernel
theorem mi_92_86 : mI 92 86 = (3, 0, 6, 1, 0) := by decide +kernel
theorem mi_92_88 : mI 92 88 = (1, 1, 0, 0, 0) := by decide +kernel
theorem mi_92_89 : mI 92 89 = (3, 0, 7, 1, 0) := by decide +kernel
theorem mi_92_91 : mI 92 91 = (10, 0, 8, 0, 0) := by decide +kernel
theorem mi_92_92 : mI 92 92 = (10, 0, 6, 0, 0) := by decide +kernel
theorem mi_92_93 : mI 92 93 = (6, 0, 6, 1, 0) := by decide +kernel
theorem mi_92_95 : mI 92 95 = (9, 1, 7, 0, 0) := by decide +kernel
theorem mi_92_98 : mI 92 98 = (16, (-70), 0, 28, 0) := by decide +kernel
theorem mi_92_101 : mI 92 101 = (3, 0, 6, 1, 0) := by decide +kernel
theorem mi_92_103 : mI 92 103 = (27, 0, 0, 0, 0) := by decide +kernel
theorem mi_108_0 : mI 108 0 = (1, 1, 0, 0, 0) := by decide +kernel
theorem mi_108_1 : mI 108 1 = (5, 0, 0, 0, 0) := by decide +kernel
theorem mi_108_2 : mI 108 2 = (3, 0, 1, 0, 0) := by decide +kernel
theorem mi_108_3 : mI 108 3 = (26, 567, 78, 106, 0) := by decide +kernel
theorem mi_108_6 : mI 108 6 = (10, 0, 8, 0, 0) := by decide +kernel
theorem mi_108_7 : mI 108 7 = (1, 1, 0, 0, 0) := by decide +kernel
theorem mi_108_8 : mI 108 8 = (10, 0, 1, 0, 0) := by decide +kernel
theorem mi_108_9 : mI 108 9 = (27, 0, 0, 0, 0) := by decide +kernel
theorem mi_173_0 : mI 173 0 = (5, 0, 0, 0, 0) := by decide +kernel
theorem mi_173_1 : mI 173 1 = (1, 0, 0, 0, 0) := by decide +kernel
theorem mi_173_2 : mI 173 2 = (18, 211, 21, 8, 3) := by decide +kernel
theorem mi_173_5 : mI 173 5 = (5, 0, 0, 0, 0) := by decide +kernel
theorem mi_173_6 : mI 173 6 = (17, 207, 15, 8, 1) := by decide +kernel
theorem mi_173_9 : mI 173 9 = (1, 0, 0, 0, 0) := by decide +kernel
theorem mi_173_10 : mI 173 10 = (26, 557, 25, 149, 1) := by decide +kernel
theorem mi_173_13 : mI 173 13 = (5, 0, 0, 0, 0) := by decide +kernel
theorem mi_173_14 : mI 173 14 = (17, 209, 18, 8, 2) := by decide +kernel
theorem mi_173_17 : mI 173 17 = (1, 0, 0, 0, 0) := by decide +kernel
theorem mi_173_18 : mI 173 18 = (26, 557, 25, 149, 1) := by decide +kernel
theorem mi_173_21 : mI 173 21 = (5, 0, 2, 0, 0) := by decide +kernel
theorem mi_173_22 : mI 173 22 = (5, 0, 1, 0, 0) := by decide +kernel
theorem mi_173_23 : mI 173 23 = (26, 558, 31, 87, 0) := by decide +kernel
theorem mi_173_26 : mI 173 26 = (5, 0, 0, 0, 0) := by decide +kernel
theorem mi_173_27 : mI 173 27 = (5, 0, 2, 0, 0) := by decide +kernel
theorem mi_173_28 : mI 173 28 = (1, 0, 0, 0, 0) := by decide +kernel
theorem mi_173_29 : mI 173 29 = (26, 568, 37, 175, 0) := by decide +kernel
theorem mi_173_32 : mI 173 32 = (1, 0, 0, 0, 0) := by decide +kernel
theorem mi_173_33 : mI 173 33 = (6, 0, 3, 0, 0) := by decide +kernel
theorem mi_173_34 : mI 173 34 = (1, 0, 0, 0, 0) := by decide +kernel
theorem mi_173_35 : mI 173 35 = (6, 0, 4, 1, 0) := by decide +kernel
theorem mi_173_37 : mI 173 37 = (3, 0, 4, 1, 0) := by decide +kernel
theorem mi_173_39 : mI 173 39 = (5, 0, 1, 0, 0) := by decide +kernel
theorem mi_173_40 : mI 173 40 = (17, 97, 41, 2, 3) := by decide +kernel
theorem mi_173_43 : mI 173 43 = (15, 60, 3, 103, 0) := by decide +kernel
theorem mi_173_46 : mI 173 46 = (3, 0, 3, 0, 0) := by decide +kernel
theorem mi_173_47 : mI 173 47 = (5, 0, 1, 0, 0) := by decide +kernel
theorem mi_173_48 : mI 173 48 = (17, 110, 46, 2, 5) := by decide +kernel
theorem mi_173_51 : mI 173 51 = (15, 37, 3, 88, 0) := by decide +kernel
theorem mi_173_54 : mI 173 54 = (5, 0, 1, 0, 0) := by decide +kernel
theorem mi_173_55 : mI 173 55 = (17, 146, 49, 2, 16) := by decide +kernel
theorem mi_173_58 : mI 173 58 = (5, 0, 2, 0, 0) := by decide +kernel
theorem mi_173_59 : mI 173 59 = (3, 0, 3, 0, 0) := by decide +kernel
theorem mi_173_60 : mI 173 60 = (26, 577, 52, 90, 0) := by decide +kernel
theorem mi_173_63 : mI 173 63 = (26, 581, 56, 147, 1) := by decide +kernel
theorem mi_173_66 : mI 173 66 = (3, 0, 4, 1, 0) := by decide +kernel
theorem mi_173_68 : mI 173 68 = (15, 20, 1, 88, 0) := by decide +kernel
theorem mi_173_71 : mI 173 71 = (5, 0, 0, 0, 0) := by decide +kernel
theorem mi_173_72 : mI 173 72 = (5, 0, 1, 0, 0) := by decide +kernel
theorem mi_173_73 : mI 173 73 = (5, 0, 2, 0, 0) := by decide +kernel
theorem mi_173_74 : mI 173 74 = (5, 0, 2, 0, 0) := by decide +kernel
theorem mi_173_75 : mI 173 75 = (3, 0, 3, 0, 0) := by decide +kernel
theorem mi_173_76 : mI 173 76 = (26, 577, 52, 90, 0) := by decide +kernel
theorem mi_173_79 : mI 173 79 = (26, 582, 60, 174, 0) := by decide +kernel
theorem mi_173_82 : mI 173 82 = (9, 1, 3, 0, 0) := by decide +kernel
theorem mi_173_85 : mI 173 85 = (16, (-39), 0, 46, 0) := by decide +kernel
theorem mi_173_88 : mI 173 88 = (5, 0, 0, 0, 0) := by decide +kernel
theorem mi_173_89 : mI 173 89 = (5, 0, 2, 0, 0) := by decide +kernel
theorem mi_173_90 : mI 173 90 = (3, 0, 4, 1, 0) := by decide +kernel
theorem mi_173_92 : mI 173 92 = (1, 1, 0, 0, 0) := by decide +kernel
theorem mi_173_93 : mI 173 93 = (10, 0, 0, 0, 0) := by decide +kernel
theorem mi_173_94 : mI 173 94 = (26, 568, 37, 175, 0) := by decide +kernel
theorem mi_173_97 : mI 173 97 = (9, 1, 4, 0, 0) := by decide +kernel
theorem mi_173_100 : mI 173 100 = (16, (-63), 0, 37, 0) := by decide +kernel
theorem mi_173_103 : mI 173 103 = (27, 0, 2, 0, 0) := by decide +kernel
theorem mi_174_0 : mI 174 0 = (5, 0, 2, 0, 0) := by decide +kernel
theorem mi_174_1 : mI 174 1 = (5, 0, 1, 0, 0) := by decide +kernel
theorem mi_174_2 : mI 174 2 = (3, 0, 3, 0, 0) := by decide +kernel
theorem mi_174_3 : mI 174 3 = (26, 586, 64, 91, 0) := by decide +kernel
theorem mi_174_6 : mI 174 6 = (14, 47, 0, 53, 0) := by decide +kernel
theorem mi_174_9 : mI 174 9 = (5, 0, 0, 0, 0) := by decide +kernel
theorem mi_174_10 : mI 174 10 = (22, 0, 0, 0, 0) := by decide +kernel
theorem mi_174_11 : mI 174 11 = (17, 211, 21, 8, 3) := by decide +kernel
theorem mi_174_14 : mI 174 14 = (1, 1, 0, 0, 0) := by decide +kernel
theorem mi_174_15 : mI 174 15 = (3, 0, 3, 0, 0) := by decide +kernel
theorem mi_174_16 : mI 174 16 = (10, 0, 8, 0, 0) := by decide +kernel
theorem mi_174_17 : mI 174 17 = (10, 0, 6, 0, 0) := by decide +kernel
theorem mi_174_18 : mI 174 18 = (18, 211, 21, 8, 3) := by decide +kernel
theorem mi_174_21 : mI 174 21 = (5, 0, 0, 0, 0) := by decide +kernel
theorem mi_174_22 : mI 174 22 = (17, 207, 15, 8, 1) := by decide +kernel
theorem mi_174_25 : mI 174 25 = (3, 0, 3, 0, 0) := by decide +kernel
theorem mi_174_26 : mI 174 26 = (5, 0, 2, 0, 0) := by decide +kernel
theorem mi_174_27 : mI 174 27 = (3, 0, 3, 0, 0) := by decide +kernel
theorem mi_174_28 : mI 174 28 = (26, 591, 68, 89, 0) := by decide +kernel
theorem mi_174_31 : mI 174 31 = (26, 576, 71, 148, 1) := by decide +kernel
theorem mi_174_34 : mI 174 34 = (5, 0, 0, 0, 0) := by decide +kernel
theorem mi_174_35 : mI 174 35 = (17, 209, 18, 8, 2) := by decide +kernel
theorem mi_174_38 : mI 174 38 = (3, 0, 3, 0, 0) := by decide +kernel
theorem mi_174_39 : mI 174 39 = (5, 0, 2, 0, 0) := by decide +kernel
theorem mi_174_40 : mI 174 40 = (5, 0, 1, 0, 0) := by decide +kernel
theorem mi_174_41 : mI 174 41 = (3, 0, 3, 0, 0) := by decide +kernel
theorem mi_174_42 : mI 174 42 = (5, 0, 2, 0, 0) := by decide +kernel
theorem mi_174_43 : mI 174 43 = (3, 0, 3, 0, 0) := by decide +kernel
theorem mi_174_44 : mI 174 44 = (26, 591, 68, 89, 0) := by decide +kernel
theorem mi_174_47 : mI 174 47 = (26, 595, 75, 92, 0) := by decide +kernel
theorem mi_174_50 : mI 174 50 = (26, 576, 71, 148, 1) := by decide +kernel
theorem mi_174_53 : mI 174 53 = (27, 0, 2, 0, 0) := by decide +kernel
theorem mi_175_0 : mI 175 0 = (1, 0, 0, 0, 0) := by decide +kernel
theorem mi_175_1 : mI 175 1 = (6, 0, 3, 0, 0) := by decide +kernel
theorem mi_175_2 : mI 175 2 = (3, 0, 3, 0, 0) := by decide +kernel
theorem mi_175_3 : mI 175 3 = (1, 6, 1, 0, 0) := by decide +kernel
theorem mi_175_5 : mI 175 5 = (15, 51, 3, 56, 0) := by decide +kernel
theorem mi_175_8 : mI 175 8 = (1, 0, 0, 0, 0) := by decide +kernel
theorem mi_175_9 : mI 175 9 = (6, 0, 4, 1, 0) := by decide +kernel
theorem mi_175_11 : mI 175 11 = (3, 0, 4, 1, 0) := by decide +kernel
theorem mi_175_13 : mI 175 13 = (1, 6, 1, 0, 0) := by decide +kernel
theorem mi_175_15 : mI 175 15 = (15, 35, 3, 50, 0) := by decide +kernel
theorem mi_175_18 : mI 175 18 = (5, 0, 0, 0, 0) := by decide +kernel
theorem mi_175_19 : mI 175 19 = (17, 206, 9, 8, 0) := by decide +kernel
theorem mi_175_22 : mI 175 22 = (3, 0, 2, 0, 0) := by decide +kernel
theorem mi_175_23 : mI 175 23 = (1, 36, 1, 0, 0) := by decide +kernel
theorem mi_175_25 : mI 175 25 = (10, 0, 2, 0, 0) := by decide +kernel
theorem mi_175_26 : mI 175 26 = (3, 0, 3, 0, 0) := by decide +kernel
theorem mi_175_27 : mI 175 27 = (1, 6, 1, 0, 0) := by decide +kernel
theorem mi_175_29 : mI 175 29 = (10, 0, 2, 0, 0) := by decide +kernel
theorem mi_175_30 : mI 175 30 = (10, 0, 0, 0, 0) := by decide +kernel
theorem mi_175_31 : mI 175 31 = (3, 0, 4, 1, 0) := by decide +kernel
theorem mi_175_33 : mI 175 33 = (10, 0, 0, 0, 0) := by decide +kernel
theorem mi_175_34 : mI 175 34 = (5, 0, 1, 0, 0) := by decide +kernel
theorem mi_175_35 : mI 175 35 = (3, 0, 3, 0, 0) := by decide +kernel
theorem mi_175_36 : mI 175 36 = (3, 0, 4, 1, 0) := by decide +kernel
theorem mi_175_38 : mI 175 38 = (26, 572, 79, 88, 0) := by decide +kernel
theorem mi_175_41 : mI 175 41 = (26, 576, 71, 148, 1) := by decide +kernel
theorem mi_175_44 : mI 175 44 = (9, 1, 4, 0, 0) := by decide +kernel
theorem mi_175_47 : mI 175 47 = (16, (-36), 0, 11, 0) := by decide +kernel
theorem mi_175_50 : mI 175 50 = (9, 1, 3, 0, 0) := by decide +kernel
theorem mi_175_53 : mI 175 53 = (16, (-51), 0, 2, 0) := by decide +kernel
theorem mi_175_56 : mI 175 56 = (27, 0, 2, 0, 0) := by decide +kernel
section XSE
variable {l : Launch} {D : va_G} {tys : List (ClassId × FieldType)} {A : Nat → Prop} {ad : Nat → Nat} {ws : va_W}
theorem g28o : gO 28 1 3 := ⟨_, rfl⟩
theorem g32o : gO 32 8 4 := ⟨_, rfl⟩
theorem g28r0 : gOr 28 1 3 0 29 := ⟨_, rfl, by decide +kernel⟩
theorem g28r1 : gOr 28 1 3 1 30 := ⟨_, rfl, by decide +kernel⟩
theorem g28r2 : gOr 28 1 3 2 31 := ⟨_, rfl, by decide +kernel⟩
theorem g32r0 : gOr 32 8 4 0 33 := ⟨_, rfl, by decide +kernel⟩
theorem g32r1 : gOr 32 8 4 1 34 := ⟨_, rfl, by decide +kernel⟩
theorem g32r2 : gOr 32 8 4 2 35 := ⟨_, rfl, by decide +kernel⟩
theorem g32f3 : gOf 32 8 4 3 (-2147483648) 2147483647 := ⟨_, rfl, by decide +kernel⟩
theorem a29 : gA 29 12 (-2147483648) 2147483647 := gA_of rfl
theorem a30 : gA 30 12 (-2147483648) 2147483647 := gA_of rfl
theorem a31 : gA 31 36 (-2147483648) 2147483647 := gA_of rfl
theorem a33 : gA 33 900 (-2147483648) 2147483647 := gA_of rfl
theorem a34 : gA 34 12 (-2147483648) 2147483647 := gA_of rfl
theorem a35 : gA 35 12 (-2147483648) 2147483647 := gA_of rfl
theorem atk_ct {c n j : Nat} {lo hi : Int} {v : Int32} (hg : gA c n lo hi) (hG : GOK ad tys GG ws) (hn : n ≤ 100000) (hj : j < n) (h : rd ws c j = some (.int v)) : CT l D tys A 147 0 0 0 [.ref (ad c), .int (Int32.ofInt (j : Int))] ws (fun r w => w = ws ∧ r = some (.int v)) :=
  CT_post (atx_ct hg hG hn) (fun r w q => by
    obtain ⟨e, u, e2, k⟩ := q
    refine ⟨e, ?_⟩
    have z := k j hj rfl
    rw [h] at z
    rw [e2, z])
theorem putk_ct {c n j : Nat} {v : Int32} (hg : gA c n (-2147483648) 2147483647) (hG : GOK ad tys GG ws) (hn : n ≤ 100000) (hj : j < n) : CT l D tys A 148 0 0 0 [.ref (ad c), .int (Int32.ofInt (j : Int)), .int v] ws (fun r w => r = none ∧ GOK ad tys GG w ∧ Upd1 ws w c j (.int v)) :=
  CT_post (putx_ct hg hG hn (i32b _).1 (i32b _).2) (fun r w q => ⟨q.1, q.2.1, q.2.2.2 j hj rfl⟩)
theorem say_rd {G : Nat → Int} {w : va_W} (hX : HX 4 G w) {k r : Nat} (hk : k < 12) (hr : r < 4) : rd w (12 + r) k = some (.int (Int32.ofInt (G (246 + 4 * k + r)))) := by
  obtain ⟨a, b, c⟩ := say_hy hk hr
  rw [b]
  have q := hX _ a
  rw [← c] at q
  exact q
/-- whose sayings are by folk that are there, at hours that are there -/
noncomputable def WF (G : Nat → Int) : Prop := ∀ s : Nat, (s : Int) < G 4 → G (246 + 4 * s) < G 3 ∧ G (246 + 4 * s + 3) < G 2
noncomputable def othP (G : Nat → Int) (f h o : Nat) : Bool := !(Nat.beq o f) && decide (G (102 + (24 * o + h)) = G (102 + (24 * f + h)))
theorem orI_s1 {P : Nat → Bool} {o : Nat} (h : P o = true) : orI P (o + 1) = bitO (orI P o) (o : Int) := by
  show (if P o = true then bitO (orI P o) (o : Int) else orI P o) = _
  rw [if_pos h]
theorem orI_s0 {P : Nat → Bool} {o : Nat} (h : P o = false) : orI P (o + 1) = orI P o := by
  show (if P o = true then bitO (orI P o) (o : Int) else orI P o) = _
  rw [if_neg (by rw [h]; exact Bool.false_ne_true)]
theorem othP_f {G : Nat → Int} {f h : Nat} : othP G f h f = false := by
  unfold othP
  rw [Nat.beq_refl]
  rfl
theorem othP_n {G : Nat → Int} {f h o : Nat} (n : o ≠ f) : othP G f h o = decide (G (102 + (24 * o + h)) = G (102 + (24 * f + h))) := by
  unfold othP
  rw [show Nat.beq o f = false from Bool.eq_false_iff.mpr (fun e => n (Nat.eq_of_beq_eq_true e))]
  rfl
theorem ow_5 {G : Nat → Int} (hG : GOK ad tys GG ws) (hX : HX 4 G ws) (hB : HB G) {f h : Nat} {post : Option Value → va_W → Prop} (hf : (f : Int) < G 3) (hh : (h : Int) < G 2) : ∀ (m o : Nat), ((o + m : Nat) : Int) = G 3 → post (some (.int (Int32.ofInt (orI (othP G f h) (G 3).toNat)))) ws → V l D tys A 86 2 0 0 post 0 0 5 [(0, .ref (ad 4)), (1, .int (Int32.ofInt ((f : Int)))), (2, .int (Int32.ofInt ((h : Int)))), (3, .int (Int32.ofInt (orI (othP G f h) o))), (4, .int (Int32.ofInt ((o : Int))))] [] ws
  | 0, o, hm, kk => by
    have b2 := hB.b2
    have b3 := hB.b3
    refine V_iload (v := Int32.ofInt ((o : Int))) mi_86_5 (by simp [stL, lv_args, Value.category]) ?_
    refine V_aload (v := ad 4) mi_86_7 (by simp [stL, lv_args, Value.category]) ?_
    refine V_gO mi_86_8 g4o hG (show rd _ 4 4 = some (.int (Int32.ofInt (G 3))) from hx0 hX (i := 4) (by omega)) ?_
    refine V_cge mi_86_11 ⟨by omega, by omega⟩ ⟨by omega, by omega⟩ (fun q => ?_) (fun q => ?_)
    · have e : o = (G 3).toNat := by omega
      rw [← e] at kk
      refine V_iload (v := Int32.ofInt (orI (othP G f h) o)) mi_86_49 (by simp [stL, lv_args, Value.category]) ?_
      exact V_retI mi_86_50 (fun h => absurd h (by decide +kernel)) kk
    · exact absurd q (by omega)
  | m + 1, o, hm, kk => by
    have b2 := hB.b2
    have b3 := hB.b3
    refine V_iload (v := Int32.ofInt ((o : Int))) mi_86_5 (by simp [stL, lv_args, Value.category]) ?_
    refine V_aload (v := ad 4) mi_86_7 (by simp [stL, lv_args, Value.category]) ?_
    refine V_gO mi_86_8 g4o hG (show rd _ 4 4 = some (.int (Int32.ofInt (G 3))) from hx0 hX (i := 4) (by omega)) ?_
    refine V_cge mi_86_11 ⟨by omega, by omega⟩ ⟨by omega, by omega⟩ (fun q => ?_) (fun q => ?_)
    · exact absurd q (by omega)
    · refine V_iload (v := Int32.ofInt ((o : Int))) mi_86_14 (by simp [stL, lv_args, Value.category]) ?_
      refine V_iload (v := Int32.ofInt ((f : Int))) mi_86_16 (by simp [stL, lv_args, Value.category]) ?_
      refine V_ceq mi_86_17 ⟨by omega, by omega⟩ ⟨by omega, by omega⟩ (fun q2 => ?_) (fun q2 => ?_)
      · have z : orI (othP G f h) (o + 1) = orI (othP G f h) o := orI_s0 (by rw [show o = f by omega]; exact othP_f)
        rw [← z]
        refine V_iinc (v := Int32.ofInt ((o : Int))) mi_86_43 (by simp [stL, lv_args, Value.category]) ?_
        rw [ia2]
        refine V_goto mi_86_46 ?_
        refine V_sub (lv' := [(0, .ref (ad 4)), (1, .int (Int32.ofInt ((f : Int)))), (2, .int (Int32.ofInt ((h : Int)))), (3, .int (Int32.ofInt (orI (othP G f h) (o + 1)))), (4, .int (Int32.ofInt (((o + 1 : Nat) : Int))))]) (fun q hq => ?_) ?_
        · simp only [List.mem_cons, List.not_mem_nil, or_false] at hq
          rcases hq with rfl | rfl | rfl | rfl | rfl <;> simp [stL, lv_args, Value.category]
        exact ow_5 hG hX hB hf hh m (o + 1) (by omega) kk
      · have bo := hB.bp (24 * o + h) (by omega)
        have bf := hB.bp (24 * f + h) (by omega)
        have hn : o ≠ f := by omega
        refine V_aload (v := ad 4) mi_86_20 (by simp [stL, lv_args, Value.category]) ?_
        refine V_iload (v := Int32.ofInt ((o : Int))) mi_86_21 (by simp [stL, lv_args, Value.category]) ?_
        refine V_iload (v := Int32.ofInt ((h : Int))) mi_86_23 (by simp [stL, lv_args, Value.category]) ?_
        refine V_cO (As := [.int (Int32.ofInt ((o : Int))), .int (Int32.ofInt ((h : Int)))]) (st := []) mi_86_24 (by omega) (by decide +kernel) (by decide +kernel) (by omega) g4o hG (hpl_ct (f := o) (h := h) hG hX hB (by omega) hh) (by omega) (show 2 = mN 110 by decide +kernel) (by simp [Value.category]) ?_
        rintro r w1 ⟨e1, rfl⟩
        rw [e1]
        refine V_aload (v := ad 4) mi_86_27 (by simp [stL, lv_args, Value.category]) ?_
        refine V_iload (v := Int32.ofInt ((f : Int))) mi_86_28 (by simp [stL, lv_args, Value.category]) ?_
        refine V_iload (v := Int32.ofInt ((h : Int))) mi_86_29 (by simp [stL, lv_args, Value.category]) ?_
        refine V_cO (As := [.int (Int32.ofInt ((f : Int))), .int (Int32.ofInt ((h : Int)))]) (st := [.int (Int32.ofInt (G (102 + (24 * o + h))))]) mi_86_30 (by omega) (by decide +kernel) (by decide +kernel) (by omega) g4o hG (hpl_ct (f := f) (h := h) hG hX hB hf hh) (by omega) (show 2 = mN 110 by decide +kernel) (by simp [Value.category]) ?_
        rintro r w1 ⟨e1, rfl⟩
        rw [e1]
        refine V_cne mi_86_33 ⟨by omega, by omega⟩ ⟨by omega, by omega⟩ (fun q3 => ?_) (fun q3 => ?_)
        · have z : orI (othP G f h) (o + 1) = orI (othP G f h) o := orI_s0 (by rw [othP_n hn]; exact decide_eq_false q3)
          rw [← z]
          refine V_iinc (v := Int32.ofInt ((o : Int))) mi_86_43 (by simp [stL, lv_args, Value.category]) ?_
          rw [ia2]
          refine V_goto mi_86_46 ?_
          refine V_sub (lv' := [(0, .ref (ad 4)), (1, .int (Int32.ofInt ((f : Int)))), (2, .int (Int32.ofInt ((h : Int)))), (3, .int (Int32.ofInt (orI (othP G f h) (o + 1)))), (4, .int (Int32.ofInt (((o + 1 : Nat) : Int))))]) (fun q hq => ?_) ?_
          · simp only [List.mem_cons, List.not_mem_nil, or_false] at hq
            rcases hq with rfl | rfl | rfl | rfl | rfl <;> simp [stL, lv_args, Value.category]
          exact ow_5 hG hX hB hf hh m (o + 1) (by omega) kk
        · refine V_iload (v := Int32.ofInt (orI (othP G f h) o)) mi_86_36 (by simp [stL, lv_args, Value.category]) ?_
          refine V_ipush mi_86_37 ?_
          refine V_iload (v := Int32.ofInt ((o : Int))) mi_86_38 (by simp [stL, lv_args, Value.category]) ?_
          refine V_ibin mi_86_40 (by omega) ?_
          refine V_ibin mi_86_41 (by omega) ?_
          rw [bitO_i, ← orI_s1 (P := othP G f h) (by rw [othP_n hn]; exact decide_eq_true q3)]
          refine V_istore mi_86_42 ?_
          refine V_iinc (v := Int32.ofInt ((o : Int))) mi_86_43 (by simp [stL, lv_args, Value.category]) ?_
          rw [ia2]
          refine V_goto mi_86_46 ?_
          refine V_sub (lv' := [(0, .ref (ad 4)), (1, .int (Int32.ofInt ((f : Int)))), (2, .int (Int32.ofInt ((h : Int)))), (3, .int (Int32.ofInt (orI (othP G f h) (o + 1)))), (4, .int (Int32.ofInt (((o + 1 : Nat) : Int))))]) (fun q hq => ?_) ?_
          · simp only [List.mem_cons, List.not_mem_nil, or_false] at hq
            rcases hq with rfl | rfl | rfl | rfl | rfl <;> simp [stL, lv_args, Value.category]
          exact ow_5 hG hX hB hf hh m (o + 1) (by omega) kk
theorem ow_ct {G : Nat → Int} (hG : GOK ad tys GG ws) (hX : HX 4 G ws) (hB : HB G) {f h : Nat} (hf : (f : Int) < G 3) (hh : (h : Int) < G 2) : CT l D tys A 86 2 0 0 [.ref (ad 4), .int (Int32.ofInt ((f : Int))), .int (Int32.ofInt ((h : Int)))] ws (fun r w => w = ws ∧ r = some (.int (Int32.ofInt (orI (othP G f h) (G 3).toNat)))) := by
  refine CT_of_V (by omega) (show (3 : Nat) ≤ mML 86 by decide +kernel) ?_
  refine V_ipush mi_86_0 ?_
  refine V_istore mi_86_1 ?_
  refine V_ipush mi_86_2 ?_
  refine V_istore mi_86_3 ?_
  refine V_sub (lv' := [(0, .ref (ad 4)), (1, .int (Int32.ofInt ((f : Int)))), (2, .int (Int32.ofInt ((h : Int)))), (3, .int (Int32.ofInt (0))), (4, .int (Int32.ofInt (((0 : Nat) : Int))))]) (fun q hq => ?_) ?_
  · simp only [List.mem_cons, List.not_mem_nil, or_false] at hq
    rcases hq with rfl | rfl | rfl | rfl | rfl <;> simp [stL, lv_args, Value.category]
  have b3 := hB.b3
  exact ow_5 hG hX hB hf hh (G 3).toNat 0 (by omega) ⟨rfl, rfl⟩
/-- how many of the first s sayings are in hour h -/
noncomputable def cntS (G : Nat → Int) (h : Nat) : Nat → Nat
  | 0 => 0
  | s + 1 => cntS G h s + (if sWhn G s = h then 1 else 0)
/-- how many of the first n are ahead of hour h -/
noncomputable def cntH (G : Nat → Int) (n : Nat) : Nat → Nat
  | 0 => 0
  | h + 1 => cntH G n h + cntS G h n
theorem cntS_le {G : Nat → Int} {h s : Nat} : ∀ t : Nat, s ≤ t → cntS G h s ≤ cntS G h t
  | 0, e => by rw [show s = 0 by omega]; exact Nat.le_refl _
  | t + 1, e => by
    by_cases q : s = t + 1
    · rw [q]; exact Nat.le_refl _
    · exact Nat.le_trans (cntS_le t (by omega)) (Nat.le_add_right _ _)
theorem cntH_le {G : Nat → Int} {n h : Nat} : ∀ t : Nat, h ≤ t → cntH G n h ≤ cntH G n t
  | 0, e => by rw [show h = 0 by omega]; exact Nat.le_refl _
  | t + 1, e => by
    by_cases q : h = t + 1
    · rw [q]; exact Nat.le_refl _
    · exact Nat.le_trans (cntH_le t (by omega)) (Nat.le_add_right _ _)
theorem cntS_hit {G : Nat → Int} {h s : Nat} (e : sWhn G s = h) : cntS G h (s + 1) = cntS G h s + 1 := by
  show cntS G h s + (if sWhn G s = h then 1 else 0) = _
  rw [if_pos e]
theorem cntS_no {G : Nat → Int} {h s : Nat} (e : sWhn G s ≠ h) : cntS G h (s + 1) = cntS G h s := by
  show cntS G h s + (if sWhn G s = h then 1 else 0) = _
  rw [if_neg e, Nat.add_zero]
theorem cntH_z {G : Nat → Int} : ∀ h : Nat, cntH G 0 h = 0
  | 0 => rfl
  | h + 1 => by
    show cntH G 0 h + 0 = 0
    rw [cntH_z h]
theorem cntH_s {G : Nat → Int} {s : Nat} : ∀ h : Nat, cntH G (s + 1) h = cntH G s h + (if sWhn G s < h then 1 else 0)
  | 0 => by rw [if_neg (by omega)]; rfl
  | h + 1 => by
    show cntH G (s + 1) h + cntS G h (s + 1) = cntH G s h + cntS G h s + _
    rw [cntH_s h]
    by_cases e : sWhn G s = h
    · rw [cntS_hit e, if_neg (by omega), if_pos (by omega)]
      omega
    · rw [cntS_no e]
      by_cases q : sWhn G s < h
      · rw [if_pos q, if_pos (by omega)]
        omega
      · rw [if_neg q, if_neg (by omega)]
        omega
theorem cntH_all {G : Nat → Int} {H : Nat} : ∀ n : Nat, (∀ s, s < n → sWhn G s < H) → cntH G n H = n
  | 0, _ => cntH_z H
  | n + 1, w => by
    rw [cntH_s, cntH_all n (fun s hs => w s (by omega)), if_pos (w n (by omega))]
/-- where a saying stands in the order -/
noncomputable def pos (G : Nat → Int) (n s : Nat) : Nat := cntH G n (sWhn G s) + cntS G (sWhn G s) s
theorem pos_h {G : Nat → Int} {n s h : Nat} (hs : s < n) (e : sWhn G s < h) : pos G n s < cntH G n h := by
  have a := cntS_le (G := G) (h := sWhn G s) (s := s + 1) n (by omega)
  rw [cntS_hit rfl] at a
  have b := cntH_le (G := G) (n := n) (h := sWhn G s + 1) h (by omega)
  have c : cntH G n (sWhn G s + 1) = cntH G n (sWhn G s) + cntS G (sWhn G s) n := rfl
  unfold pos
  omega
theorem pos_s {G : Nat → Int} {n s t : Nat} (e : sWhn G s = sWhn G t) (hs : s < t) : pos G n s < pos G n t := by
  have a := cntS_le (G := G) (h := sWhn G s) (s := s + 1) t (by omega)
  rw [cntS_hit rfl] at a
  unfold pos
  rw [← e]
  omega
theorem pos_n {G : Nat → Int} {n H s : Nat} (w : ∀ s, s < n → sWhn G s < H) (hs : s < n) : pos G n s < n := by
  have a := pos_h hs (w s hs)
  rw [cntH_all n w] at a
  exact a
theorem cntS_ex {G : Nat → Int} {h : Nat} : ∀ n : Nat, 0 < cntS G h n → ∃ s, s < n ∧ sWhn G s = h ∧ cntS G h s = 0
  | 0, q => absurd q (Nat.lt_irrefl _)
  | n + 1, q => by
    by_cases z : 0 < cntS G h n
    · obtain ⟨s, a, b, c⟩ := cntS_ex n z
      exact ⟨s, by omega, b, c⟩
    · by_cases e : sWhn G n = h
      · exact ⟨n, by omega, e, by omega⟩
      · rw [cntS_no e] at q
        exact absurd q z
/-- what comes behind hour h is of a later hour -/
theorem pos_ex {G : Nat → Int} {n h : Nat} : ∀ H : Nat, h ≤ H → cntH G n h < cntH G n H → ∃ s, s < n ∧ h ≤ sWhn G s ∧ pos G n s = cntH G n h
  | 0, e, q => by rw [show h = 0 by omega] at q; exact absurd q (Nat.lt_irrefl _)
  | H + 1, e, q => by
    by_cases z : h = H + 1
    · rw [z] at q; exact absurd q (Nat.lt_irrefl _)
    · by_cases y : cntH G n h < cntH G n H
      · exact pos_ex H (by omega) y
      · have c : cntH G n (H + 1) = cntH G n H + cntS G H n := rfl
        have d := cntH_le (G := G) (n := n) (h := h) H (by omega)
        obtain ⟨s, s1, s2, s3⟩ := cntS_ex (G := G) (h := H) n (by omega)
        refine ⟨s, s1, by omega, ?_⟩
        unfold pos
        rw [s2, s3]
        omega
noncomputable def ORD (G : Nat → Int) (n : Nat) (w : va_W) : Prop := ∀ s, s < n → rd w 29 (pos G n s) = some (.int (Int32.ofInt (s : Int)))
noncomputable def PRS (G : Nat → Int) (n : Nat) (w : va_W) : Prop := ∀ s, s < n → rd w 30 s = some (.int (Int32.ofInt (orI (preP G s) (G 3).toNat)))
noncomputable def ORp (G : Nat → Int) (n h s0 : Nat) (w : va_W) : Prop := ∀ s, s < n → (sWhn G s < h ∨ (sWhn G s = h ∧ s < s0)) → rd w 29 (pos G n s) = some (.int (Int32.ofInt (s : Int)))
theorem WF_n {G : Nat → Int} (hB : HB G) (wf : WF G) : ∀ s, s < (G 4).toNat → sWhn G s < (G 2).toNat := fun s hs => by
  have b4 := hB.b4
  obtain ⟨-, -, -, -, g3⟩ := say_b hB (s := s) (by omega)
  have q := (wf s (by omega)).2
  omega
end XSE
section XSF
variable {l : Launch} {D : va_G} {tys : List (ClassId × FieldType)} {A : Nat → Prop} {ad : Nat → Nat} {ws : va_W}
theorem V_rne {k pc d y z : Nat} {a : Int} {post : Option Value → va_W → Prop} {lv : List (Nat × Value)} {st : List Value} {u : Int32} (hi : mI k pc = (14, a, 1, y, z)) (kt : u ≠ 0 → V l D tys A k d 0 0 post 0 0 y lv st ws) (kf : u = 0 → V l D tys A k d 0 0 post 0 0 (pc + 3) lv st ws) : V l D tys A k d 0 0 post 0 0 pc lv (.int u :: st) ws := by
  have q := V_zne (u := u.toInt) hi (i32b u) (fun h => kt (fun e => h (by rw [e]; rfl))) (fun h => kf (Int32.toInt_inj.mp (h.trans rfl)))
  rw [Int32.ofInt_toInt] at q
  exact q
theorem pl_15 {G : Nat → Int} {S : Nat} {w0 : va_W} {post : Option Value → va_W → Prop} {h : Nat} (hB : HB G) (hX0 : HX 4 G w0) (hS : (S : Int) = G 4) (hw : ∀ s, s < S → sWhn G s < (G 2).toNat) : ∀ (m s : Nat) (w : va_W), s + m = S → GOK ad tys GG w → ORp G S h s w → (∀ c j, c ≠ 29 → rd w c j = rd w0 c j) → (∀ w' : va_W, GOK ad tys GG w' → ORp G S (h + 1) 0 w' → (∀ c j, c ≠ 29 → rd w' c j = rd w0 c j) → V l D tys A 85 3 0 0 post 0 0 56 [(0, .ref (ad 28)), (1, .ref (ad 4)), (2, .int (Int32.ofInt (((cntH G S (h + 1) : Nat) : Int)))), (3, .int (Int32.ofInt ((h : Int))))] [] w') → (h : Int) < G 2 → V l D tys A 85 3 0 0 post 0 0 15 [(0, .ref (ad 28)), (1, .ref (ad 4)), (2, .int (Int32.ofInt (((cntH G S h + cntS G h s : Nat) : Int)))), (3, .int (Int32.ofInt ((h : Int)))), (4, .int (Int32.ofInt ((s : Int))))] [] w
  | 0, s, w, hm, hG, hR, ho, kk, hh => by
    have hX : HX 4 G w := HX_keep hX0 (fun c' i h1 h2 => ho _ _ (by omega))
    have b4 := hB.b4
    have b2 := hB.b2
    refine V_iload (v := Int32.ofInt ((s : Int))) mi_85_15 (by simp [stL, lv_args, Value.category]) ?_
    refine V_aload (v := ad 4) mi_85_17 (by simp [stL, lv_args, Value.category]) ?_
    refine V_gO mi_85_18 g4o hG (show rd _ 4 5 = some (.int (Int32.ofInt (G 4))) from hx0 hX (i := 5) (by omega)) ?_
    refine V_cge mi_85_21 ⟨by omega, by omega⟩ ⟨by omega, by omega⟩ (fun q => ?_) (fun q => ?_)
    · have e : s = S := by omega
      refine V_sub (lv' := [(0, .ref (ad 28)), (1, .ref (ad 4)), (2, .int (Int32.ofInt (((cntH G S h + cntS G h s : Nat) : Int)))), (3, .int (Int32.ofInt ((h : Int))))]) (fun q hq => ?_) ?_
      · simp only [List.mem_cons, List.not_mem_nil, or_false] at hq
        rcases hq with rfl | rfl | rfl | rfl <;> simp [stL, lv_args, Value.category]
      · rw [e] at hR ⊢
        exact kk w hG (fun t ht q => hR t ht (by omega)) ho
    · exact absurd q (by omega)
  | m + 1, s, w, hm, hG, hR, ho, kk, hh => by
    have hX : HX 4 G w := HX_keep hX0 (fun c' i h1 h2 => ho _ _ (by omega))
    have b4 := hB.b4
    have b2 := hB.b2
    refine V_iload (v := Int32.ofInt ((s : Int))) mi_85_15 (by simp [stL, lv_args, Value.category]) ?_
    refine V_aload (v := ad 4) mi_85_17 (by simp [stL, lv_args, Value.category]) ?_
    refine V_gO mi_85_18 g4o hG (show rd _ 4 5 = some (.int (Int32.ofInt (G 4))) from hx0 hX (i := 5) (by omega)) ?_
    refine V_cge mi_85_21 ⟨by omega, by omega⟩ ⟨by omega, by omega⟩ (fun q => ?_) (fun q => ?_)
    · exact absurd q (by omega)
    · obtain ⟨⟨w6, o6, i6, n24⟩, g0, g1, g2, g3⟩ := say_b hB (s := s) (by omega)
      have hs : s < S := by omega
      refine V_aload (v := ad 4) mi_85_24 (by simp [stL, lv_args, Value.category]) ?_
      refine V_gR mi_85_25 g4r16 (by omega) hG ?_
      refine V_iload (v := Int32.ofInt ((s : Int))) mi_85_28 (by simp [stL, lv_args, Value.category]) ?_
      refine V_stat (As := [.ref (ad 15), .int (Int32.ofInt ((s : Int)))]) (st := []) mi_85_30 (by omega) (atk_ct a15 hG (by omega) (by omega) (say_rd hX (k := s) (r := 3) (by omega) (by omega))) (by omega) (show 2 = mN 147 by decide +kernel) (by simp [Value.category]) ⟨Nat.le_refl _, Nat.le_refl _⟩ ?_
      rintro r w1 ⟨e1, rfl⟩
      rw [e1, g3]
      refine V_iload (v := Int32.ofInt ((h : Int))) mi_85_33 (by simp [stL, lv_args, Value.category]) ?_
      refine V_cne mi_85_34 ⟨by omega, by omega⟩ ⟨by omega, by omega⟩ (fun q2 => ?_) (fun q2 => ?_)
      · have hne : sWhn G s ≠ h := by omega
        rw [show cntH G S h + cntS G h s = cntH G S h + cntS G h (s + 1) by rw [cntS_no hne]]
        refine V_iinc (v := Int32.ofInt ((s : Int))) mi_85_50 (by simp [stL, lv_args, Value.category]) ?_
        rw [ia2]
        refine V_goto mi_85_53 ?_
        refine V_sub (lv' := [(0, .ref (ad 28)), (1, .ref (ad 4)), (2, .int (Int32.ofInt (((cntH G S h + cntS G h (s + 1) : Nat) : Int)))), (3, .int (Int32.ofInt ((h : Int)))), (4, .int (Int32.ofInt (((s + 1 : Nat) : Int))))]) (fun q hq => ?_) ?_
        · simp only [List.mem_cons, List.not_mem_nil, or_false] at hq
          rcases hq with rfl | rfl | rfl | rfl | rfl <;> simp [stL, lv_args, Value.category]
        exact pl_15 hB hX0 hS hw m (s + 1) w (by omega) hG (fun t ht q => hR t ht (by rcases q with q | q; exact Or.inl q; exact Or.inr ⟨q.1, Nat.lt_of_le_of_ne (by omega) (fun e => hne (by rw [← e]; exact q.1))⟩)) ho kk hh
      · have heq : sWhn G s = h := by omega
        have hp : pos G S s = cntH G S h + cntS G h s := by unfold pos; rw [heq]
        have hp2 := pos_n hw hs
        refine V_aload (v := ad 28) mi_85_37 (by simp [stL, lv_args, Value.category]) ?_
        refine V_gR mi_85_38 g28r0 (by omega) hG ?_
        refine V_iload (v := Int32.ofInt (((cntH G S h + cntS G h s : Nat) : Int))) mi_85_41 (by simp [stL, lv_args, Value.category]) ?_
        refine V_iload (v := Int32.ofInt ((s : Int))) mi_85_42 (by simp [stL, lv_args, Value.category]) ?_
        refine V_stat (As := [.ref (ad 29), .int (Int32.ofInt (((cntH G S h + cntS G h s : Nat) : Int))), .int (Int32.ofInt ((s : Int)))]) (st := []) mi_85_44 (by omega) (putk_ct (j := cntH G S h + cntS G h s) a29 hG (by omega) (by omega)) (by omega) (show 3 = mN 148 by decide +kernel) (by simp [Value.category]) ⟨Nat.le_refl _, Nat.le_refl _⟩ ?_
        rintro r w2 ⟨rfl, G2, U2⟩
        refine V_iinc (v := Int32.ofInt (((cntH G S h + cntS G h s : Nat) : Int))) mi_85_47 (by simp [stL, lv_args, Value.category]) ?_
        rw [ia2]
        rw [show ((cntH G S h + cntS G h s : Nat) : Int) + (1) = ((cntH G S h + cntS G h (s + 1) : Nat) : Int) by rw [cntS_hit heq]; omega]
        refine V_iinc (v := Int32.ofInt ((s : Int))) mi_85_50 (by simp [stL, lv_args, Value.category]) ?_
        rw [ia2]
        refine V_goto mi_85_53 ?_
        refine V_sub (lv' := [(0, .ref (ad 28)), (1, .ref (ad 4)), (2, .int (Int32.ofInt (((cntH G S h + cntS G h (s + 1) : Nat) : Int)))), (3, .int (Int32.ofInt ((h : Int)))), (4, .int (Int32.ofInt (((s + 1 : Nat) : Int))))]) (fun q hq => ?_) ?_
        · simp only [List.mem_cons, List.not_mem_nil, or_false] at hq
          rcases hq with rfl | rfl | rfl | rfl | rfl <;> simp [stL, lv_args, Value.category]
        · refine pl_15 hB hX0 hS hw m (s + 1) w2 (by omega) G2 (fun t ht q => ?_) (fun c j hc => (upd_ne U2 (by omega)).trans (ho c j hc)) kk hh
          by_cases e : t = s
          · rw [e, hp]
            exact upd_eq U2
          · have hlt : pos G S t < pos G S s := by
              rcases q with q | q
              · have a := pos_h (n := S) ht q
                omega
              · exact pos_s (q.1.trans heq.symm) (by omega)
            exact (upd_ne U2 (by omega)).trans (hR t ht (by rcases q with q | q; exact Or.inl q; exact Or.inr ⟨q.1, by omega⟩))
theorem pl_4 {G : Nat → Int} {S : Nat} {w0 : va_W} {post : Option Value → va_W → Prop} (hB : HB G) (hX0 : HX 4 G w0) (hS : (S : Int) = G 4) (hw : ∀ s, s < S → sWhn G s < (G 2).toNat) : ∀ (m h : Nat) (w : va_W), ((h + m : Nat) : Int) = G 2 → GOK ad tys GG w → ORp G S h 0 w → (∀ c j, c ≠ 29 → rd w c j = rd w0 c j) → (∀ w' : va_W, GOK ad tys GG w' → ORD G S w' → (∀ c j, c ≠ 29 → rd w' c j = rd w0 c j) → V l D tys A 85 3 0 0 post 0 0 64 [(0, .ref (ad 28)), (1, .ref (ad 4)), (3, .int (Int32.ofInt (((0 : Nat) : Int))))] [] w') → V l D tys A 85 3 0 0 post 0 0 4 [(0, .ref (ad 28)), (1, .ref (ad 4)), (2, .int (Int32.ofInt (((cntH G S h : Nat) : Int)))), (3, .int (Int32.ofInt ((h : Int))))] [] w
  | 0, h, w, hm, hG, hR, ho, kk => by
    have hX : HX 4 G w := HX_keep hX0 (fun c' i h1 h2 => ho _ _ (by omega))
    have b4 := hB.b4
    have b2 := hB.b2
    refine V_iload (v := Int32.ofInt ((h : Int))) mi_85_4 (by simp [stL, lv_args, Value.category]) ?_
    refine V_aload (v := ad 4) mi_85_5 (by simp [stL, lv_args, Value.category]) ?_
    refine V_gO mi_85_6 g4o hG (show rd _ 4 3 = some (.int (Int32.ofInt (G 2))) from hx0 hX (i := 3) (by omega)) ?_
    refine V_cge mi_85_9 ⟨by omega, by omega⟩ ⟨by omega, by omega⟩ (fun q => ?_) (fun q => ?_)
    · have e : h = (G 2).toNat := by omega
      rw [e] at hR
      refine V_ipush mi_85_62 ?_
      refine V_istore mi_85_63 ?_
      refine V_sub (lv' := [(0, .ref (ad 28)), (1, .ref (ad 4)), (3, .int (Int32.ofInt (((0 : Nat) : Int))))]) (fun q hq => ?_) ?_
      · simp only [List.mem_cons, List.not_mem_nil, or_false] at hq
        rcases hq with rfl | rfl | rfl <;> simp [stL, lv_args, Value.category]
      exact kk w hG (fun t ht => hR t ht (Or.inl (hw t ht))) ho
    · exact absurd q (by omega)
  | m + 1, h, w, hm, hG, hR, ho, kk => by
    have hX : HX 4 G w := HX_keep hX0 (fun c' i h1 h2 => ho _ _ (by omega))
    have b4 := hB.b4
    have b2 := hB.b2
    refine V_iload (v := Int32.ofInt ((h : Int))) mi_85_4 (by simp [stL, lv_args, Value.category]) ?_
    refine V_aload (v := ad 4) mi_85_5 (by simp [stL, lv_args, Value.category]) ?_
    refine V_gO mi_85_6 g4o hG (show rd _ 4 3 = some (.int (Int32.ofInt (G 2))) from hx0 hX (i := 3) (by omega)) ?_
    refine V_cge mi_85_9 ⟨by omega, by omega⟩ ⟨by omega, by omega⟩ (fun q => ?_) (fun q => ?_)
    · exact absurd q (by omega)
    · refine V_ipush mi_85_12 ?_
      refine V_istore mi_85_13 ?_
      refine V_sub (lv' := [(0, .ref (ad 28)), (1, .ref (ad 4)), (2, .int (Int32.ofInt (((cntH G S h : Nat) : Int)))), (3, .int (Int32.ofInt ((h : Int)))), (4, .int (Int32.ofInt (((0 : Nat) : Int))))]) (fun q hq => ?_) ?_
      · simp only [List.mem_cons, List.not_mem_nil, or_false] at hq
        rcases hq with rfl | rfl | rfl | rfl | rfl <;> simp [stL, lv_args, Value.category]
      refine pl_15 (h := h) hB hX0 hS hw S 0 w (by omega) hG hR ho (fun w2 G2 R2 o2 => ?_) (by omega)
      refine V_iinc (v := Int32.ofInt ((h : Int))) mi_85_56 (by simp [stL, lv_args, Value.category]) ?_
      rw [ia2]
      refine V_goto mi_85_59 ?_
      refine V_sub (lv' := [(0, .ref (ad 28)), (1, .ref (ad 4)), (2, .int (Int32.ofInt (((cntH G S (h + 1) : Nat) : Int)))), (3, .int (Int32.ofInt (((h + 1 : Nat) : Int))))]) (fun q hq => ?_) ?_
      · simp only [List.mem_cons, List.not_mem_nil, or_false] at hq
        rcases hq with rfl | rfl | rfl | rfl <;> simp [stL, lv_args, Value.category]
      exact pl_4 hB hX0 hS hw m (h + 1) w2 (by omega) G2 R2 o2 kk
theorem pl_64 {G : Nat → Int} {S : Nat} {w0 : va_W} {post : Option Value → va_W → Prop} (hB : HB G) (wf : WF G) (hX0 : HX 4 G w0) (hS : (S : Int) = G 4) : ∀ (m s : Nat) (w : va_W), s + m = S → GOK ad tys GG w → PRS G s w → (∀ c j, c ≠ 30 → rd w c j = rd w0 c j) → (∀ w' : va_W, GOK ad tys GG w' → PRS G S w' → (∀ c j, c ≠ 30 → rd w' c j = rd w0 c j) → post none w') → V l D tys A 85 3 0 0 post 0 0 64 [(0, .ref (ad 28)), (1, .ref (ad 4)), (3, .int (Int32.ofInt ((s : Int))))] [] w
  | 0, s, w, hm, hG, hR, ho, kk => by
    have hX : HX 4 G w := HX_keep hX0 (fun c' i h1 h2 => ho _ _ (by omega))
    have b4 := hB.b4
    have b2 := hB.b2
    refine V_iload (v := Int32.ofInt ((s : Int))) mi_85_64 (by simp [stL, lv_args, Value.category]) ?_
    refine V_aload (v := ad 4) mi_85_65 (by simp [stL, lv_args, Value.category]) ?_
    refine V_gO mi_85_66 g4o hG (show rd _ 4 5 = some (.int (Int32.ofInt (G 4))) from hx0 hX (i := 5) (by omega)) ?_
    refine V_cge mi_85_69 ⟨by omega, by omega⟩ ⟨by omega, by omega⟩ (fun q => ?_) (fun q => ?_)
    · have e : s = S := by omega
      rw [e] at hR
      exact V_retV mi_85_106 (kk w hG hR ho)
    · exact absurd q (by omega)
  | m + 1, s, w, hm, hG, hR, ho, kk => by
    have hX : HX 4 G w := HX_keep hX0 (fun c' i h1 h2 => ho _ _ (by omega))
    have b4 := hB.b4
    have b2 := hB.b2
    refine V_iload (v := Int32.ofInt ((s : Int))) mi_85_64 (by simp [stL, lv_args, Value.category]) ?_
    refine V_aload (v := ad 4) mi_85_65 (by simp [stL, lv_args, Value.category]) ?_
    refine V_gO mi_85_66 g4o hG (show rd _ 4 5 = some (.int (Int32.ofInt (G 4))) from hx0 hX (i := 5) (by omega)) ?_
    refine V_cge mi_85_69 ⟨by omega, by omega⟩ ⟨by omega, by omega⟩ (fun q => ?_) (fun q => ?_)
    · exact absurd q (by omega)
    · obtain ⟨⟨w6, o6, i6, n24⟩, g0, g1, g2, g3⟩ := say_b hB (s := s) (by omega)
      obtain ⟨wf1, wf2⟩ := wf s (by omega)
      have b3 := hB.b3
      refine V_aload (v := ad 28) mi_85_72 (by simp [stL, lv_args, Value.category]) ?_
      refine V_gR mi_85_73 g28r1 (by omega) hG ?_
      refine V_iload (v := Int32.ofInt ((s : Int))) mi_85_76 (by simp [stL, lv_args, Value.category]) ?_
      refine V_aload (v := ad 4) mi_85_77 (by simp [stL, lv_args, Value.category]) ?_
      refine V_aload (v := ad 4) mi_85_78 (by simp [stL, lv_args, Value.category]) ?_
      refine V_gR mi_85_79 g4r13 (by omega) hG ?_
      refine V_iload (v := Int32.ofInt ((s : Int))) mi_85_82 (by simp [stL, lv_args, Value.category]) ?_
      refine V_stat (As := [.ref (ad 12), .int (Int32.ofInt ((s : Int)))]) (st := [.ref (ad 4), .int (Int32.ofInt ((s : Int))), .ref (ad 30)]) mi_85_83 (by omega) (atk_ct a12 hG (by omega) (by omega) (say_rd hX (k := s) (r := 0) (by omega) (by omega))) (by omega) (show 2 = mN 147 by decide +kernel) (by simp [Value.category]) ⟨Nat.le_refl _, Nat.le_refl _⟩ ?_
      rintro r w1 ⟨e1, rfl⟩
      rw [e1, show G (246 + 4 * s + 0) = G (246 + 4 * s) from rfl, g0]
      refine V_aload (v := ad 4) mi_85_86 (by simp [stL, lv_args, Value.category]) ?_
      refine V_gR mi_85_87 g4r16 (by omega) hG ?_
      refine V_iload (v := Int32.ofInt ((s : Int))) mi_85_90 (by simp [stL, lv_args, Value.category]) ?_
      refine V_stat (As := [.ref (ad 15), .int (Int32.ofInt ((s : Int)))]) (st := [.int (Int32.ofInt ((sWho G s : Int))), .ref (ad 4), .int (Int32.ofInt ((s : Int))), .ref (ad 30)]) mi_85_91 (by omega) (atk_ct a15 hG (by omega) (by omega) (say_rd hX (k := s) (r := 3) (by omega) (by omega))) (by omega) (show 2 = mN 147 by decide +kernel) (by simp [Value.category]) ⟨Nat.le_refl _, Nat.le_refl _⟩ ?_
      rintro r w2 ⟨e2, rfl⟩
      rw [e2, g3]
      refine V_stat (As := [.ref (ad 4), .int (Int32.ofInt ((sWho G s : Int))), .int (Int32.ofInt ((sWhn G s : Int)))]) (st := [.int (Int32.ofInt ((s : Int))), .ref (ad 30)]) mi_85_94 (by omega) (ow_ct (f := sWho G s) (h := sWhn G s) hG hX hB (by omega) (by omega)) (by omega) (show 3 = mN 86 by decide +kernel) (by simp [Value.category]) ⟨Nat.le_refl _, Nat.le_refl _⟩ ?_
      rintro r w3 ⟨e3, rfl⟩
      rw [e3]
      refine V_stat (As := [.ref (ad 30), .int (Int32.ofInt ((s : Int))), .int (Int32.ofInt (orI (othP G (sWho G s) (sWhn G s)) (G 3).toNat))]) (st := []) mi_85_97 (by omega) (putk_ct (j := s) a30 hG (by omega) (by omega)) (by omega) (show 3 = mN 148 by decide +kernel) (by simp [Value.category]) ⟨Nat.le_refl _, Nat.le_refl _⟩ ?_
      rintro r w4 ⟨rfl, G4, U4⟩
      refine V_iinc (v := Int32.ofInt ((s : Int))) mi_85_100 (by simp [stL, lv_args, Value.category]) ?_
      rw [ia2]
      refine V_goto mi_85_103 ?_
      refine V_sub (lv' := [(0, .ref (ad 28)), (1, .ref (ad 4)), (3, .int (Int32.ofInt (((s + 1 : Nat) : Int))))]) (fun q hq => ?_) ?_
      · simp only [List.mem_cons, List.not_mem_nil, or_false] at hq
        rcases hq with rfl | rfl | rfl <;> simp [stL, lv_args, Value.category]
      · refine pl_64 hB wf hX0 hS m (s + 1) w4 (by omega) G4 (fun t ht => ?_) (fun c j hc => (upd_ne U4 (by omega)).trans (ho c j hc)) kk
        by_cases e : t = s
        · rw [e]
          exact upd_eq U4
        · exact (upd_ne U4 (by omega)).trans (hR t (by omega))
theorem pla_ct {G : Nat → Int} (hG : GOK ad tys GG ws) (hX : HX 4 G ws) (hB : HB G) (wf : WF G) : CT l D tys A 85 3 0 0 [.ref (ad 28), .ref (ad 4)] ws (fun r w => r = none ∧ GOK ad tys GG w ∧ ORD G (G 4).toNat w ∧ PRS G (G 4).toNat w ∧ ∀ c j, c ≠ 29 → c ≠ 30 → rd w c j = rd ws c j) := by
  refine CT_of_V (by omega) (show (2 : Nat) ≤ mML 85 by decide +kernel) ?_
  have b4 := hB.b4
  have b2 := hB.b2
  refine V_ipush mi_85_0 ?_
  refine V_istore mi_85_1 ?_
  refine V_ipush mi_85_2 ?_
  refine V_istore mi_85_3 ?_
  refine V_sub (lv' := [(0, .ref (ad 28)), (1, .ref (ad 4)), (2, .int (Int32.ofInt (((0 : Nat) : Int)))), (3, .int (Int32.ofInt (((0 : Nat) : Int))))]) (fun q hq => ?_) ?_
  · simp only [List.mem_cons, List.not_mem_nil, or_false] at hq
    rcases hq with rfl | rfl | rfl | rfl <;> simp [stL, lv_args, Value.category]
  refine pl_4 (w0 := ws) (S := (G 4).toNat) hB hX (by omega) (WF_n hB wf) (G 2).toNat 0 ws (by omega) hG (fun t ht q => absurd q (by omega)) (fun _ _ _ => rfl) (fun w1 G1 R1 o1 => ?_)
  refine pl_64 (w0 := w1) (S := (G 4).toNat) hB wf (HX_keep hX (fun c' i h1 h2 => o1 _ _ (by omega))) (by omega) (G 4).toNat 0 w1 (by omega) G1 (fun t ht => absurd ht (by omega)) (fun _ _ _ => rfl) (fun w2 G2 R2 o2 => ?_)
  exact ⟨rfl, G2, fun t ht => (o2 _ _ (by omega)).trans (R1 t ht), R2, fun c j h1 h2 => (o2 c j h2).trans (o1 c j h1)⟩
end XSF
