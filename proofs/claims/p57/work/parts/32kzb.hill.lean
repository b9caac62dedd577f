theorem mi_62_0 : mI 62 0 = (5, 0, 0, 0, 0) := by decide +kernel
theorem mi_62_1 : mI 62 1 = (3, 0, 1, 0, 0) := by decide +kernel
theorem mi_62_2 : mI 62 2 = (3, 0, 2, 0, 0) := by decide +kernel
theorem mi_62_3 : mI 62 3 = (26, 668, 179, 74, 0) := by decide +kernel
theorem mi_62_6 : mI 62 6 = (14, 12, 0, 18, 0) := by decide +kernel
theorem mi_62_9 : mI 62 9 = (3, 0, 3, 0, 0) := by decide +kernel
theorem mi_62_10 : mI 62 10 = (14, 8, 2, 18, 0) := by decide +kernel
theorem mi_62_13 : mI 62 13 = (3, 0, 3, 0, 0) := by decide +kernel
theorem mi_62_14 : mI 62 14 = (1, 1, 0, 0, 0) := by decide +kernel
theorem mi_62_15 : mI 62 15 = (15, 7, 5, 22, 0) := by decide +kernel
theorem mi_62_18 : mI 62 18 = (2, (-2), 1, 347, 1101) := by decide +kernel
theorem mi_62_21 : mI 62 21 = (27, 0, 1, 0, 0) := by decide +kernel
theorem mi_62_22 : mI 62 22 = (5, 0, 0, 0, 0) := by decide +kernel
theorem mi_62_23 : mI 62 23 = (3, 0, 1, 0, 0) := by decide +kernel
theorem mi_62_24 : mI 62 24 = (26, 1102, 349, 63, 0) := by decide +kernel
theorem mi_62_27 : mI 62 27 = (6, 0, 4, 1, 0) := by decide +kernel
theorem mi_62_29 : mI 62 29 = (3, 0, 4, 1, 0) := by decide +kernel
theorem mi_62_31 : mI 62 31 = (26, 757, 215, 344, 1) := by decide +kernel
theorem mi_62_34 : mI 62 34 = (1, 8, 1, 0, 0) := by decide +kernel
theorem mi_62_36 : mI 62 36 = (15, 7, 5, 43, 0) := by decide +kernel
theorem mi_62_39 : mI 62 39 = (2, (-1), 1, 352, 1106) := by decide +kernel
theorem mi_62_42 : mI 62 42 = (27, 0, 1, 0, 0) := by decide +kernel
theorem mi_62_43 : mI 62 43 = (5, 0, 0, 0, 0) := by decide +kernel
theorem mi_62_44 : mI 62 44 = (17, 301, 34, 10, 4) := by decide +kernel
theorem mi_62_47 : mI 62 47 = (5, 0, 0, 0, 0) := by decide +kernel
theorem mi_62_48 : mI 62 48 = (17, 299, 24, 10, 2) := by decide +kernel
theorem mi_62_51 : mI 62 51 = (3, 0, 1, 0, 0) := by decide +kernel
theorem mi_62_52 : mI 62 52 = (3, 0, 2, 0, 0) := by decide +kernel
theorem mi_62_53 : mI 62 53 = (3, 0, 4, 1, 0) := by decide +kernel
theorem mi_62_55 : mI 62 55 = (26, 1107, 354, 95, 0) := by decide +kernel
theorem mi_62_58 : mI 62 58 = (7, 0, 5, 1, 0) := by decide +kernel
theorem mi_62_60 : mI 62 60 = (1, 100, 1, 0, 0) := by decide +kernel
theorem mi_62_62 : mI 62 62 = (3, 0, 4, 1, 0) := by decide +kernel
theorem mi_62_64 : mI 62 64 = (26, 757, 215, 344, 1) := by decide +kernel
theorem mi_62_67 : mI 62 67 = (26, 1118, 358, 151, 1) := by decide +kernel
theorem mi_62_70 : mI 62 70 = (7, 0, 7, 1, 0) := by decide +kernel
theorem mi_62_72 : mI 62 72 = (4, 0, 5, 1, 0) := by decide +kernel
theorem mi_62_74 : mI 62 74 = (4, 0, 7, 1, 0) := by decide +kernel
theorem mi_62_76 : mI 62 76 = (26, 1119, 362, 152, 1) := by decide +kernel
theorem mi_62_79 : mI 62 79 = (7, 0, 9, 1, 0) := by decide +kernel
theorem mi_62_81 : mI 62 81 = (4, 0, 9, 1, 0) := by decide +kernel
theorem mi_62_83 : mI 62 83 = (2, 1, 0, 0, 0) := by decide +kernel
theorem mi_62_84 : mI 62 84 = (13, 0, 0, 0, 0) := by decide +kernel
theorem mi_62_85 : mI 62 85 = (14, 7, 3, 92, 0) := by decide +kernel
theorem mi_62_92 : mI 62 92 = (3, 0, 3, 0, 0) := by decide +kernel
theorem mi_62_93 : mI 62 93 = (14, 8, 1, 101, 0) := by decide +kernel
theorem mi_62_96 : mI 62 96 = (4, 0, 5, 1, 0) := by decide +kernel
theorem mi_62_98 : mI 62 98 = (16, 5, 0, 103, 0) := by decide +kernel
theorem mi_62_101 : mI 62 101 = (4, 0, 7, 1, 0) := by decide +kernel
theorem mi_62_103 : mI 62 103 = (4, 0, 9, 1, 0) := by decide +kernel
theorem mi_62_105 : mI 62 105 = (11, 0, 3, 0, 0) := by decide +kernel
theorem mi_62_106 : mI 62 106 = (27, 0, 1, 0, 0) := by decide +kernel
theorem mi_63_0 : mI 63 0 = (1, 0, 0, 0, 0) := by decide +kernel
theorem mi_63_1 : mI 63 1 = (6, 0, 2, 0, 0) := by decide +kernel
theorem mi_63_2 : mI 63 2 = (1, 0, 0, 0, 0) := by decide +kernel
theorem mi_63_3 : mI 63 3 = (6, 0, 3, 0, 0) := by decide +kernel
theorem mi_63_4 : mI 63 4 = (3, 0, 3, 0, 0) := by decide +kernel
theorem mi_63_5 : mI 63 5 = (5, 0, 0, 0, 0) := by decide +kernel
theorem mi_63_6 : mI 63 6 = (17, 299, 24, 10, 2) := by decide +kernel
theorem mi_63_9 : mI 63 9 = (17, 112, 212, 2, 5) := by decide +kernel
theorem mi_63_12 : mI 63 12 = (15, 86, 3, 98, 0) := by decide +kernel
theorem mi_63_15 : mI 63 15 = (5, 0, 0, 0, 0) := by decide +kernel
theorem mi_63_16 : mI 63 16 = (17, 302, 41, 10, 5) := by decide +kernel
theorem mi_63_19 : mI 63 19 = (17, 208, 173, 8, 1) := by decide +kernel
theorem mi_63_22 : mI 63 22 = (3, 0, 3, 0, 0) := by decide +kernel
theorem mi_63_23 : mI 63 23 = (26, 625, 133, 147, 1) := by decide +kernel
theorem mi_63_26 : mI 63 26 = (3, 0, 1, 0, 0) := by decide +kernel
theorem mi_63_27 : mI 63 27 = (10, 0, 9, 0, 0) := by decide +kernel
theorem mi_63_28 : mI 63 28 = (1, 1, 0, 0, 0) := by decide +kernel
theorem mi_63_29 : mI 63 29 = (10, 0, 5, 0, 0) := by decide +kernel
theorem mi_63_30 : mI 63 30 = (14, 7, 0, 37, 0) := by decide +kernel
theorem mi_63_33 : mI 63 33 = (1, 1, 0, 0, 0) := by decide +kernel
theorem mi_63_34 : mI 63 34 = (16, 4, 0, 38, 0) := by decide +kernel
theorem mi_63_37 : mI 63 37 = (1, 0, 0, 0, 0) := by decide +kernel
theorem mi_63_38 : mI 63 38 = (6, 0, 4, 1, 0) := by decide +kernel
theorem mi_63_40 : mI 63 40 = (5, 0, 0, 0, 0) := by decide +kernel
theorem mi_63_41 : mI 63 41 = (17, 302, 41, 10, 5) := by decide +kernel
theorem mi_63_44 : mI 63 44 = (3, 0, 1, 0, 0) := by decide +kernel
theorem mi_63_45 : mI 63 45 = (5, 0, 0, 0, 0) := by decide +kernel
theorem mi_63_46 : mI 63 46 = (17, 299, 24, 10, 2) := by decide +kernel
theorem mi_63_49 : mI 63 49 = (17, 140, 157, 2, 14) := by decide +kernel
theorem mi_63_52 : mI 63 52 = (3, 0, 3, 0, 0) := by decide +kernel
theorem mi_63_53 : mI 63 53 = (26, 625, 133, 147, 1) := by decide +kernel
theorem mi_63_56 : mI 63 56 = (1, 0, 0, 0, 0) := by decide +kernel
theorem mi_63_57 : mI 63 57 = (26, 644, 166, 176, 0) := by decide +kernel
theorem mi_63_60 : mI 63 60 = (6, 0, 5, 1, 0) := by decide +kernel
theorem mi_63_62 : mI 63 62 = (3, 0, 4, 1, 0) := by decide +kernel
theorem mi_63_64 : mI 63 64 = (14, 28, 0, 92, 0) := by decide +kernel
theorem mi_63_67 : mI 63 67 = (3, 0, 5, 1, 0) := by decide +kernel
theorem mi_63_69 : mI 63 69 = (5, 0, 0, 0, 0) := by decide +kernel
theorem mi_63_70 : mI 63 70 = (17, 299, 24, 10, 2) := by decide +kernel
theorem mi_63_73 : mI 63 73 = (17, 143, 160, 2, 15) := by decide +kernel
theorem mi_63_76 : mI 63 76 = (3, 0, 3, 0, 0) := by decide +kernel
theorem mi_63_77 : mI 63 77 = (26, 625, 133, 147, 1) := by decide +kernel
theorem mi_63_80 : mI 63 80 = (10, 0, 9, 0, 0) := by decide +kernel
theorem mi_63_81 : mI 63 81 = (1, 1, 0, 0, 0) := by decide +kernel
theorem mi_63_82 : mI 63 82 = (10, 0, 5, 0, 0) := by decide +kernel
theorem mi_63_83 : mI 63 83 = (14, 9, 1, 92, 0) := by decide +kernel
theorem mi_63_86 : mI 63 86 = (3, 0, 2, 0, 0) := by decide +kernel
theorem mi_63_87 : mI 63 87 = (1, 1, 0, 0, 0) := by decide +kernel
theorem mi_63_88 : mI 63 88 = (3, 0, 3, 0, 0) := by decide +kernel
theorem mi_63_89 : mI 63 89 = (10, 0, 8, 0, 0) := by decide +kernel
theorem mi_63_90 : mI 63 90 = (10, 0, 6, 0, 0) := by decide +kernel
theorem mi_63_91 : mI 63 91 = (6, 0, 2, 0, 0) := by decide +kernel
theorem mi_63_92 : mI 63 92 = (9, 1, 3, 0, 0) := by decide +kernel
theorem mi_63_95 : mI 63 95 = (16, (-91), 0, 4, 0) := by decide +kernel
theorem mi_63_98 : mI 63 98 = (3, 0, 2, 0, 0) := by decide +kernel
theorem mi_63_99 : mI 63 99 = (27, 0, 0, 0, 0) := by decide +kernel
theorem mi_94_0 : mI 94 0 = (5, 0, 0, 0, 0) := by decide +kernel
theorem mi_94_1 : mI 94 1 = (5, 0, 1, 0, 0) := by decide +kernel
theorem mi_94_2 : mI 94 2 = (26, 845, 77, 87, 0) := by decide +kernel
theorem mi_94_5 : mI 94 5 = (1, 0, 0, 0, 0) := by decide +kernel
theorem mi_94_6 : mI 94 6 = (6, 0, 5, 1, 0) := by decide +kernel
theorem mi_94_8 : mI 94 8 = (3, 0, 5, 1, 0) := by decide +kernel
theorem mi_94_10 : mI 94 10 = (5, 0, 1, 0, 0) := by decide +kernel
theorem mi_94_11 : mI 94 11 = (17, 108, 27, 2, 5) := by decide +kernel
theorem mi_94_14 : mI 94 14 = (15, 70, 3, 84, 0) := by decide +kernel
theorem mi_94_17 : mI 94 17 = (5, 0, 0, 0, 0) := by decide +kernel
theorem mi_94_18 : mI 94 18 = (3, 0, 5, 1, 0) := by decide +kernel
theorem mi_94_20 : mI 94 20 = (26, 846, 81, 90, 0) := by decide +kernel
theorem mi_94_23 : mI 94 23 = (6, 0, 6, 1, 0) := by decide +kernel
theorem mi_94_25 : mI 94 25 = (5, 0, 0, 0, 0) := by decide +kernel
theorem mi_94_26 : mI 94 26 = (5, 0, 1, 0, 0) := by decide +kernel
theorem mi_94_27 : mI 94 27 = (3, 0, 6, 1, 0) := by decide +kernel
theorem mi_94_29 : mI 94 29 = (26, 847, 84, 91, 0) := by decide +kernel
theorem mi_94_32 : mI 94 32 = (14, 46, 0, 78, 0) := by decide +kernel
theorem mi_94_35 : mI 94 35 = (3, 0, 4, 1, 0) := by decide +kernel
theorem mi_94_37 : mI 94 37 = (3, 0, 6, 1, 0) := by decide +kernel
theorem mi_94_39 : mI 94 39 = (10, 0, 9, 0, 0) := by decide +kernel
theorem mi_94_40 : mI 94 40 = (1, 1, 0, 0, 0) := by decide +kernel
theorem mi_94_41 : mI 94 41 = (10, 0, 5, 0, 0) := by decide +kernel
theorem mi_94_42 : mI 94 42 = (14, 12, 1, 54, 0) := by decide +kernel
theorem mi_94_45 : mI 94 45 = (5, 0, 0, 0, 0) := by decide +kernel
theorem mi_94_46 : mI 94 46 = (3, 0, 6, 1, 0) := by decide +kernel
theorem mi_94_48 : mI 94 48 = (26, 848, 88, 89, 0) := by decide +kernel
theorem mi_94_51 : mI 94 51 = (16, 15, 0, 66, 0) := by decide +kernel
theorem mi_94_54 : mI 94 54 = (5, 0, 0, 0, 0) := by decide +kernel
theorem mi_94_55 : mI 94 55 = (3, 0, 6, 1, 0) := by decide +kernel
theorem mi_94_57 : mI 94 57 = (26, 848, 88, 89, 0) := by decide +kernel
theorem mi_94_60 : mI 94 60 = (1, 1, 0, 0, 0) := by decide +kernel
theorem mi_94_61 : mI 94 61 = (3, 0, 2, 0, 0) := by decide +kernel
theorem mi_94_62 : mI 94 62 = (10, 0, 8, 0, 0) := by decide +kernel
theorem mi_94_63 : mI 94 63 = (1, (-1), 0, 0, 0) := by decide +kernel
theorem mi_94_64 : mI 94 64 = (10, 0, 7, 0, 0) := by decide +kernel
theorem mi_94_65 : mI 94 65 = (10, 0, 5, 0, 0) := by decide +kernel
theorem mi_94_66 : mI 94 66 = (6, 0, 7, 1, 0) := by decide +kernel
theorem mi_94_68 : mI 94 68 = (5, 0, 0, 0, 0) := by decide +kernel
theorem mi_94_69 : mI 94 69 = (5, 0, 1, 0, 0) := by decide +kernel
theorem mi_94_70 : mI 94 70 = (3, 0, 6, 1, 0) := by decide +kernel
theorem mi_94_72 : mI 94 72 = (3, 0, 7, 1, 0) := by decide +kernel
theorem mi_94_74 : mI 94 74 = (26, 849, 91, 92, 0) := by decide +kernel
theorem mi_94_77 : mI 94 77 = (22, 0, 2, 0, 0) := by decide +kernel
theorem mi_94_78 : mI 94 78 = (9, 1, 5, 0, 0) := by decide +kernel
theorem mi_94_81 : mI 94 81 = (16, (-73), 0, 8, 0) := by decide +kernel
theorem mi_94_84 : mI 94 84 = (5, 0, 0, 0, 0) := by decide +kernel
theorem mi_94_85 : mI 94 85 = (3, 0, 2, 0, 0) := by decide +kernel
theorem mi_94_86 : mI 94 86 = (3, 0, 3, 0, 0) := by decide +kernel
theorem mi_94_87 : mI 94 87 = (26, 590, 71, 88, 0) := by decide +kernel
theorem mi_94_90 : mI 94 90 = (5, 0, 1, 0, 0) := by decide +kernel
theorem mi_94_91 : mI 94 91 = (3, 0, 3, 0, 0) := by decide +kernel
theorem mi_94_92 : mI 94 92 = (26, 563, 64, 108, 0) := by decide +kernel
theorem mi_94_95 : mI 94 95 = (15, 7, 1, 102, 0) := by decide +kernel
theorem mi_94_98 : mI 94 98 = (1, 1, 0, 0, 0) := by decide +kernel
theorem mi_94_99 : mI 94 99 = (16, 4, 0, 103, 0) := by decide +kernel
theorem mi_94_102 : mI 94 102 = (1, 0, 0, 0, 0) := by decide +kernel
theorem mi_94_103 : mI 94 103 = (27, 0, 0, 0, 0) := by decide +kernel
theorem mi_95_0 : mI 95 0 = (2, 0, 0, 0, 0) := by decide +kernel
theorem mi_95_1 : mI 95 1 = (7, 0, 5, 1, 0) := by decide +kernel
theorem mi_95_3 : mI 95 3 = (1, 0, 0, 0, 0) := by decide +kernel
theorem mi_95_4 : mI 95 4 = (6, 0, 7, 1, 0) := by decide +kernel
theorem mi_95_6 : mI 95 6 = (1, 0, 0, 0, 0) := by decide +kernel
theorem mi_95_7 : mI 95 7 = (6, 0, 8, 1, 0) := by decide +kernel
theorem mi_95_9 : mI 95 9 = (3, 0, 8, 1, 0) := by decide +kernel
theorem mi_95_11 : mI 95 11 = (1, 256, 2, 0, 0) := by decide +kernel
theorem mi_95_14 : mI 95 14 = (15, 70, 3, 84, 0) := by decide +kernel
theorem mi_95_17 : mI 95 17 = (3, 0, 4, 1, 0) := by decide +kernel
theorem mi_95_19 : mI 95 19 = (3, 0, 7, 1, 0) := by decide +kernel
theorem mi_95_21 : mI 95 21 = (5, 0, 1, 0, 0) := by decide +kernel
theorem mi_95_22 : mI 95 22 = (17, 123, 94, 2, 9) := by decide +kernel
theorem mi_95_25 : mI 95 25 = (3, 0, 2, 0, 0) := by decide +kernel
theorem mi_95_26 : mI 95 26 = (26, 536, 33, 147, 1) := by decide +kernel
theorem mi_95_29 : mI 95 29 = (26, 1111, 97, 96, 1) := by decide +kernel
theorem mi_95_32 : mI 95 32 = (7, 0, 9, 1, 0) := by decide +kernel
theorem mi_95_34 : mI 95 34 = (4, 0, 9, 1, 0) := by decide +kernel
theorem mi_95_36 : mI 95 36 = (2, 0, 0, 0, 0) := by decide +kernel
theorem mi_95_37 : mI 95 37 = (13, 0, 0, 0, 0) := by decide +kernel
theorem mi_95_38 : mI 95 38 = (14, 22, 5, 60, 0) := by decide +kernel
theorem mi_95_41 : mI 95 41 = (5, 0, 0, 0, 0) := by decide +kernel
theorem mi_95_42 : mI 95 42 = (5, 0, 1, 0, 0) := by decide +kernel
theorem mi_95_43 : mI 95 43 = (3, 0, 2, 0, 0) := by decide +kernel
theorem mi_95_44 : mI 95 44 = (3, 0, 3, 0, 0) := by decide +kernel
theorem mi_95_45 : mI 95 45 = (3, 0, 7, 1, 0) := by decide +kernel
theorem mi_95_47 : mI 95 47 = (26, 1114, 101, 94, 0) := by decide +kernel
theorem mi_95_50 : mI 95 50 = (14, 10, 0, 60, 0) := by decide +kernel
theorem mi_95_53 : mI 95 53 = (4, 0, 5, 1, 0) := by decide +kernel
theorem mi_95_55 : mI 95 55 = (4, 0, 9, 1, 0) := by decide +kernel
theorem mi_95_57 : mI 95 57 = (11, 0, 0, 0, 0) := by decide +kernel
theorem mi_95_58 : mI 95 58 = (7, 0, 5, 1, 0) := by decide +kernel
theorem mi_95_60 : mI 95 60 = (3, 0, 7, 1, 0) := by decide +kernel
theorem mi_95_62 : mI 95 62 = (3, 0, 4, 1, 0) := by decide +kernel
theorem mi_95_64 : mI 95 64 = (10, 0, 1, 0, 0) := by decide +kernel
theorem mi_95_65 : mI 95 65 = (3, 0, 4, 1, 0) := by decide +kernel
theorem mi_95_67 : mI 95 67 = (10, 0, 5, 0, 0) := by decide +kernel
theorem mi_95_68 : mI 95 68 = (6, 0, 7, 1, 0) := by decide +kernel
theorem mi_95_70 : mI 95 70 = (3, 0, 7, 1, 0) := by decide +kernel
theorem mi_95_72 : mI 95 72 = (14, 6, 1, 78, 0) := by decide +kernel
theorem mi_95_75 : mI 95 75 = (4, 0, 5, 1, 0) := by decide +kernel
theorem mi_95_77 : mI 95 77 = (27, 0, 1, 0, 0) := by decide +kernel
theorem mi_95_78 : mI 95 78 = (9, 1, 8, 0, 0) := by decide +kernel
theorem mi_95_81 : mI 95 81 = (16, (-72), 0, 9, 0) := by decide +kernel
theorem mi_96_0 : mI 96 0 = (2, 1, 0, 0, 0) := by decide +kernel
theorem mi_96_1 : mI 96 1 = (7, 0, 3, 0, 0) := by decide +kernel
theorem mi_96_2 : mI 96 2 = (1, 0, 0, 0, 0) := by decide +kernel
theorem mi_96_3 : mI 96 3 = (6, 0, 5, 1, 0) := by decide +kernel
theorem mi_96_5 : mI 96 5 = (3, 0, 5, 1, 0) := by decide +kernel
theorem mi_96_7 : mI 96 7 = (1, 12, 1, 0, 0) := by decide +kernel
theorem mi_96_9 : mI 96 9 = (15, 40, 3, 49, 0) := by decide +kernel
theorem mi_96_12 : mI 96 12 = (3, 0, 0, 0, 0) := by decide +kernel
theorem mi_96_13 : mI 96 13 = (3, 0, 5, 1, 0) := by decide +kernel
theorem mi_96_15 : mI 96 15 = (10, 0, 9, 0, 0) := by decide +kernel
theorem mi_96_16 : mI 96 16 = (1, 1, 0, 0, 0) := by decide +kernel
theorem mi_96_17 : mI 96 17 = (10, 0, 5, 0, 0) := by decide +kernel
theorem mi_96_18 : mI 96 18 = (14, 25, 0, 43, 0) := by decide +kernel
theorem mi_96_21 : mI 96 21 = (4, 0, 3, 0, 0) := by decide +kernel
theorem mi_96_22 : mI 96 22 = (3, 0, 1, 0, 0) := by decide +kernel
theorem mi_96_23 : mI 96 23 = (3, 0, 5, 1, 0) := by decide +kernel
theorem mi_96_25 : mI 96 25 = (10, 0, 9, 0, 0) := by decide +kernel
theorem mi_96_26 : mI 96 26 = (1, 1, 0, 0, 0) := by decide +kernel
theorem mi_96_27 : mI 96 27 = (10, 0, 5, 0, 0) := by decide +kernel
theorem mi_96_28 : mI 96 28 = (14, 8, 0, 36, 0) := by decide +kernel
theorem mi_96_31 : mI 96 31 = (3, 0, 2, 0, 0) := by decide +kernel
theorem mi_96_32 : mI 96 32 = (12, 0, 1, 0, 0) := by decide +kernel
theorem mi_96_33 : mI 96 33 = (16, 8, 0, 41, 0) := by decide +kernel
theorem mi_96_36 : mI 96 36 = (1, 100, 1, 0, 0) := by decide +kernel
theorem mi_96_38 : mI 96 38 = (3, 0, 2, 0, 0) := by decide +kernel
theorem mi_96_39 : mI 96 39 = (10, 0, 1, 0, 0) := by decide +kernel
theorem mi_96_40 : mI 96 40 = (12, 0, 1, 0, 0) := by decide +kernel
theorem mi_96_41 : mI 96 41 = (11, 0, 2, 0, 0) := by decide +kernel
theorem mi_96_42 : mI 96 42 = (7, 0, 3, 0, 0) := by decide +kernel
theorem mi_96_43 : mI 96 43 = (9, 1, 5, 0, 0) := by decide +kernel
theorem mi_96_46 : mI 96 46 = (16, (-41), 0, 5, 0) := by decide +kernel
theorem mi_96_49 : mI 96 49 = (4, 0, 3, 0, 0) := by decide +kernel
theorem mi_96_50 : mI 96 50 = (27, 0, 1, 0, 0) := by decide +kernel
theorem mi_151_0 : mI 151 0 = (2, 1, 0, 0, 0) := by decide +kernel
theorem mi_151_1 : mI 151 1 = (7, 0, 2, 0, 0) := by decide +kernel
theorem mi_151_2 : mI 151 2 = (1, 0, 0, 0, 0) := by decide +kernel
theorem mi_151_3 : mI 151 3 = (6, 0, 4, 1, 0) := by decide +kernel
theorem mi_151_5 : mI 151 5 = (3, 0, 4, 1, 0) := by decide +kernel
theorem mi_151_7 : mI 151 7 = (3, 0, 1, 0, 0) := by decide +kernel
theorem mi_151_8 : mI 151 8 = (15, 14, 3, 22, 0) := by decide +kernel
theorem mi_151_11 : mI 151 11 = (4, 0, 2, 0, 0) := by decide +kernel
theorem mi_151_12 : mI 151 12 = (3, 0, 0, 0, 0) := by decide +kernel
theorem mi_151_13 : mI 151 13 = (12, 0, 1, 0, 0) := by decide +kernel
theorem mi_151_14 : mI 151 14 = (11, 0, 2, 0, 0) := by decide +kernel
theorem mi_151_15 : mI 151 15 = (7, 0, 2, 0, 0) := by decide +kernel
theorem mi_151_16 : mI 151 16 = (9, 1, 4, 0, 0) := by decide +kernel
theorem mi_151_19 : mI 151 19 = (16, (-14), 0, 5, 0) := by decide +kernel
theorem mi_151_22 : mI 151 22 = (4, 0, 2, 0, 0) := by decide +kernel
theorem mi_151_23 : mI 151 23 = (27, 0, 1, 0, 0) := by decide +kernel
theorem mi_152_0 : mI 152 0 = (4, 0, 0, 0, 0) := by decide +kernel
theorem mi_152_1 : mI 152 1 = (7, 0, 4, 1, 0) := by decide +kernel
theorem mi_152_3 : mI 152 3 = (4, 0, 2, 0, 0) := by decide +kernel
theorem mi_152_4 : mI 152 4 = (7, 0, 6, 1, 0) := by decide +kernel
theorem mi_152_6 : mI 152 6 = (1, 0, 0, 0, 0) := by decide +kernel
theorem mi_152_7 : mI 152 7 = (6, 0, 8, 1, 0) := by decide +kernel
theorem mi_152_9 : mI 152 9 = (3, 0, 8, 1, 0) := by decide +kernel
theorem mi_152_11 : mI 152 11 = (1, 200, 2, 0, 0) := by decide +kernel
theorem mi_152_14 : mI 152 14 = (15, 31, 3, 45, 0) := by decide +kernel
theorem mi_152_17 : mI 152 17 = (4, 0, 6, 1, 0) := by decide +kernel
theorem mi_152_19 : mI 152 19 = (2, 0, 0, 0, 0) := by decide +kernel
theorem mi_152_20 : mI 152 20 = (13, 0, 0, 0, 0) := by decide +kernel
theorem mi_152_21 : mI 152 21 = (14, 24, 0, 45, 0) := by decide +kernel
theorem mi_152_24 : mI 152 24 = (4, 0, 4, 1, 0) := by decide +kernel
theorem mi_152_26 : mI 152 26 = (4, 0, 6, 1, 0) := by decide +kernel
theorem mi_152_28 : mI 152 28 = (11, 0, 4, 0, 0) := by decide +kernel
theorem mi_152_29 : mI 152 29 = (7, 0, 9, 1, 0) := by decide +kernel
theorem mi_152_31 : mI 152 31 = (4, 0, 6, 1, 0) := by decide +kernel
theorem mi_152_33 : mI 152 33 = (7, 0, 4, 1, 0) := by decide +kernel
theorem mi_152_35 : mI 152 35 = (4, 0, 9, 1, 0) := by decide +kernel
theorem mi_152_37 : mI 152 37 = (7, 0, 6, 1, 0) := by decide +kernel
theorem mi_152_39 : mI 152 39 = (9, 1, 8, 0, 0) := by decide +kernel
theorem mi_152_42 : mI 152 42 = (16, (-33), 0, 9, 0) := by decide +kernel
theorem mi_152_45 : mI 152 45 = (4, 0, 4, 1, 0) := by decide +kernel
theorem mi_152_47 : mI 152 47 = (27, 0, 1, 0, 0) := by decide +kernel
theorem mi_235_37 : mI 235 37 = (5, 0, 0, 0, 0) := by decide +kernel
theorem mi_235_38 : mI 235 38 = (17, 1229, 252, 11, 23) := by decide +kernel
theorem mi_235_41 : mI 235 41 = (3, 0, 2, 0, 0) := by decide +kernel
theorem mi_235_42 : mI 235 42 = (26, 1517, 255, 195, 1) := by decide +kernel
theorem mi_235_45 : mI 235 45 = (14, 7, 1, 52, 0) := by decide +kernel
theorem mi_235_52 : mI 235 52 = (1, 0, 0, 0, 0) := by decide +kernel
theorem mi_327_0 : mI 327 0 = (1, 0, 0, 0, 0) := by decide +kernel
theorem mi_327_1 : mI 327 1 = (6, 0, 2, 0, 0) := by decide +kernel
theorem mi_327_2 : mI 327 2 = (1, 0, 0, 0, 0) := by decide +kernel
theorem mi_327_3 : mI 327 3 = (6, 0, 3, 0, 0) := by decide +kernel
theorem mi_327_4 : mI 327 4 = (3, 0, 3, 0, 0) := by decide +kernel
theorem mi_327_5 : mI 327 5 = (5, 0, 0, 0, 0) := by decide +kernel
theorem mi_327_6 : mI 327 6 = (17, 1207, 9, 11, 1) := by decide +kernel
theorem mi_327_9 : mI 327 9 = (1, 4, 0, 0, 0) := by decide +kernel
theorem mi_327_10 : mI 327 10 = (19, 0, 0, 0, 0) := by decide +kernel
theorem mi_327_11 : mI 327 11 = (15, 82, 3, 93, 0) := by decide +kernel
theorem mi_327_14 : mI 327 14 = (5, 0, 0, 0, 0) := by decide +kernel
theorem mi_327_15 : mI 327 15 = (3, 0, 3, 0, 0) := by decide +kernel
theorem mi_327_16 : mI 327 16 = (1, 1, 0, 0, 0) := by decide +kernel
theorem mi_327_17 : mI 327 17 = (26, 1489, 258, 208, 0) := by decide +kernel
theorem mi_327_20 : mI 327 20 = (6, 0, 4, 1, 0) := by decide +kernel
theorem mi_327_22 : mI 327 22 = (3, 0, 2, 0, 0) := by decide +kernel
theorem mi_327_23 : mI 327 23 = (5, 0, 0, 0, 0) := by decide +kernel
theorem mi_327_24 : mI 327 24 = (17, 1225, 43, 11, 19) := by decide +kernel
theorem mi_327_27 : mI 327 27 = (3, 0, 3, 0, 0) := by decide +kernel
theorem mi_327_28 : mI 327 28 = (19, 0, 0, 0, 0) := by decide +kernel
theorem mi_327_29 : mI 327 29 = (3, 0, 1, 0, 0) := by decide +kernel
theorem mi_327_30 : mI 327 30 = (26, 1517, 255, 195, 1) := by decide +kernel
theorem mi_327_33 : mI 327 33 = (1, 1, 0, 0, 0) := by decide +kernel
theorem mi_327_34 : mI 327 34 = (15, 50, 1, 84, 0) := by decide +kernel
theorem mi_327_37 : mI 327 37 = (3, 0, 4, 1, 0) := by decide +kernel
theorem mi_327_39 : mI 327 39 = (3, 0, 1, 0, 0) := by decide +kernel
theorem mi_327_40 : mI 327 40 = (15, 11, 1, 51, 0) := by decide +kernel
theorem mi_327_43 : mI 327 43 = (5, 0, 0, 0, 0) := by decide +kernel
theorem mi_327_44 : mI 327 44 = (3, 0, 1, 0, 0) := by decide +kernel
theorem mi_327_45 : mI 327 45 = (26, 1497, 274, 206, 0) := by decide +kernel
theorem mi_327_48 : mI 327 48 = (16, 18, 0, 66, 0) := by decide +kernel
theorem mi_327_51 : mI 327 51 = (5, 0, 0, 0, 0) := by decide +kernel
theorem mi_327_52 : mI 327 52 = (17, 1207, 9, 11, 1) := by decide +kernel
theorem mi_327_55 : mI 327 55 = (1, 66, 1, 0, 0) := by decide +kernel
theorem mi_327_57 : mI 327 57 = (1, 6, 1, 0, 0) := by decide +kernel
theorem mi_327_59 : mI 327 59 = (3, 0, 1, 0, 0) := by decide +kernel
theorem mi_327_60 : mI 327 60 = (10, 0, 2, 0, 0) := by decide +kernel
theorem mi_327_61 : mI 327 61 = (10, 0, 0, 0, 0) := by decide +kernel
theorem mi_327_62 : mI 327 62 = (3, 0, 4, 1, 0) := by decide +kernel
theorem mi_327_64 : mI 327 64 = (10, 0, 0, 0, 0) := by decide +kernel
theorem mi_327_65 : mI 327 65 = (19, 0, 0, 0, 0) := by decide +kernel
theorem mi_327_66 : mI 327 66 = (5, 0, 0, 0, 0) := by decide +kernel
theorem mi_327_67 : mI 327 67 = (3, 0, 3, 0, 0) := by decide +kernel
theorem mi_327_68 : mI 327 68 = (1, 2, 0, 0, 0) := by decide +kernel
theorem mi_327_69 : mI 327 69 = (26, 1489, 258, 208, 0) := by decide +kernel
theorem mi_327_72 : mI 327 72 = (26, 1517, 255, 195, 1) := by decide +kernel
theorem mi_327_75 : mI 327 75 = (14, 9, 1, 84, 0) := by decide +kernel
theorem mi_327_78 : mI 327 78 = (1, 1, 0, 0, 0) := by decide +kernel
theorem mi_327_79 : mI 327 79 = (3, 0, 3, 0, 0) := by decide +kernel
theorem mi_327_80 : mI 327 80 = (10, 0, 8, 0, 0) := by decide +kernel
theorem mi_327_81 : mI 327 81 = (16, 4, 0, 85, 0) := by decide +kernel
theorem mi_327_84 : mI 327 84 = (1, 0, 0, 0, 0) := by decide +kernel
theorem mi_327_85 : mI 327 85 = (10, 0, 6, 0, 0) := by decide +kernel
theorem mi_327_86 : mI 327 86 = (6, 0, 2, 0, 0) := by decide +kernel
theorem mi_327_87 : mI 327 87 = (9, 1, 3, 0, 0) := by decide +kernel
theorem mi_327_90 : mI 327 90 = (16, (-86), 0, 4, 0) := by decide +kernel
theorem mi_327_93 : mI 327 93 = (3, 0, 2, 0, 0) := by decide +kernel
theorem mi_327_94 : mI 327 94 = (27, 0, 0, 0, 0) := by decide +kernel
theorem mi_329_0 : mI 329 0 = (2, 0, 0, 0, 0) := by decide +kernel
theorem mi_329_1 : mI 329 1 = (7, 0, 4, 1, 0) := by decide +kernel
theorem mi_329_3 : mI 329 3 = (1, 0, 0, 0, 0) := by decide +kernel
theorem mi_329_4 : mI 329 4 = (6, 0, 6, 1, 0) := by decide +kernel
theorem mi_329_6 : mI 329 6 = (3, 0, 6, 1, 0) := by decide +kernel
theorem mi_329_8 : mI 329 8 = (3, 0, 3, 0, 0) := by decide +kernel
theorem mi_329_9 : mI 329 9 = (15, 145, 4, 154, 0) := by decide +kernel
theorem mi_329_12 : mI 329 12 = (3, 0, 6, 1, 0) := by decide +kernel
theorem mi_329_14 : mI 329 14 = (3, 0, 3, 0, 0) := by decide +kernel
theorem mi_329_15 : mI 329 15 = (1, (-1), 0, 0, 0) := by decide +kernel
theorem mi_329_16 : mI 329 16 = (10, 0, 7, 0, 0) := by decide +kernel
theorem mi_329_17 : mI 329 17 = (10, 0, 5, 0, 0) := by decide +kernel
theorem mi_329_18 : mI 329 18 = (14, 6, 0, 24, 0) := by decide +kernel
theorem mi_329_21 : mI 329 21 = (16, 127, 0, 148, 0) := by decide +kernel
theorem mi_329_24 : mI 329 24 = (2, 1, 0, 0, 0) := by decide +kernel
theorem mi_329_25 : mI 329 25 = (7, 0, 7, 1, 0) := by decide +kernel
theorem mi_329_27 : mI 329 27 = (1, 0, 0, 0, 0) := by decide +kernel
theorem mi_329_28 : mI 329 28 = (6, 0, 9, 1, 0) := by decide +kernel
theorem mi_329_30 : mI 329 30 = (3, 0, 9, 1, 0) := by decide +kernel
theorem mi_329_32 : mI 329 32 = (1, 12, 1, 0, 0) := by decide +kernel
theorem mi_329_34 : mI 329 34 = (15, 64, 3, 98, 0) := by decide +kernel
theorem mi_329_37 : mI 329 37 = (4, 0, 7, 1, 0) := by decide +kernel
theorem mi_329_39 : mI 329 39 = (3, 0, 3, 0, 0) := by decide +kernel
theorem mi_329_40 : mI 329 40 = (3, 0, 9, 1, 0) := by decide +kernel
theorem mi_329_42 : mI 329 42 = (26, 1517, 255, 195, 1) := by decide +kernel
theorem mi_329_45 : mI 329 45 = (14, 7, 1, 52, 0) := by decide +kernel
theorem mi_329_48 : mI 329 48 = (2, 1, 0, 0, 0) := by decide +kernel
theorem mi_329_49 : mI 329 49 = (16, 40, 0, 89, 0) := by decide +kernel
theorem mi_329_52 : mI 329 52 = (3, 0, 6, 1, 0) := by decide +kernel
theorem mi_329_54 : mI 329 54 = (3, 0, 9, 1, 0) := by decide +kernel
theorem mi_329_56 : mI 329 56 = (26, 1517, 255, 195, 1) := by decide +kernel
theorem mi_329_59 : mI 329 59 = (1, 1, 0, 0, 0) := by decide +kernel
theorem mi_329_60 : mI 329 60 = (15, 16, 1, 76, 0) := by decide +kernel
theorem mi_329_63 : mI 329 63 = (5, 0, 0, 0, 0) := by decide +kernel
theorem mi_329_64 : mI 329 64 = (17, 1207, 9, 11, 1) := by decide +kernel
theorem mi_329_67 : mI 329 67 = (1, 54, 1, 0, 0) := by decide +kernel
theorem mi_329_69 : mI 329 69 = (3, 0, 1, 0, 0) := by decide +kernel
theorem mi_329_70 : mI 329 70 = (10, 0, 0, 0, 0) := by decide +kernel
theorem mi_329_71 : mI 329 71 = (19, 0, 0, 0, 0) := by decide +kernel
theorem mi_329_72 : mI 329 72 = (12, 0, 1, 0, 0) := by decide +kernel
theorem mi_329_73 : mI 329 73 = (16, 16, 0, 89, 0) := by decide +kernel
theorem mi_329_76 : mI 329 76 = (1, 100, 1, 0, 0) := by decide +kernel
theorem mi_329_78 : mI 329 78 = (5, 0, 0, 0, 0) := by decide +kernel
theorem mi_329_79 : mI 329 79 = (17, 1207, 9, 11, 1) := by decide +kernel
theorem mi_329_82 : mI 329 82 = (1, 54, 1, 0, 0) := by decide +kernel
theorem mi_329_84 : mI 329 84 = (3, 0, 1, 0, 0) := by decide +kernel
theorem mi_329_85 : mI 329 85 = (10, 0, 0, 0, 0) := by decide +kernel
theorem mi_329_86 : mI 329 86 = (19, 0, 0, 0, 0) := by decide +kernel
theorem mi_329_87 : mI 329 87 = (10, 0, 1, 0, 0) := by decide +kernel
theorem mi_329_88 : mI 329 88 = (12, 0, 1, 0, 0) := by decide +kernel
theorem mi_329_89 : mI 329 89 = (11, 0, 2, 0, 0) := by decide +kernel
theorem mi_329_90 : mI 329 90 = (7, 0, 7, 1, 0) := by decide +kernel
theorem mi_329_92 : mI 329 92 = (9, 1, 9, 0, 0) := by decide +kernel
theorem mi_329_95 : mI 329 95 = (16, (-65), 0, 30, 0) := by decide +kernel
theorem mi_329_98 : mI 329 98 = (4, 0, 7, 1, 0) := by decide +kernel
theorem mi_329_100 : mI 329 100 = (2, 0, 0, 0, 0) := by decide +kernel
theorem mi_329_101 : mI 329 101 = (13, 0, 0, 0, 0) := by decide +kernel
theorem mi_329_102 : mI 329 102 = (14, 6, 1, 108, 0) := by decide +kernel
theorem mi_329_105 : mI 329 105 = (16, 43, 0, 148, 0) := by decide +kernel
theorem mi_329_108 : mI 329 108 = (5, 0, 0, 0, 0) := by decide +kernel
theorem mi_329_109 : mI 329 109 = (3, 0, 1, 0, 0) := by decide +kernel
theorem mi_329_110 : mI 329 110 = (18, 1228, 49, 11, 22) := by decide +kernel
theorem mi_329_113 : mI 329 113 = (5, 0, 0, 0, 0) := by decide +kernel
theorem mi_329_114 : mI 329 114 = (3, 0, 6, 1, 0) := by decide +kernel
theorem mi_329_116 : mI 329 116 = (18, 1229, 252, 11, 23) := by decide +kernel
theorem mi_329_119 : mI 329 119 = (5, 0, 0, 0, 0) := by decide +kernel
theorem mi_329_120 : mI 329 120 = (26, 1505, 301, 238, 0) := by decide +kernel
theorem mi_329_123 : mI 329 123 = (5, 0, 0, 0, 0) := by decide +kernel
theorem mi_329_124 : mI 329 124 = (1, (-1), 0, 0, 0) := by decide +kernel
theorem mi_329_125 : mI 329 125 = (18, 1228, 49, 11, 22) := by decide +kernel
theorem mi_329_128 : mI 329 128 = (4, 0, 4, 1, 0) := by decide +kernel
theorem mi_329_130 : mI 329 130 = (5, 0, 0, 0, 0) := by decide +kernel
theorem mi_329_131 : mI 329 131 = (3, 0, 1, 0, 0) := by decide +kernel
theorem mi_329_132 : mI 329 132 = (3, 0, 2, 0, 0) := by decide +kernel
theorem mi_329_133 : mI 329 133 = (26, 1697, 347, 242, 0) := by decide +kernel
theorem mi_329_136 : mI 329 136 = (14, 8, 0, 144, 0) := by decide +kernel
theorem mi_329_139 : mI 329 139 = (4, 0, 7, 1, 0) := by decide +kernel
theorem mi_329_141 : mI 329 141 = (16, 4, 0, 145, 0) := by decide +kernel
theorem mi_329_144 : mI 329 144 = (2, 0, 0, 0, 0) := by decide +kernel
theorem mi_329_145 : mI 329 145 = (11, 0, 0, 0, 0) := by decide +kernel
theorem mi_329_146 : mI 329 146 = (7, 0, 4, 1, 0) := by decide +kernel
theorem mi_329_148 : mI 329 148 = (9, 1, 6, 0, 0) := by decide +kernel
theorem mi_329_151 : mI 329 151 = (16, (-145), 0, 6, 0) := by decide +kernel
theorem mi_329_154 : mI 329 154 = (4, 0, 4, 1, 0) := by decide +kernel
theorem mi_329_156 : mI 329 156 = (27, 0, 1, 0, 0) := by decide +kernel
theorem mi_330_0 : mI 330 0 = (5, 0, 0, 0, 0) := by decide +kernel
theorem mi_330_1 : mI 330 1 = (3, 0, 1, 0, 0) := by decide +kernel
theorem mi_330_2 : mI 330 2 = (3, 0, 2, 0, 0) := by decide +kernel
theorem mi_330_3 : mI 330 3 = (26, 1553, 304, 200, 0) := by decide +kernel
theorem mi_330_6 : mI 330 6 = (14, 13, 0, 19, 0) := by decide +kernel
theorem mi_330_9 : mI 330 9 = (3, 0, 3, 0, 0) := by decide +kernel
theorem mi_330_10 : mI 330 10 = (12, 0, 1, 0, 0) := by decide +kernel
theorem mi_330_11 : mI 330 11 = (2, 0, 0, 0, 0) := by decide +kernel
theorem mi_330_12 : mI 330 12 = (2, 1, 0, 0, 0) := by decide +kernel
theorem mi_330_13 : mI 330 13 = (26, 1321, 85, 193, 1) := by decide +kernel
theorem mi_330_16 : mI 330 16 = (14, 7, 1, 23, 0) := by decide +kernel
theorem mi_330_19 : mI 330 19 = (2, (-2), 1, 445, 1889) := by decide +kernel
theorem mi_330_22 : mI 330 22 = (27, 0, 1, 0, 0) := by decide +kernel
theorem mi_330_23 : mI 330 23 = (5, 0, 0, 0, 0) := by decide +kernel
theorem mi_330_24 : mI 330 24 = (26, 1505, 301, 238, 0) := by decide +kernel
theorem mi_330_27 : mI 330 27 = (5, 0, 0, 0, 0) := by decide +kernel
theorem mi_330_28 : mI 330 28 = (3, 0, 1, 0, 0) := by decide +kernel
theorem mi_330_29 : mI 330 29 = (26, 1890, 447, 327, 0) := by decide +kernel
theorem mi_330_32 : mI 330 32 = (6, 0, 4, 1, 0) := by decide +kernel
theorem mi_330_34 : mI 330 34 = (3, 0, 4, 1, 0) := by decide +kernel
theorem mi_330_36 : mI 330 36 = (26, 1598, 317, 194, 1) := by decide +kernel
theorem mi_330_39 : mI 330 39 = (1, 8, 1, 0, 0) := by decide +kernel
theorem mi_330_41 : mI 330 41 = (15, 7, 5, 48, 0) := by decide +kernel
theorem mi_330_44 : mI 330 44 = (2, (-1), 1, 450, 1894) := by decide +kernel
theorem mi_330_47 : mI 330 47 = (27, 0, 1, 0, 0) := by decide +kernel
theorem mi_330_48 : mI 330 48 = (2, 1, 0, 0, 0) := by decide +kernel
theorem mi_330_49 : mI 330 49 = (7, 0, 5, 1, 0) := by decide +kernel
theorem mi_330_51 : mI 330 51 = (3, 0, 4, 1, 0) := by decide +kernel
theorem mi_330_53 : mI 330 53 = (26, 1598, 317, 194, 1) := by decide +kernel
theorem mi_330_56 : mI 330 56 = (6, 0, 7, 1, 0) := by decide +kernel
theorem mi_330_58 : mI 330 58 = (3, 0, 7, 1, 0) := by decide +kernel
theorem mi_330_60 : mI 330 60 = (14, 17, 5, 77, 0) := by decide +kernel
theorem mi_330_63 : mI 330 63 = (4, 0, 5, 1, 0) := by decide +kernel
theorem mi_330_65 : mI 330 65 = (2, 100, 1, 243, 1532) := by decide +kernel
theorem mi_330_68 : mI 330 68 = (11, 0, 2, 0, 0) := by decide +kernel
theorem mi_330_69 : mI 330 69 = (7, 0, 5, 1, 0) := by decide +kernel
theorem mi_330_71 : mI 330 71 = (9, (-1), 7, 0, 0) := by decide +kernel
theorem mi_330_74 : mI 330 74 = (16, (-16), 0, 58, 0) := by decide +kernel
theorem mi_330_77 : mI 330 77 = (5, 0, 0, 0, 0) := by decide +kernel
theorem mi_330_78 : mI 330 78 = (3, 0, 1, 0, 0) := by decide +kernel
theorem mi_330_79 : mI 330 79 = (3, 0, 2, 0, 0) := by decide +kernel
theorem mi_330_80 : mI 330 80 = (3, 0, 4, 1, 0) := by decide +kernel
theorem mi_330_82 : mI 330 82 = (26, 1895, 452, 329, 0) := by decide +kernel
theorem mi_330_85 : mI 330 85 = (7, 0, 7, 1, 0) := by decide +kernel
theorem mi_330_87 : mI 330 87 = (3, 0, 3, 0, 0) := by decide +kernel
theorem mi_330_88 : mI 330 88 = (14, 8, 1, 96, 0) := by decide +kernel
theorem mi_330_91 : mI 330 91 = (4, 0, 7, 1, 0) := by decide +kernel
theorem mi_330_93 : mI 330 93 = (16, 5, 0, 98, 0) := by decide +kernel
theorem mi_330_96 : mI 330 96 = (4, 0, 5, 1, 0) := by decide +kernel
theorem mi_330_98 : mI 330 98 = (4, 0, 7, 1, 0) := by decide +kernel
theorem mi_330_100 : mI 330 100 = (4, 0, 5, 1, 0) := by decide +kernel
theorem mi_330_102 : mI 330 102 = (26, 1899, 456, 328, 1) := by decide +kernel
theorem mi_330_105 : mI 330 105 = (11, 0, 3, 0, 0) := by decide +kernel
theorem mi_330_106 : mI 330 106 = (27, 0, 1, 0, 0) := by decide +kernel
section XXC
variable {l : Launch} {D : va_G} {tys : List (ClassId × FieldType)} {A : Nat → Prop} {ad : Nat → Nat} {ws : va_W}
theorem lmI (a b : Int) : lbF 2 (Int64.ofInt a) (Int64.ofInt b) = Int64.ofInt (a * b) := by
  show Int64.ofInt _ * Int64.ofInt _ = _
  rw [← Int64.ofInt_mul]
theorem ladI (a b : Int) : lbF 0 (Int64.ofInt a) (Int64.ofInt b) = Int64.ofInt (a + b) := by
  show Int64.ofInt _ + Int64.ofInt _ = _
  rw [← Int64.ofInt_add]
theorem lrI {a b : Nat} (ha : a ≤ 9223372036854775807) (hb : 0 < b) (b9 : b ≤ 9223372036854775807) : lbF 4 (Int64.ofInt (a : Int)) (Int64.ofInt (b : Int)) = Int64.ofInt ((a % b : Nat) : Int) := by
  show Int64.ofInt (a : Int) - Int64.ofInt (a : Int) / Int64.ofInt (b : Int) * Int64.ofInt (b : Int) = _
  rw [div64 (by omega) (by omega) (by omega) (by omega), ← Int64.ofInt_mul, ← Int64.ofInt_sub]
  have k : a / b * b + a % b = a := by
    rw [Nat.mul_comm]
    exact Nat.div_add_mod a b
  have k2 : (a : Int).tdiv (b : Int) * (b : Int) = ((a / b * b : Nat) : Int) := rfl
  rw [k2, show (a : Int) - ((a / b * b : Nat) : Int) = ((a % b : Nat) : Int) by omega]
theorem nz64 {b : Int} (hb : 0 < b) (b9 : b ≤ 9223372036854775807) : ¬ Int64.ofInt b = 0 := fun z => by
  have e : (Int64.ofInt b).toInt = b := Int64.toInt_ofInt_of_le (by omega) (by omega)
  rw [z] at e
  have e : (0 : Int) = b := e
  omega
/-- all hear but the one that misses some -/
noncomputable def heM (f : Nat) (hz : Int32) : Nat → Int → Nat → Bool := fun s _ g => !(Nat.beq g f && huB hz s)
noncomputable def msS (G : Nat → Int) (f : Nat) (hz : Int32) (h : Nat) : TT × Int := tellW G huF (heM f hz) dxI 0 h
noncomputable def msB (G : Nat → Int) (f : Nat) (hz : Int32) (o : Nat) : Bool := decide ((msS G f hz (G 2).toNat).1.K (6 * f + o) = allV (G (6 + 7 * o)))
/-- what a way of missing some weighs, if it ends whole -/
noncomputable def gwN (G : Nat → Int) (f o t x : Nat) : Int := if msB G f (Int32.ofInt (x : Int)) o = true then wgN t x (G (54 + f)) 12 else 0
theorem gwN_y {G : Nat → Int} {f o t x : Nat} (h : msB G f (Int32.ofInt (x : Int)) o = true) : gwN G f o t x = wgN t x (G (54 + f)) 12 := if_pos h
theorem gwN_n {G : Nat → Int} {f o t x : Nat} (h : msB G f (Int32.ofInt (x : Int)) o = false) : gwN G f o t x = 0 := if_neg (by rw [h]; exact Bool.false_ne_true)
theorem gwN_0 {G : Nat → Int} {f o t x : Nat} (h : wgN t x (G (54 + f)) 12 = 0) : gwN G f o t x = 0 := by
  unfold gwN
  split
  · exact h
  · rfl
/-- the tellings that tell him something new -/
noncomputable def ntP (G : Nat → Int) (f s : Nat) : Bool := huB (Int32.ofInt ((tellT G (G 2).toNat).hb s)) f && !(huB (Int32.ofInt (iniK G (6 * f + sWhs G s))) (sWhi G s))
noncomputable def nwN (P : Nat → Bool) : Nat → Nat
  | 0 => 0
  | n + 1 => if P n = true then nwN P n + 2 ^ n else nwN P n
theorem nwN_y {P : Nat → Bool} {n : Nat} (h : P n = true) : nwN P (n + 1) = nwN P n + 2 ^ n := if_pos h
theorem nwN_n {P : Nat → Bool} {n : Nat} (h : P n = false) : nwN P (n + 1) = nwN P n := if_neg (by rw [h]; exact Bool.false_ne_true)
theorem nwN_lt {P : Nat → Bool} : ∀ n : Nat, nwN P n < 2 ^ n
  | 0 => by show 0 < 2 ^ 0; decide
  | n + 1 => by
    have ih := nwN_lt (P := P) n
    rw [Nat.pow_succ]
    unfold nwN
    split <;> omega
theorem orT_all : (List.range 12).all (fun s => (List.range (2 ^ s)).all (fun a => decide (ibF 6 (Int32.ofInt ((a : Nat) : Int)) (Int32.ofInt ((2 ^ s : Nat) : Int)) = Int32.ofInt ((a + 2 ^ s : Nat) : Int)))) = true := by decide +kernel
theorem orT {s a : Nat} (hs : s < 12) (ha : a < 2 ^ s) : ibF 6 (Int32.ofInt (a : Int)) (Int32.ofInt ((2 ^ s : Nat) : Int)) = Int32.ofInt ((a + 2 ^ s : Nat) : Int) := of_decide_eq_true (List.all_eq_true.mp (List.all_eq_true.mp orT_all s (List.mem_range.mpr hs)) a (List.mem_range.mpr ha))
theorem or0N (a : Nat) : ibF 6 (Int32.ofInt (a : Int)) (Int32.ofInt 0) = Int32.ofInt (a : Int) := by
  show Int32.ofInt (a : Int) ||| 0 = _
  exact Int32.or_zero
theorem mww_8 {G : Nat → Int} {w0 : va_W} (hX0 : HX 4 G w0) (hS0 : STO G w0) (hB : HB G) (wf : WF G) {f o : Nat} {hz : Int32} (hf : (f : Int) < G 3) {h : Nat} {post : Option Value → va_W → Prop} : ∀ (m s : Nat) (S : TT × Int) (ws : va_W), s + m = (G 4).toNat → kOK S.1.K → GOK ad tys GG ws → XSC w0 ws → XKN G S.1.K ws → (∀ w : va_W, GOK ad tys GG w → XSC w0 w → XKN G (sayW G huF (heM f hz) dxI h m s S).1.K w → kOK (sayW G huF (heM f hz) dxI h m s S).1.K → V l D tys A 94 4 0 0 post 0 0 8 [(0, .ref (ad 28)), (1, .ref (ad 4)), (2, .int (Int32.ofInt ((f : Int)))), (3, .int (Int32.ofInt ((o : Int)))), (4, .int (hz)), (5, .int (Int32.ofInt (((cntH G (G 4).toNat (h + 1) : Nat) : Int))))] [] w) → V l D tys A 94 4 0 0 post 0 0 8 [(0, .ref (ad 28)), (1, .ref (ad 4)), (2, .int (Int32.ofInt ((f : Int)))), (3, .int (Int32.ofInt ((o : Int)))), (4, .int (hz)), (5, .int (Int32.ofInt (((cntH G (G 4).toNat h + cntS G h s : Nat) : Int))))] [] ws
  | 0, s, S, ws, hm, hk, hG, hO, hK, kk => by
    have e : cntH G (G 4).toNat (h + 1) = cntH G (G 4).toNat h + cntS G h s := by rw [show s = (G 4).toNat by omega]; rfl
    rw [e] at kk
    exact kk ws hG hO hK hk
  | m + 1, s, S, ws, hm, hk, hG, hO, hK, kk => by
    by_cases e : sWhn G s = h
    · have hX : HX 4 G ws := XSC_X hO hX0
      have b3 := hB.b3
      have b4 := hB.b4
      have wn := WF_n hB wf
      have ep : pos G (G 4).toNat s = cntH G (G 4).toNat h + cntS G h s := by unfold pos; rw [e]
      have pn : pos G (G 4).toNat s < (G 4).toNat := pos_n wn (by omega)
      obtain ⟨⟨w6, o6, i6, n24⟩, g0, g1, g2, g3⟩ := say_b hB (s := s) (by omega)
      have hord : rd ws 29 (cntH G (G 4).toNat h + cntS G h s) = some (.int (Int32.ofInt (s : Int))) := by rw [← ep]; exact (hO 29 _ (by omega)).trans (hS0.1 s (by omega))
      have hprs : rd ws 30 s = some (.int (Int32.ofInt (orI (preP G s) (G 3).toNat))) := (hO 30 _ (by omega)).trans (hS0.2.1 s (by omega))
      have ec : cntS G h (s + 1) = cntS G h s + 1 := cntS_hit e
      have es : sayW G huF (heM f hz) dxI h (m + 1) s S = sayW G huF (heM f hz) dxI h m (s + 1) (oneW G huF (heM f hz) dxI s S) := by
        show sayW G huF (heM f hz) dxI h m (s + 1) (if sWhn G s = h then oneW G huF (heM f hz) dxI s S else S) = _
        rw [if_pos e]
      rw [es] at kk
      refine V_iload (v := Int32.ofInt (((cntH G (G 4).toNat h + cntS G h s : Nat) : Int))) mi_94_8 (by simp [stL, stL2, lv_args, Value.category]) ?_
      refine V_aload (v := ad 4) mi_94_10 (by simp [stL, stL2, lv_args, Value.category]) ?_
      refine V_gO mi_94_11 g4o hG (show rd _ 4 5 = some (.int (Int32.ofInt (G 4))) from hx0 hX (i := 5) (by omega)) ?_
      refine V_cge mi_94_14 ⟨by omega, by omega⟩ ⟨by omega, by omega⟩ (fun q => ?_) (fun q => ?_)
      · exact absurd q (by omega)
      · refine V_aload (v := ad 28) mi_94_17 (by simp [stL, stL2, lv_args, Value.category]) ?_
        refine V_iload (v := Int32.ofInt (((cntH G (G 4).toNat h + cntS G h s : Nat) : Int))) mi_94_18 (by simp [stL, stL2, lv_args, Value.category]) ?_
        refine V_cO (As := [.int (Int32.ofInt (((cntH G (G 4).toNat h + cntS G h s : Nat) : Int)))]) (st := []) mi_94_20 (by omega) (by decide +kernel) (by decide +kernel) (by omega) g28o hG (ino_ct (s := cntH G (G 4).toNat h + cntS G h s) hG (by omega) hord) (by omega) (show 1 = mN 90 by decide +kernel) (by simp [Value.category]) ?_
        rintro r w1 ⟨e1, rfl⟩
        rw [e1]
        refine V_istore mi_94_23 ?_
        refine V_aload (v := ad 28) mi_94_25 (by simp [stL, stL2, lv_args, Value.category]) ?_
        refine V_aload (v := ad 4) mi_94_26 (by simp [stL, stL2, lv_args, Value.category]) ?_
        refine V_iload (v := Int32.ofInt ((s : Int))) mi_94_27 (by simp [stL, stL2, lv_args, Value.category]) ?_
        refine V_cO (As := [.ref (ad 4), .int (Int32.ofInt ((s : Int)))]) (st := []) mi_94_29 (by omega) (by decide +kernel) (by decide +kernel) (by omega) g28o hG (csy_ct hG hX hB wf hk hK (s := s) (by omega)) (by omega) (show 2 = mN 91 by decide +kernel) (by simp [Value.category]) ?_
        rintro r w2 ⟨e2, rfl⟩
        rw [e2]
        refine V_beq mi_94_32  (fun q3 => ?_) (fun q3 => ?_)
        · refine V_iinc (v := Int32.ofInt (((cntH G (G 4).toNat h + cntS G h s : Nat) : Int))) mi_94_78 (by simp [stL, stL2, lv_args, Value.category]) ?_
          rw [ia2]
          rw [show ((cntH G (G 4).toNat h + cntS G h s : Nat) : Int) + (1) = ((cntH G (G 4).toNat h + cntS G h (s + 1) : Nat) : Int) by omega]
          refine V_goto mi_94_81 ?_
          refine V_sub (lv' := [(0, .ref (ad 28)), (1, .ref (ad 4)), (2, .int (Int32.ofInt ((f : Int)))), (3, .int (Int32.ofInt ((o : Int)))), (4, .int (hz)), (5, .int (Int32.ofInt (((cntH G (G 4).toNat h + cntS G h (s + 1) : Nat) : Int))))]) (fun q hq => ?_) ?_
          · simp only [List.mem_cons, List.not_mem_nil, or_false] at hq
            rcases hq with rfl | rfl | rfl | rfl | rfl | rfl <;> simp [stL, stL2, lv_args, Value.category]
          exact mww_8 hX0 hS0 hB wf hf m (s + 1) _ ws (by omega) (oneW_ok hk i6) hG hO (by unfold oneW; rw [if_neg (fun k => by rw [q3] at k; exact absurd k.2 Bool.false_ne_true)]; exact hK) kk
        · refine V_iload (v := hz) mi_94_35 (by simp [stL, stL2, lv_args, Value.category]) ?_
          refine V_iload (v := Int32.ofInt ((s : Int))) mi_94_37 (by simp [stL, stL2, lv_args, Value.category]) ?_
          refine V_ibin mi_94_39 (by omega) ?_
          refine V_ipush mi_94_40 ?_
          refine V_ibin mi_94_41 (by omega) ?_
          rw [huB_i]
          refine V_zne mi_94_42 ⟨by split <;> omega, by split <;> omega⟩ (fun q2 => ?_) (fun q2 => ?_)
          · have hn : huB hz s = true := by
              cases c : huB hz s with
              | true => rfl
              | false => exact absurd (by rw [c, if_neg Bool.false_ne_true]) q2
            refine V_aload (v := ad 28) mi_94_54 (by simp [stL, stL2, lv_args, Value.category]) ?_
            refine V_iload (v := Int32.ofInt ((s : Int))) mi_94_55 (by simp [stL, stL2, lv_args, Value.category]) ?_
            refine V_cO (As := [.int (Int32.ofInt ((s : Int)))]) (st := []) mi_94_57 (by omega) (by decide +kernel) (by decide +kernel) (by omega) g28o hG (prs_ct (s := s) hG (by omega) hprs) (by omega) (show 1 = mN 89 by decide +kernel) (by simp [Value.category]) ?_
            rintro r w3 ⟨e3, rfl⟩
            rw [e3]
            refine V_ipush mi_94_60 ?_
            refine V_iload (v := Int32.ofInt ((f : Int))) mi_94_61 (by simp [stL, stL2, lv_args, Value.category]) ?_
            refine V_ibin mi_94_62 (by omega) ?_
            refine V_ipush mi_94_63 ?_
            refine V_ibin mi_94_64 (by omega) ?_
            refine V_ibin mi_94_65 (by omega) ?_
            rw [clB_i, orI_cl (Q := pW G (heM f hz) s S.2) (by omega) (by omega) (fun g _ => by unfold pW heM; rw [hn, Bool.and_true])]
            change V _ _ _ _ _ _ _ _ _ _ _ _ _ [.int (Int32.ofInt (orI (pW G (heM f hz) s S.2) (G 3).toNat))] _
            refine V_istore mi_94_66 ?_
            refine V_aload (v := ad 28) mi_94_68 (by simp [stL, stL2, lv_args, Value.category]) ?_
            refine V_aload (v := ad 4) mi_94_69 (by simp [stL, stL2, lv_args, Value.category]) ?_
            refine V_iload (v := Int32.ofInt ((s : Int))) mi_94_70 (by simp [stL, stL2, lv_args, Value.category]) ?_
            refine V_iload (v := Int32.ofInt (orI (pW G (heM f hz) s S.2) (G 3).toNat)) mi_94_72 (by simp [stL, stL2, lv_args, Value.category]) ?_
            refine V_cO (As := [.ref (ad 4), .int (Int32.ofInt ((s : Int))), .int (Int32.ofInt (orI (pW G (heM f hz) s S.2) (G 3).toNat))]) (st := []) mi_94_74 (by omega) (by decide +kernel) (by decide +kernel) (by omega) g28o hG (sprw_ct (P := pW G (heM f hz) s S.2) hG hX hB hk hK (s := s) (by omega)) (by omega) (show 3 = mN 92 by decide +kernel) (by simp [Value.category]) ?_
            rintro r w4 ⟨rfl, G4, k4, o4⟩
            refine V_pop mi_94_77 (by simp [Value.category]) ?_
            refine V_iinc (v := Int32.ofInt (((cntH G (G 4).toNat h + cntS G h s : Nat) : Int))) mi_94_78 (by simp [stL, stL2, lv_args, Value.category]) ?_
            rw [ia2]
            rw [show ((cntH G (G 4).toNat h + cntS G h s : Nat) : Int) + (1) = ((cntH G (G 4).toNat h + cntS G h (s + 1) : Nat) : Int) by omega]
            refine V_goto mi_94_81 ?_
            refine V_sub (lv' := [(0, .ref (ad 28)), (1, .ref (ad 4)), (2, .int (Int32.ofInt ((f : Int)))), (3, .int (Int32.ofInt ((o : Int)))), (4, .int (hz)), (5, .int (Int32.ofInt (((cntH G (G 4).toNat h + cntS G h (s + 1) : Nat) : Int))))]) (fun q hq => ?_) ?_
            · simp only [List.mem_cons, List.not_mem_nil, or_false] at hq
              rcases hq with rfl | rfl | rfl | rfl | rfl | rfl <;> simp [stL, stL2, lv_args, Value.category]
            exact mww_8 hX0 hS0 hB wf hf m (s + 1) _ w4 (by omega) (oneW_ok hk i6) G4 (fun c j hc => (o4 c j (by omega)).trans (hO c j hc)) (by unfold oneW; rw [if_pos ⟨rfl, q3⟩]; exact k4) kk
          · have hn : huB hz s = false := by
              cases c : huB hz s with
              | false => rfl
              | true => exact absurd (by rw [c, if_pos rfl] at q2; exact q2) (by omega)
            refine V_aload (v := ad 28) mi_94_45 (by simp [stL, stL2, lv_args, Value.category]) ?_
            refine V_iload (v := Int32.ofInt ((s : Int))) mi_94_46 (by simp [stL, stL2, lv_args, Value.category]) ?_
            refine V_cO (As := [.int (Int32.ofInt ((s : Int)))]) (st := []) mi_94_48 (by omega) (by decide +kernel) (by decide +kernel) (by omega) g28o hG (prs_ct (s := s) hG (by omega) hprs) (by omega) (show 1 = mN 89 by decide +kernel) (by simp [Value.category]) ?_
            rintro r w3 ⟨e3, rfl⟩
            rw [e3, show orI (preP G s) (G 3).toNat = orI (pW G (heM f hz) s S.2) (G 3).toNat from orI_cg _ (fun g _ => by unfold pW heM; rw [hn, Bool.and_false, Bool.not_false, Bool.and_true])]
            refine V_goto mi_94_51 ?_
            change V _ _ _ _ _ _ _ _ _ _ _ _ _ [.int (Int32.ofInt (orI (pW G (heM f hz) s S.2) (G 3).toNat))] _
            refine V_istore mi_94_66 ?_
            refine V_aload (v := ad 28) mi_94_68 (by simp [stL, stL2, lv_args, Value.category]) ?_
            refine V_aload (v := ad 4) mi_94_69 (by simp [stL, stL2, lv_args, Value.category]) ?_
            refine V_iload (v := Int32.ofInt ((s : Int))) mi_94_70 (by simp [stL, stL2, lv_args, Value.category]) ?_
            refine V_iload (v := Int32.ofInt (orI (pW G (heM f hz) s S.2) (G 3).toNat)) mi_94_72 (by simp [stL, stL2, lv_args, Value.category]) ?_
            refine V_cO (As := [.ref (ad 4), .int (Int32.ofInt ((s : Int))), .int (Int32.ofInt (orI (pW G (heM f hz) s S.2) (G 3).toNat))]) (st := []) mi_94_74 (by omega) (by decide +kernel) (by decide +kernel) (by omega) g28o hG (sprw_ct (P := pW G (heM f hz) s S.2) hG hX hB hk hK (s := s) (by omega)) (by omega) (show 3 = mN 92 by decide +kernel) (by simp [Value.category]) ?_
            rintro r w4 ⟨rfl, G4, k4, o4⟩
            refine V_pop mi_94_77 (by simp [Value.category]) ?_
            refine V_iinc (v := Int32.ofInt (((cntH G (G 4).toNat h + cntS G h s : Nat) : Int))) mi_94_78 (by simp [stL, stL2, lv_args, Value.category]) ?_
            rw [ia2]
            rw [show ((cntH G (G 4).toNat h + cntS G h s : Nat) : Int) + (1) = ((cntH G (G 4).toNat h + cntS G h (s + 1) : Nat) : Int) by omega]
            refine V_goto mi_94_81 ?_
            refine V_sub (lv' := [(0, .ref (ad 28)), (1, .ref (ad 4)), (2, .int (Int32.ofInt ((f : Int)))), (3, .int (Int32.ofInt ((o : Int)))), (4, .int (hz)), (5, .int (Int32.ofInt (((cntH G (G 4).toNat h + cntS G h (s + 1) : Nat) : Int))))]) (fun q hq => ?_) ?_
            · simp only [List.mem_cons, List.not_mem_nil, or_false] at hq
              rcases hq with rfl | rfl | rfl | rfl | rfl | rfl <;> simp [stL, stL2, lv_args, Value.category]
            exact mww_8 hX0 hS0 hB wf hf m (s + 1) _ w4 (by omega) (oneW_ok hk i6) G4 (fun c j hc => (o4 c j (by omega)).trans (hO c j hc)) (by unfold oneW; rw [if_pos ⟨rfl, q3⟩]; exact k4) kk
    · have es : sayW G huF (heM f hz) dxI h (m + 1) s S = sayW G huF (heM f hz) dxI h m (s + 1) S := by
        show sayW G huF (heM f hz) dxI h m (s + 1) (if sWhn G s = h then _ else S) = _
        rw [if_neg e]
      rw [es] at kk
      rw [← cntS_no e]
      exact mww_8 hX0 hS0 hB wf hf m (s + 1) S ws (by omega) hk hG hO hK kk
theorem mwh_8 {G : Nat → Int} {w0 : va_W} (hX0 : HX 4 G w0) (hS0 : STO G w0) (hB : HB G) (wf : WF G) {f o : Nat} {hz : Int32} (hf : (f : Int) < G 3) (ho : o < 6) {post : Option Value → va_W → Prop} : ∀ (m h : Nat) (ws : va_W), ((h + m : Nat) : Int) = G 2 → kOK (msS G f hz h).1.K → GOK ad tys GG ws → XSC w0 ws → XKN G (msS G f hz h).1.K ws → (∀ w : va_W, GOK ad tys GG w → XSC w0 w → post (some (.int (bI (msB G f hz o)))) w) → V l D tys A 94 4 0 0 post 0 0 8 [(0, .ref (ad 28)), (1, .ref (ad 4)), (2, .int (Int32.ofInt ((f : Int)))), (3, .int (Int32.ofInt ((o : Int)))), (4, .int (hz)), (5, .int (Int32.ofInt (((cntH G (G 4).toNat h : Nat) : Int))))] [] ws
  | 0, h, ws, hm, hk, hG, hO, hK, kk => by
    have hX : HX 4 G ws := XSC_X hO hX0
    have b4 := hB.b4
    have b3 := hB.b3
    have e0 : h = (G 2).toNat := by omega
    have ec : cntH G (G 4).toNat h = (G 4).toNat := by rw [e0]; exact cntH_all _ (WF_n hB wf)
    rw [e0] at hK hk
    refine V_iload (v := Int32.ofInt (((cntH G (G 4).toNat h : Nat) : Int))) mi_94_8 (by simp [stL, stL2, lv_args, Value.category]) ?_
    refine V_aload (v := ad 4) mi_94_10 (by simp [stL, stL2, lv_args, Value.category]) ?_
    refine V_gO mi_94_11 g4o hG (show rd _ 4 5 = some (.int (Int32.ofInt (G 4))) from hx0 hX (i := 5) (by omega)) ?_
    refine V_cge mi_94_14 ⟨by omega, by omega⟩ ⟨by omega, by omega⟩ (fun q => ?_) (fun q => ?_)
    · refine V_aload (v := ad 28) mi_94_84 (by simp [stL, stL2, lv_args, Value.category]) ?_
      refine V_iload (v := Int32.ofInt ((f : Int))) mi_94_85 (by simp [stL, stL2, lv_args, Value.category]) ?_
      refine V_iload (v := Int32.ofInt ((o : Int))) mi_94_86 (by simp [stL, stL2, lv_args, Value.category]) ?_
      refine V_cO (As := [.int (Int32.ofInt ((f : Int))), .int (Int32.ofInt ((o : Int)))]) (st := []) mi_94_87 (by omega) (by decide +kernel) (by decide +kernel) (by omega) g28o hG (bts_ct (f := f) (o := o) hG (by omega) ho (hK _ (by omega) (by omega))) (by omega) (show 2 = mN 88 by decide +kernel) (by simp [Value.category]) ?_
      rintro r w2 ⟨e2, rfl⟩
      rw [e2]
      refine V_aload (v := ad 4) mi_94_90 (by simp [stL, stL2, lv_args, Value.category]) ?_
      refine V_iload (v := Int32.ofInt ((o : Int))) mi_94_91 (by simp [stL, stL2, lv_args, Value.category]) ?_
      refine V_cO (As := [.int (Int32.ofInt ((o : Int)))]) (st := [.int (Int32.ofInt ((msS G f hz (G 2).toNat).1.K (6 * f + o)))]) mi_94_92 (by omega) (by decide +kernel) (by decide +kernel) (by omega) g4o hG (alf_ct (f := o) hG hX hB ho) (by omega) (show 1 = mN 108 by decide +kernel) (by simp [Value.category]) ?_
      rintro r w3 ⟨e3, rfl⟩
      rw [e3]
      have bk := hk (6 * f + o) (by omega)
      have ib : I32 (allV (G (6 + 7 * o))) := i32b _
      refine V_cne mi_94_95 ⟨by omega, by omega⟩ ib (fun q2 => ?_) (fun q2 => ?_)
      · refine V_ipush mi_94_102 ?_
        exact V_retI mi_94_103 (fun _ => by decide) (by have k := kk _ hG hO; rw [show msB G f hz o = false from decide_eq_false q2] at k; exact k)
      · refine V_ipush mi_94_98 ?_
        refine V_goto mi_94_99 ?_
        exact V_retI mi_94_103 (fun _ => by decide) (by have k := kk _ hG hO; rw [show msB G f hz o = true from decide_eq_true q2] at k; exact k)
    · exact absurd q (by omega)
  | m + 1, h, ws, hm, hk, hG, hO, hK, kk => by
    have b4 := hB.b4
    have g := mww_8 (l := l) (D := D) (A := A) (f := f) (o := o) (post := post) hX0 hS0 hB wf hf (h := h) (G 4).toNat 0 (msS G f hz h) ws (by omega) hk hG hO hK (fun w g o' k kk2 => mwh_8 hX0 hS0 hB wf hf ho m (h + 1) w (by omega) kk2 g o' k kk)
    exact g
theorem mww_ct {G : Nat → Int} (hG : GOK ad tys GG ws) (hX : HX 4 G ws) (hS : STO G ws) (hB : HB G) (wf : WF G) {f o : Nat} {hz : Int32} (hf : (f : Int) < G 3) (ho : o < 6) : CT l D tys A 94 4 0 0 [.ref (ad 28), .ref (ad 4), .int (Int32.ofInt ((f : Int))), .int (Int32.ofInt ((o : Int))), .int (hz)] ws (fun r w => (GOK ad tys GG w ∧ XSC ws w) ∧ r = some (.int (bI (msB G f hz o)))) := by
  refine CT_of_V (by omega) (show (5 : Nat) ≤ mML 94 by decide +kernel) ?_
  have b2 := hB.b2
  refine V_aload (v := ad 28) mi_94_0 (by simp [stL, stL2, lv_args, Value.category]) ?_
  refine V_aload (v := ad 4) mi_94_1 (by simp [stL, stL2, lv_args, Value.category]) ?_
  refine V_cO (As := [.ref (ad 4)]) (st := []) mi_94_2 (by omega) (by decide +kernel) (by decide +kernel) (by omega) g28o hG (bgn_ct hG hX hB) (by omega) (show 1 = mN 87 by decide +kernel) (by simp [Value.category]) ?_
  rintro r w1 ⟨rfl, G1, k1, o1⟩
  refine V_ipush mi_94_5 ?_
  refine V_istore mi_94_6 ?_
  refine V_sub (lv' := [(0, .ref (ad 28)), (1, .ref (ad 4)), (2, .int (Int32.ofInt ((f : Int)))), (3, .int (Int32.ofInt ((o : Int)))), (4, .int (hz)), (5, .int (Int32.ofInt (0)))]) (fun q hq => ?_) ?_
  · simp only [List.mem_cons, List.not_mem_nil, or_false] at hq
    rcases hq with rfl | rfl | rfl | rfl | rfl | rfl <;> simp [stL, stL2, lv_args, Value.category]
  rw [show Int32.ofInt (0 : Int) = Int32.ofInt ((cntH G (G 4).toNat 0 : Nat) : Int) from rfl]
  exact mwh_8 hX hS hB wf hf ho (G 2).toNat 0 w1 (by omega) (ini_ok hB) G1 (fun c j hc => o1 c j (by omega)) k1 (fun w g o2 => ⟨⟨g, o2⟩, rfl⟩)
theorem wgx_5 {t x : Nat} {d : Int} (ht : t < 4096) (hx : x < 4096) (d0 : 0 ≤ d) (d1 : d ≤ 100) {post : Option Value → va_W → Prop} : ∀ (k s : Nat), s + k = 12 → post (some (.long (Int64.ofInt (wgN t x d 12)))) ws → V l D tys A 96 0 0 0 post 0 0 5 [(0, .int (Int32.ofInt ((t : Int)))), (1, .int (Int32.ofInt ((x : Int)))), (2, .int (Int32.ofInt (d))), (3, .long (Int64.ofInt (wgN t x d s))), (5, .int (Int32.ofInt ((s : Int))))] [] ws
  | 0, s, hs, kk => by
    refine V_iload (v := Int32.ofInt ((s : Int))) mi_96_5 (by simp [stL, stL2, lv_args, Value.category]) ?_
    refine V_ipush mi_96_7 ?_
    refine V_cge mi_96_9 ⟨by omega, by omega⟩ ⟨by omega, by omega⟩ (fun q => ?_) (fun q => ?_)
    · refine V_lload (v := Int64.ofInt (wgN t x d s)) mi_96_49 (by simp [stL, stL2, lv_args, Value.category]) ?_
      exact V_retL mi_96_50 (by rw [show s = 12 by omega]; exact kk)
    · exact absurd q (by omega)
  | k + 1, s, hs, kk => by
    refine V_iload (v := Int32.ofInt ((s : Int))) mi_96_5 (by simp [stL, stL2, lv_args, Value.category]) ?_
    refine V_ipush mi_96_7 ?_
    refine V_cge mi_96_9 ⟨by omega, by omega⟩ ⟨by omega, by omega⟩ (fun q => ?_) (fun q => ?_)
    · exact absurd q (by omega)
    · have m1 := Nat.mod_lt (t / 2 ^ s) (show 0 < 2 by omega)
      have m2 := Nat.mod_lt (x / 2 ^ s) (show 0 < 2 by omega)
      refine V_iload (v := Int32.ofInt ((t : Int))) mi_96_12 (by simp [stL, stL2, lv_args, Value.category]) ?_
      refine V_iload (v := Int32.ofInt ((s : Int))) mi_96_13 (by simp [stL, stL2, lv_args, Value.category]) ?_
      refine V_ibin mi_96_15 (by omega) ?_
      refine V_ipush mi_96_16 ?_
      refine V_ibin mi_96_17 (by omega) ?_
      rw [bit13 ht (by omega)]
      refine V_zeq mi_96_18 ⟨by omega, by omega⟩ (fun q2 => ?_) (fun q2 => ?_)
      · rw [← wgN_0 (x := x) (d := d) (show t / 2 ^ s % 2 = 0 by omega)]
        refine V_iinc (v := Int32.ofInt ((s : Int))) mi_96_43 (by simp [stL, stL2, lv_args, Value.category]) ?_
        rw [ia2]
        refine V_goto mi_96_46 ?_
        refine V_sub (lv' := [(0, .int (Int32.ofInt ((t : Int)))), (1, .int (Int32.ofInt ((x : Int)))), (2, .int (Int32.ofInt (d))), (3, .long (Int64.ofInt (wgN t x d (s + 1)))), (5, .int (Int32.ofInt (((s + 1 : Nat) : Int))))]) (fun q hq => ?_) ?_
        · simp only [List.mem_cons, List.not_mem_nil, or_false] at hq
          rcases hq with rfl | rfl | rfl | rfl | rfl <;> simp [stL, stL2, lv_args, Value.category]
        exact wgx_5 ht hx d0 d1 k (s + 1) (by omega) kk
      · refine V_lload (v := Int64.ofInt (wgN t x d s)) mi_96_21 (by simp [stL, stL2, lv_args, Value.category]) ?_
        refine V_iload (v := Int32.ofInt ((x : Int))) mi_96_22 (by simp [stL, stL2, lv_args, Value.category]) ?_
        refine V_iload (v := Int32.ofInt ((s : Int))) mi_96_23 (by simp [stL, stL2, lv_args, Value.category]) ?_
        refine V_ibin mi_96_25 (by omega) ?_
        refine V_ipush mi_96_26 ?_
        refine V_ibin mi_96_27 (by omega) ?_
        rw [bit13 hx (by omega)]
        refine V_zeq mi_96_28 ⟨by omega, by omega⟩ (fun q3 => ?_) (fun q3 => ?_)
        · refine V_ipush mi_96_36 ?_
          refine V_iload (v := Int32.ofInt (d)) mi_96_38 (by simp [stL, stL2, lv_args, Value.category]) ?_
          refine V_ibin mi_96_39 (by omega) ?_
          rw [ib1]
          refine V_i2l mi_96_40 ?_
          rw [i2lx ⟨by omega, by omega⟩]
          refine V_lbin mi_96_41 (by omega) ?_
          rw [lmI, ← wgN_2 (show t / 2 ^ s % 2 = 1 by omega) (show x / 2 ^ s % 2 = 0 by omega)]
          refine V_lstore mi_96_42 ?_
          refine V_iinc (v := Int32.ofInt ((s : Int))) mi_96_43 (by simp [stL, stL2, lv_args, Value.category]) ?_
          rw [ia2]
          refine V_goto mi_96_46 ?_
          refine V_sub (lv' := [(0, .int (Int32.ofInt ((t : Int)))), (1, .int (Int32.ofInt ((x : Int)))), (2, .int (Int32.ofInt (d))), (3, .long (Int64.ofInt (wgN t x d (s + 1)))), (5, .int (Int32.ofInt (((s + 1 : Nat) : Int))))]) (fun q hq => ?_) ?_
          · simp only [List.mem_cons, List.not_mem_nil, or_false] at hq
            rcases hq with rfl | rfl | rfl | rfl | rfl <;> simp [stL, stL2, lv_args, Value.category]
          exact wgx_5 ht hx d0 d1 k (s + 1) (by omega) kk
        · refine V_iload (v := Int32.ofInt (d)) mi_96_31 (by simp [stL, stL2, lv_args, Value.category]) ?_
          refine V_i2l mi_96_32 ?_
          rw [i2lx ⟨by omega, by omega⟩]
          refine V_goto mi_96_33 ?_
          refine V_lbin mi_96_41 (by omega) ?_
          rw [lmI, ← wgN_1 (show t / 2 ^ s % 2 = 1 by omega) (show x / 2 ^ s % 2 = 1 by omega)]
          refine V_lstore mi_96_42 ?_
          refine V_iinc (v := Int32.ofInt ((s : Int))) mi_96_43 (by simp [stL, stL2, lv_args, Value.category]) ?_
          rw [ia2]
          refine V_goto mi_96_46 ?_
          refine V_sub (lv' := [(0, .int (Int32.ofInt ((t : Int)))), (1, .int (Int32.ofInt ((x : Int)))), (2, .int (Int32.ofInt (d))), (3, .long (Int64.ofInt (wgN t x d (s + 1)))), (5, .int (Int32.ofInt (((s + 1 : Nat) : Int))))]) (fun q hq => ?_) ?_
          · simp only [List.mem_cons, List.not_mem_nil, or_false] at hq
            rcases hq with rfl | rfl | rfl | rfl | rfl <;> simp [stL, stL2, lv_args, Value.category]
          exact wgx_5 ht hx d0 d1 k (s + 1) (by omega) kk
theorem wgx_ct {t x : Nat} {d : Int} (ht : t < 4096) (hx : x < 4096) (d0 : 0 ≤ d) (d1 : d ≤ 100) : CT l D tys A 96 0 0 0 [.int (Int32.ofInt ((t : Int))), .int (Int32.ofInt ((x : Int))), .int (Int32.ofInt (d))] ws (fun r w => w = ws ∧ r = some (.long (Int64.ofInt (wgN t x d 12)))) := by
  refine CT_of_V (by omega) (show (3 : Nat) ≤ mML 96 by decide +kernel) ?_
  refine V_lpush mi_96_0 ?_
  refine V_lstore mi_96_1 ?_
  refine V_ipush mi_96_2 ?_
  refine V_istore mi_96_3 ?_
  refine V_sub (lv' := [(0, .int (Int32.ofInt ((t : Int)))), (1, .int (Int32.ofInt ((x : Int)))), (2, .int (Int32.ofInt (d))), (3, .long (Int64.ofInt (wgN t x d 0))), (5, .int (Int32.ofInt (((0 : Nat) : Int))))]) (fun q hq => ?_) ?_
  · simp only [List.mem_cons, List.not_mem_nil, or_false] at hq
    rcases hq with rfl | rfl | rfl | rfl | rfl <;> simp [stL, stL2, lv_args, Value.category, wgN]
  exact wgx_5 ht hx d0 d1 12 0 (by omega) ⟨rfl, rfl⟩
theorem ww_60 {G : Nat → Int} {f o t x : Nat} (ht : t < 4096) (hx : x &&& t = x) {post : Option Value → va_W → Prop} (hG : GOK ad tys GG ws) (kn : x < t → x < nxN 12 t x → nxN 12 t x &&& t = nxN 12 t x → V l D tys A 95 5 0 0 post 0 0 9 [(0, .ref (ad 28)), (1, .ref (ad 4)), (2, .int (Int32.ofInt ((f : Int)))), (3, .int (Int32.ofInt ((o : Int)))), (4, .int (Int32.ofInt ((t : Int)))), (5, .long (Int64.ofInt (smS t (gwN G f o t) (nxN 12 t x)))), (7, .int (Int32.ofInt ((nxN 12 t x : Int)))), (8, .int (Int32.ofInt ((rkN 12 t (nxN 12 t x) : Int))))] [] ws) (kr : post (some (.long (Int64.ofInt (smS t (gwN G f o t) (t + 1))))) ws) : V l D tys A 95 5 0 0 post 0 0 60 [(0, .ref (ad 28)), (1, .ref (ad 4)), (2, .int (Int32.ofInt ((f : Int)))), (3, .int (Int32.ofInt ((o : Int)))), (4, .int (Int32.ofInt ((t : Int)))), (5, .long (Int64.ofInt (smS t (gwN G f o t) (x + 1)))), (7, .int (Int32.ofInt ((x : Int)))), (8, .int (Int32.ofInt ((rkN 12 t x : Int))))] [] ws := by
  have xt := (sub_h hx).2.2
  have nk := nx_ok 12 t x ht hx
  have nl : nxN 12 t x ≤ t := Nat.and_le_right
  refine V_iload (v := Int32.ofInt ((x : Int))) mi_95_60 (by simp [stL, stL2, lv_args, Value.category]) ?_
  refine V_iload (v := Int32.ofInt ((t : Int))) mi_95_62 (by simp [stL, stL2, lv_args, Value.category]) ?_
  refine V_ibin mi_95_64 (by omega) ?_
  rw [ib1]
  refine V_iload (v := Int32.ofInt ((t : Int))) mi_95_65 (by simp [stL, stL2, lv_args, Value.category]) ?_
  refine V_ibin mi_95_67 (by omega) ?_
  rw [nx12 xt ht]
  refine V_istore mi_95_68 ?_
  refine V_iload (v := Int32.ofInt ((nxN 12 t x : Int))) mi_95_70 (by simp [stL, stL2, lv_args, Value.category]) ?_
  refine V_zne mi_95_72 ⟨by omega, by omega⟩ (fun q => ?_) (fun q => ?_)
  · rcases nk with ⟨k1, k2⟩ | ⟨k1, k2, k3, k4, k5⟩
    · exact absurd q (by omega)
    · have gp : smS t (gwN G f o t) (nxN 12 t x) = smS t (gwN G f o t) (x + 1) := by
        rw [show nxN 12 t x = (x + 1) + (nxN 12 t x - (x + 1)) by omega]
        exact smS_gap _ (fun y y1 y2 => k5 y (by omega) (by omega))
      refine V_iinc (v := Int32.ofInt ((rkN 12 t x : Int))) mi_95_78 (by simp [stL, stL2, lv_args, Value.category]) ?_
      rw [ia2]
      rw [show (rkN 12 t x : Int) + 1 = (rkN 12 t (nxN 12 t x) : Int) by omega, ← gp]
      refine V_goto mi_95_81 ?_
      refine V_sub (lv' := [(0, .ref (ad 28)), (1, .ref (ad 4)), (2, .int (Int32.ofInt ((f : Int)))), (3, .int (Int32.ofInt ((o : Int)))), (4, .int (Int32.ofInt ((t : Int)))), (5, .long (Int64.ofInt (smS t (gwN G f o t) (nxN 12 t x)))), (7, .int (Int32.ofInt ((nxN 12 t x : Int)))), (8, .int (Int32.ofInt ((rkN 12 t (nxN 12 t x) : Int))))]) (fun q hq => ?_) ?_
      · simp only [List.mem_cons, List.not_mem_nil, or_false] at hq
        rcases hq with rfl | rfl | rfl | rfl | rfl | rfl | rfl | rfl <;> simp [stL, stL2, lv_args, Value.category]
      exact kn k1 k2 k3
  · have xe : x = t := by
      rcases nk with ⟨k1, k2⟩ | ⟨k1, k2, k3, k4, k5⟩
      · exact k1
      · omega
    refine V_lload (v := Int64.ofInt (smS t (gwN G f o t) (x + 1))) mi_95_75 (by simp [stL, stL2, lv_args, Value.category]) ?_
    exact V_retL mi_95_77 (by rw [xe]; exact kr)
theorem ww_9 {G : Nat → Int} {w0 : va_W} (hX0 : HX 4 G w0) (hS0 : STO G w0) (hB : HB G) (wf : WF G) {f o t : Nat} (hf : (f : Int) < G 3) (ho : o < 6) (ht : t < 4096) (h8 : bnS t 13 ≤ 8) {post : Option Value → va_W → Prop} : ∀ (k x : Nat) (ws : va_W), t - x ≤ k → x &&& t = x → GOK ad tys GG ws → XSC w0 ws → (∀ w : va_W, GOK ad tys GG w → XSC w0 w → post (some (.long (Int64.ofInt (smS t (gwN G f o t) (t + 1))))) w) → V l D tys A 95 5 0 0 post 0 0 9 [(0, .ref (ad 28)), (1, .ref (ad 4)), (2, .int (Int32.ofInt ((f : Int)))), (3, .int (Int32.ofInt ((o : Int)))), (4, .int (Int32.ofInt ((t : Int)))), (5, .long (Int64.ofInt (smS t (gwN G f o t) x))), (7, .int (Int32.ofInt ((x : Int)))), (8, .int (Int32.ofInt ((rkN 12 t x : Int))))] [] ws
  | 0, x, ws, hk, hx, hG, hO, kk => by
    have hX : HX 4 G ws := XSC_X hO hX0
    have hS : STO G ws := XSC_S hO hS0
    have b3 := hB.b3
    have bd := hB.bd f (by omega)
    have xt := (sub_h hx).2.2
    have rk := rkN_lt 12 t x
    rw [pcT ht] at rk
    have r8 : 2 ^ bnS t 13 ≤ 2 ^ 8 := Nat.pow_le_pow_right (by omega) h8
    have w8 : 100 ^ bnS t 13 ≤ 100 ^ 8 := Nat.pow_le_pow_right (by omega) h8
    have wb := wgN_b (t := t) (x := x) bd.1 bd.2 12
    have b12 : bnS t 12 ≤ bnS t 13 := Nat.le_add_right _ _
    have w12 : 100 ^ bnS t 12 ≤ 100 ^ bnS t 13 := Nat.pow_le_pow_right (by omega) b12
    refine V_iload (v := Int32.ofInt ((rkN 12 t x : Int))) mi_95_9 (by simp [stL, stL2, lv_args, Value.category]) ?_
    refine V_ipush mi_95_11 ?_
    refine V_cge mi_95_14 ⟨by omega, by omega⟩ ⟨by omega, by omega⟩ (fun q => ?_) (fun q => ?_)
    · exact absurd q (by omega)
    · refine V_iload (v := Int32.ofInt ((t : Int))) mi_95_17 (by simp [stL, stL2, lv_args, Value.category]) ?_
      refine V_iload (v := Int32.ofInt ((x : Int))) mi_95_19 (by simp [stL, stL2, lv_args, Value.category]) ?_
      refine V_aload (v := ad 4) mi_95_21 (by simp [stL, stL2, lv_args, Value.category]) ?_
      refine V_gR mi_95_22 g4r9 (by omega) hG ?_
      refine V_iload (v := Int32.ofInt ((f : Int))) mi_95_25 (by simp [stL, stL2, lv_args, Value.category]) ?_
      refine V_stat (As := [.ref (ad 8), .int (Int32.ofInt ((f : Int)))]) (st := [.int (Int32.ofInt ((x : Int))), .int (Int32.ofInt ((t : Int)))]) mi_95_26 (by omega) (atk_ct (j := f) a8 hG (by omega) (by omega) (HX_HY hX 4 (by omega) f (show f < 6 by omega))) (by omega) (show 2 = mN 147 by decide +kernel) (by simp [Value.category]) ⟨Nat.le_refl _, Nat.le_refl _⟩ ?_
      rintro r w1 ⟨e1, rfl⟩
      rw [e1, show G (hxJ 4 f) = G (54 + f) from rfl]
      refine V_stat (As := [.int (Int32.ofInt ((t : Int))), .int (Int32.ofInt ((x : Int))), .int (Int32.ofInt (G (54 + f)))]) (st := []) mi_95_29 (by omega) (wgx_ct (t := t) (x := x) (d := G (54 + f)) ht (by omega) bd.1 bd.2) (by omega) (show 3 = mN 96 by decide +kernel) (by simp [Value.category]) ⟨Nat.le_refl _, Nat.le_refl _⟩ ?_
      rintro r w2 ⟨e2, rfl⟩
      rw [e2]
      refine V_lstore mi_95_32 ?_
      refine V_lload (v := Int64.ofInt (wgN t x (G (54 + f)) 12)) mi_95_34 (by simp [stL, stL2, lv_args, Value.category]) ?_
      refine V_lpush mi_95_36 ?_
      refine V_lcmp mi_95_37 ?_
      have cl := cdL_iff (x := 5) (a := wgN t x (G (54 + f)) 12) (b := 0) (by omega) (by omega) (by omega) (by omega)
      refine V_if mi_95_38 (fun q3 => ?_) (fun q3 => ?_)
      · have wz : wgN t x (G (54 + f)) 12 = 0 := by
          have : wgN t x (G (54 + f)) 12 - 0 ≤ 0 := cl.mp q3
          omega
        rw [show smS t (gwN G f o t) x = smS t (gwN G f o t) (x + 1) by rw [smS_y hx, gwN_0 wz]; exact (Int.add_zero _).symm]
        refine V_sub (lv' := [(0, .ref (ad 28)), (1, .ref (ad 4)), (2, .int (Int32.ofInt ((f : Int)))), (3, .int (Int32.ofInt ((o : Int)))), (4, .int (Int32.ofInt ((t : Int)))), (5, .long (Int64.ofInt (smS t (gwN G f o t) (x + 1)))), (7, .int (Int32.ofInt ((x : Int)))), (8, .int (Int32.ofInt ((rkN 12 t x : Int))))]) (fun q hq => ?_) ?_
        · simp only [List.mem_cons, List.not_mem_nil, or_false] at hq
          rcases hq with rfl | rfl | rfl | rfl | rfl | rfl | rfl | rfl <;> simp [stL, stL2, lv_args, Value.category]
        exact ww_60 ht hx hG (fun k1 _ _ => absurd k1 (by omega)) (kk _ hG hO)
      · refine V_aload (v := ad 28) mi_95_41 (by simp [stL, stL2, lv_args, Value.category]) ?_
        refine V_aload (v := ad 4) mi_95_42 (by simp [stL, stL2, lv_args, Value.category]) ?_
        refine V_iload (v := Int32.ofInt ((f : Int))) mi_95_43 (by simp [stL, stL2, lv_args, Value.category]) ?_
        refine V_iload (v := Int32.ofInt ((o : Int))) mi_95_44 (by simp [stL, stL2, lv_args, Value.category]) ?_
        refine V_iload (v := Int32.ofInt ((x : Int))) mi_95_45 (by simp [stL, stL2, lv_args, Value.category]) ?_
        refine V_cO (As := [.ref (ad 4), .int (Int32.ofInt ((f : Int))), .int (Int32.ofInt ((o : Int))), .int (Int32.ofInt ((x : Int)))]) (st := []) mi_95_47 (by omega) (by decide +kernel) (by decide +kernel) (by omega) g28o hG (mww_ct (f := f) (o := o) (hz := Int32.ofInt (x : Int)) hG hX hS hB wf hf ho) (by omega) (show 4 = mN 94 by decide +kernel) (by simp [Value.category]) ?_
        rintro r w3 ⟨⟨G3, o3⟩, e3⟩
        rw [e3]
        have O3 : XSC w0 w3 := fun c j hc => (o3 c j hc).trans (hO c j hc)
        refine V_beq mi_95_50  (fun q4 => ?_) (fun q4 => ?_)
        · rw [show smS t (gwN G f o t) x = smS t (gwN G f o t) (x + 1) by rw [smS_y hx, gwN_n q4]; exact (Int.add_zero _).symm]
          refine V_sub (lv' := [(0, .ref (ad 28)), (1, .ref (ad 4)), (2, .int (Int32.ofInt ((f : Int)))), (3, .int (Int32.ofInt ((o : Int)))), (4, .int (Int32.ofInt ((t : Int)))), (5, .long (Int64.ofInt (smS t (gwN G f o t) (x + 1)))), (7, .int (Int32.ofInt ((x : Int)))), (8, .int (Int32.ofInt ((rkN 12 t x : Int))))]) (fun q hq => ?_) ?_
          · simp only [List.mem_cons, List.not_mem_nil, or_false] at hq
            rcases hq with rfl | rfl | rfl | rfl | rfl | rfl | rfl | rfl <;> simp [stL, stL2, lv_args, Value.category]
          exact ww_60 ht hx G3 (fun k1 _ _ => absurd k1 (by omega)) (kk _ G3 O3)
        · refine V_lload (v := Int64.ofInt (smS t (gwN G f o t) x)) mi_95_53 (by simp [stL, stL2, lv_args, Value.category]) ?_
          refine V_lload (v := Int64.ofInt (wgN t x (G (54 + f)) 12)) mi_95_55 (by simp [stL, stL2, lv_args, Value.category]) ?_
          refine V_lbin mi_95_57 (by omega) ?_
          rw [ladI]
          refine V_lstore mi_95_58 ?_
          rw [show smS t (gwN G f o t) x + wgN t x (G (54 + f)) 12 = smS t (gwN G f o t) (x + 1) by rw [smS_y hx, gwN_y q4]]
          refine V_sub (lv' := [(0, .ref (ad 28)), (1, .ref (ad 4)), (2, .int (Int32.ofInt ((f : Int)))), (3, .int (Int32.ofInt ((o : Int)))), (4, .int (Int32.ofInt ((t : Int)))), (5, .long (Int64.ofInt (smS t (gwN G f o t) (x + 1)))), (7, .int (Int32.ofInt ((x : Int)))), (8, .int (Int32.ofInt ((rkN 12 t x : Int))))]) (fun q hq => ?_) ?_
          · simp only [List.mem_cons, List.not_mem_nil, or_false] at hq
            rcases hq with rfl | rfl | rfl | rfl | rfl | rfl | rfl | rfl <;> simp [stL, stL2, lv_args, Value.category]
          exact ww_60 ht hx G3 (fun k1 _ _ => absurd k1 (by omega)) (kk _ G3 O3)
  | k + 1, x, ws, hk, hx, hG, hO, kk => by
    have hX : HX 4 G ws := XSC_X hO hX0
    have hS : STO G ws := XSC_S hO hS0
    have b3 := hB.b3
    have bd := hB.bd f (by omega)
    have xt := (sub_h hx).2.2
    have rk := rkN_lt 12 t x
    rw [pcT ht] at rk
    have r8 : 2 ^ bnS t 13 ≤ 2 ^ 8 := Nat.pow_le_pow_right (by omega) h8
    have w8 : 100 ^ bnS t 13 ≤ 100 ^ 8 := Nat.pow_le_pow_right (by omega) h8
    have wb := wgN_b (t := t) (x := x) bd.1 bd.2 12
    have b12 : bnS t 12 ≤ bnS t 13 := Nat.le_add_right _ _
    have w12 : 100 ^ bnS t 12 ≤ 100 ^ bnS t 13 := Nat.pow_le_pow_right (by omega) b12
    refine V_iload (v := Int32.ofInt ((rkN 12 t x : Int))) mi_95_9 (by simp [stL, stL2, lv_args, Value.category]) ?_
    refine V_ipush mi_95_11 ?_
    refine V_cge mi_95_14 ⟨by omega, by omega⟩ ⟨by omega, by omega⟩ (fun q => ?_) (fun q => ?_)
    · exact absurd q (by omega)
    · refine V_iload (v := Int32.ofInt ((t : Int))) mi_95_17 (by simp [stL, stL2, lv_args, Value.category]) ?_
      refine V_iload (v := Int32.ofInt ((x : Int))) mi_95_19 (by simp [stL, stL2, lv_args, Value.category]) ?_
      refine V_aload (v := ad 4) mi_95_21 (by simp [stL, stL2, lv_args, Value.category]) ?_
      refine V_gR mi_95_22 g4r9 (by omega) hG ?_
      refine V_iload (v := Int32.ofInt ((f : Int))) mi_95_25 (by simp [stL, stL2, lv_args, Value.category]) ?_
      refine V_stat (As := [.ref (ad 8), .int (Int32.ofInt ((f : Int)))]) (st := [.int (Int32.ofInt ((x : Int))), .int (Int32.ofInt ((t : Int)))]) mi_95_26 (by omega) (atk_ct (j := f) a8 hG (by omega) (by omega) (HX_HY hX 4 (by omega) f (show f < 6 by omega))) (by omega) (show 2 = mN 147 by decide +kernel) (by simp [Value.category]) ⟨Nat.le_refl _, Nat.le_refl _⟩ ?_
      rintro r w1 ⟨e1, rfl⟩
      rw [e1, show G (hxJ 4 f) = G (54 + f) from rfl]
      refine V_stat (As := [.int (Int32.ofInt ((t : Int))), .int (Int32.ofInt ((x : Int))), .int (Int32.ofInt (G (54 + f)))]) (st := []) mi_95_29 (by omega) (wgx_ct (t := t) (x := x) (d := G (54 + f)) ht (by omega) bd.1 bd.2) (by omega) (show 3 = mN 96 by decide +kernel) (by simp [Value.category]) ⟨Nat.le_refl _, Nat.le_refl _⟩ ?_
      rintro r w2 ⟨e2, rfl⟩
      rw [e2]
      refine V_lstore mi_95_32 ?_
      refine V_lload (v := Int64.ofInt (wgN t x (G (54 + f)) 12)) mi_95_34 (by simp [stL, stL2, lv_args, Value.category]) ?_
      refine V_lpush mi_95_36 ?_
      refine V_lcmp mi_95_37 ?_
      have cl := cdL_iff (x := 5) (a := wgN t x (G (54 + f)) 12) (b := 0) (by omega) (by omega) (by omega) (by omega)
      refine V_if mi_95_38 (fun q3 => ?_) (fun q3 => ?_)
      · have wz : wgN t x (G (54 + f)) 12 = 0 := by
          have : wgN t x (G (54 + f)) 12 - 0 ≤ 0 := cl.mp q3
          omega
        rw [show smS t (gwN G f o t) x = smS t (gwN G f o t) (x + 1) by rw [smS_y hx, gwN_0 wz]; exact (Int.add_zero _).symm]
        refine V_sub (lv' := [(0, .ref (ad 28)), (1, .ref (ad 4)), (2, .int (Int32.ofInt ((f : Int)))), (3, .int (Int32.ofInt ((o : Int)))), (4, .int (Int32.ofInt ((t : Int)))), (5, .long (Int64.ofInt (smS t (gwN G f o t) (x + 1)))), (7, .int (Int32.ofInt ((x : Int)))), (8, .int (Int32.ofInt ((rkN 12 t x : Int))))]) (fun q hq => ?_) ?_
        · simp only [List.mem_cons, List.not_mem_nil, or_false] at hq
          rcases hq with rfl | rfl | rfl | rfl | rfl | rfl | rfl | rfl <;> simp [stL, stL2, lv_args, Value.category]
        exact ww_60 ht hx hG (fun k1 k2 k3 => ww_9 hX0 hS0 hB wf hf ho ht h8 k _ _ (by omega) k3 hG hO kk) (kk _ hG hO)
      · refine V_aload (v := ad 28) mi_95_41 (by simp [stL, stL2, lv_args, Value.category]) ?_
        refine V_aload (v := ad 4) mi_95_42 (by simp [stL, stL2, lv_args, Value.category]) ?_
        refine V_iload (v := Int32.ofInt ((f : Int))) mi_95_43 (by simp [stL, stL2, lv_args, Value.category]) ?_
        refine V_iload (v := Int32.ofInt ((o : Int))) mi_95_44 (by simp [stL, stL2, lv_args, Value.category]) ?_
        refine V_iload (v := Int32.ofInt ((x : Int))) mi_95_45 (by simp [stL, stL2, lv_args, Value.category]) ?_
        refine V_cO (As := [.ref (ad 4), .int (Int32.ofInt ((f : Int))), .int (Int32.ofInt ((o : Int))), .int (Int32.ofInt ((x : Int)))]) (st := []) mi_95_47 (by omega) (by decide +kernel) (by decide +kernel) (by omega) g28o hG (mww_ct (f := f) (o := o) (hz := Int32.ofInt (x : Int)) hG hX hS hB wf hf ho) (by omega) (show 4 = mN 94 by decide +kernel) (by simp [Value.category]) ?_
        rintro r w3 ⟨⟨G3, o3⟩, e3⟩
        rw [e3]
        have O3 : XSC w0 w3 := fun c j hc => (o3 c j hc).trans (hO c j hc)
        refine V_beq mi_95_50  (fun q4 => ?_) (fun q4 => ?_)
        · rw [show smS t (gwN G f o t) x = smS t (gwN G f o t) (x + 1) by rw [smS_y hx, gwN_n q4]; exact (Int.add_zero _).symm]
          refine V_sub (lv' := [(0, .ref (ad 28)), (1, .ref (ad 4)), (2, .int (Int32.ofInt ((f : Int)))), (3, .int (Int32.ofInt ((o : Int)))), (4, .int (Int32.ofInt ((t : Int)))), (5, .long (Int64.ofInt (smS t (gwN G f o t) (x + 1)))), (7, .int (Int32.ofInt ((x : Int)))), (8, .int (Int32.ofInt ((rkN 12 t x : Int))))]) (fun q hq => ?_) ?_
          · simp only [List.mem_cons, List.not_mem_nil, or_false] at hq
            rcases hq with rfl | rfl | rfl | rfl | rfl | rfl | rfl | rfl <;> simp [stL, stL2, lv_args, Value.category]
          exact ww_60 ht hx G3 (fun k1 k2 k3 => ww_9 hX0 hS0 hB wf hf ho ht h8 k _ _ (by omega) k3 G3 O3 kk) (kk _ G3 O3)
        · refine V_lload (v := Int64.ofInt (smS t (gwN G f o t) x)) mi_95_53 (by simp [stL, stL2, lv_args, Value.category]) ?_
          refine V_lload (v := Int64.ofInt (wgN t x (G (54 + f)) 12)) mi_95_55 (by simp [stL, stL2, lv_args, Value.category]) ?_
          refine V_lbin mi_95_57 (by omega) ?_
          rw [ladI]
          refine V_lstore mi_95_58 ?_
          rw [show smS t (gwN G f o t) x + wgN t x (G (54 + f)) 12 = smS t (gwN G f o t) (x + 1) by rw [smS_y hx, gwN_y q4]]
          refine V_sub (lv' := [(0, .ref (ad 28)), (1, .ref (ad 4)), (2, .int (Int32.ofInt ((f : Int)))), (3, .int (Int32.ofInt ((o : Int)))), (4, .int (Int32.ofInt ((t : Int)))), (5, .long (Int64.ofInt (smS t (gwN G f o t) (x + 1)))), (7, .int (Int32.ofInt ((x : Int)))), (8, .int (Int32.ofInt ((rkN 12 t x : Int))))]) (fun q hq => ?_) ?_
          · simp only [List.mem_cons, List.not_mem_nil, or_false] at hq
            rcases hq with rfl | rfl | rfl | rfl | rfl | rfl | rfl | rfl <;> simp [stL, stL2, lv_args, Value.category]
          exact ww_60 ht hx G3 (fun k1 k2 k3 => ww_9 hX0 hS0 hB wf hf ho ht h8 k _ _ (by omega) k3 G3 O3 kk) (kk _ G3 O3)
theorem ww_ct {G : Nat → Int} (hG : GOK ad tys GG ws) (hX : HX 4 G ws) (hS : STO G ws) (hB : HB G) (wf : WF G) {f o t : Nat} (hf : (f : Int) < G 3) (ho : o < 6) (ht : t < 4096) (h8 : bnS t 13 ≤ 8) : CT l D tys A 95 5 0 0 [.ref (ad 28), .ref (ad 4), .int (Int32.ofInt ((f : Int))), .int (Int32.ofInt ((o : Int))), .int (Int32.ofInt ((t : Int)))] ws (fun r w => (GOK ad tys GG w ∧ XSC ws w) ∧ r = some (.long (Int64.ofInt (smS t (gwN G f o t) (t + 1))))) := by
  refine CT_of_V (by omega) (show (5 : Nat) ≤ mML 95 by decide +kernel) ?_
  refine V_lpush mi_95_0 ?_
  refine V_lstore mi_95_1 ?_
  refine V_ipush mi_95_3 ?_
  refine V_istore mi_95_4 ?_
  refine V_ipush mi_95_6 ?_
  refine V_istore mi_95_7 ?_
  rw [show Int64.ofInt 0 = Int64.ofInt (smS t (gwN G f o t) 0) from rfl]
  refine V_sub (lv' := [(0, .ref (ad 28)), (1, .ref (ad 4)), (2, .int (Int32.ofInt ((f : Int)))), (3, .int (Int32.ofInt ((o : Int)))), (4, .int (Int32.ofInt ((t : Int)))), (5, .long (Int64.ofInt (smS t (gwN G f o t) 0))), (7, .int (Int32.ofInt (((0 : Nat) : Int)))), (8, .int (Int32.ofInt (((0 : Nat) : Int))))]) (fun q hq => ?_) ?_
  · simp only [List.mem_cons, List.not_mem_nil, or_false] at hq
    rcases hq with rfl | rfl | rfl | rfl | rfl | rfl | rfl | rfl <;> simp [stL, stL2, lv_args, Value.category]
  have r0 : rkN 12 t 0 = 0 := rkN_z 12 t
  have go := ww_9 (l := l) (D := D) (A := A) (tys := tys) (ad := ad) (post := fun r w => (GOK ad tys GG w ∧ XSC ws w) ∧ r = some (.long (Int64.ofInt (smS t (gwN G f o t) (t + 1))))) hX hS hB wf hf ho ht h8 t 0 ws (by omega) (Nat.zero_and _) hG (fun _ _ _ => rfl) (fun w g o => ⟨⟨g, o⟩, rfl⟩)
  rw [r0] at go
  exact go
theorem tlx_4 {G : Nat → Int} (hG : GOK ad tys GG ws) (hX : HX 4 G ws) (hB : HB G) (hS : STO G ws) {f : Nat} (hf : (f : Int) < G 3) {post : Option Value → va_W → Prop} : ∀ (k s : Nat), ((s + k : Nat) : Int) = G 4 → post (some (.int (Int32.ofInt (nwN (ntP G f) (G 4).toNat : Int)))) ws → V l D tys A 63 2 0 0 post 0 0 4 [(0, .ref (ad 0)), (1, .int (Int32.ofInt ((f : Int)))), (2, .int (Int32.ofInt ((nwN (ntP G f) s : Int)))), (3, .int (Int32.ofInt ((s : Int))))] [] ws
  | 0, s, hs, kk => by
    have b4 := hB.b4
    have b3 := hB.b3
    refine V_iload (v := Int32.ofInt ((s : Int))) mi_63_4 (by simp [stL, stL2, lv_args, Value.category]) ?_
    refine V_aload (v := ad 0) mi_63_5 (by simp [stL, stL2, lv_args, Value.category]) ?_
    refine V_gR mi_63_6 g0r2 (by omega) hG ?_
    refine V_gO mi_63_9 g4o hG (show rd _ 4 5 = some (.int (Int32.ofInt (G 4))) from hx0 hX (i := 5) (by omega)) ?_
    refine V_cge mi_63_12 ⟨by omega, by omega⟩ ⟨by omega, by omega⟩ (fun q => ?_) (fun q => ?_)
    · refine V_iload (v := Int32.ofInt ((nwN (ntP G f) s : Int))) mi_63_98 (by simp [stL, stL2, lv_args, Value.category]) ?_
      exact V_retI mi_63_99 (fun h => absurd h (by decide +kernel)) (by rw [show s = (G 4).toNat by omega]; exact kk)
    · exact absurd q (by omega)
  | k + 1, s, hs, kk => by
    have b4 := hB.b4
    have b3 := hB.b3
    refine V_iload (v := Int32.ofInt ((s : Int))) mi_63_4 (by simp [stL, stL2, lv_args, Value.category]) ?_
    refine V_aload (v := ad 0) mi_63_5 (by simp [stL, stL2, lv_args, Value.category]) ?_
    refine V_gR mi_63_6 g0r2 (by omega) hG ?_
    refine V_gO mi_63_9 g4o hG (show rd _ 4 5 = some (.int (Int32.ofInt (G 4))) from hx0 hX (i := 5) (by omega)) ?_
    refine V_cge mi_63_12 ⟨by omega, by omega⟩ ⟨by omega, by omega⟩ (fun q => ?_) (fun q => ?_)
    · exact absurd q (by omega)
    · obtain ⟨⟨w6, o6, i6, n24⟩, g0, g1, g2, g3⟩ := say_b hB (s := s) (by omega)
      have nl := nwN_lt (P := (ntP G f)) s
      have pw := pw12 (s := s) (by omega)
      refine V_aload (v := ad 0) mi_63_15 (by simp [stL, stL2, lv_args, Value.category]) ?_
      refine V_gR mi_63_16 g0r5 (by omega) hG ?_
      refine V_gR mi_63_19 g32r1 (by omega) hG ?_
      refine V_iload (v := Int32.ofInt ((s : Int))) mi_63_22 (by simp [stL, stL2, lv_args, Value.category]) ?_
      refine V_stat (As := [.ref (ad 34), .int (Int32.ofInt ((s : Int)))]) (st := []) mi_63_23 (by omega) (atk_ct (j := s) a34 hG (by omega) (by omega) (hS.2.2.2.2.1 s (by omega))) (by omega) (show 2 = mN 147 by decide +kernel) (by simp [Value.category]) ⟨Nat.le_refl _, Nat.le_refl _⟩ ?_
      rintro r w0 ⟨e0, rfl⟩
      rw [e0]
      refine V_iload (v := Int32.ofInt ((f : Int))) mi_63_26 (by simp [stL, stL2, lv_args, Value.category]) ?_
      refine V_ibin mi_63_27 (by omega) ?_
      refine V_ipush mi_63_28 ?_
      refine V_ibin mi_63_29 (by omega) ?_
      rw [huB_i]
      refine V_zeq mi_63_30 ⟨by split <;> omega, by split <;> omega⟩ (fun q2 => ?_) (fun q2 => ?_)
      · have hq : huB (Int32.ofInt ((tellT G (G 2).toNat).hb s)) f = false := by
          cases c : huB (Int32.ofInt ((tellT G (G 2).toNat).hb s)) f with
          | false => rfl
          | true => exact absurd (by rw [c, if_pos rfl] at q2; exact q2) (by omega)
        refine V_ipush mi_63_37 ?_
        refine V_istore mi_63_38 ?_
        refine V_aload (v := ad 0) mi_63_40 (by simp [stL, stL2, lv_args, Value.category]) ?_
        refine V_gR mi_63_41 g0r5 (by omega) hG ?_
        refine V_iload (v := Int32.ofInt ((f : Int))) mi_63_44 (by simp [stL, stL2, lv_args, Value.category]) ?_
        refine V_aload (v := ad 0) mi_63_45 (by simp [stL, stL2, lv_args, Value.category]) ?_
        refine V_gR mi_63_46 g0r2 (by omega) hG ?_
        refine V_gR mi_63_49 g4r14 (by omega) hG ?_
        refine V_iload (v := Int32.ofInt ((s : Int))) mi_63_52 (by simp [stL, stL2, lv_args, Value.category]) ?_
        refine V_stat (As := [.ref (ad 13), .int (Int32.ofInt ((s : Int)))]) (st := [.int (Int32.ofInt ((f : Int))), .ref (ad 32)]) mi_63_53 (by omega) (atk_ct a13 hG (by omega) (by omega) (say_rd hX (k := s) (r := 1) (by omega) (by omega))) (by omega) (show 2 = mN 147 by decide +kernel) (by simp [Value.category]) ⟨Nat.le_refl _, Nat.le_refl _⟩ ?_
        rintro r w1 ⟨e1, rfl⟩
        rw [e1, g1]
        refine V_ipush mi_63_56 ?_
        rw [show (0 : Int) = ((0 : Nat) : Int) from rfl]
        refine V_cO (As := [.int (Int32.ofInt ((f : Int))), .int (Int32.ofInt ((sWhs G s : Int))), .int (Int32.ofInt (((0 : Nat) : Int)))]) (st := []) mi_63_57 (by omega) (by decide +kernel) (by decide +kernel) (by omega) g32o hG (stb_ct (f := f) (o := sWhs G s) (g := 0) hG (by omega) (by omega) (by omega) (sto_k hB hS (by omega) (by omega) (by omega))) (by omega) (show 3 = mN 176 by decide +kernel) (by simp [Value.category]) ?_
        rintro r w2 ⟨e2, rfl⟩
        rw [e2, show (tellT G 0).K (6 * f + sWhs G s) = iniK G (6 * f + sWhs G s) from rfl]
        refine V_istore mi_63_60 ?_
        refine V_iload (v := Int32.ofInt (0)) mi_63_62 (by simp [stL, stL2, lv_args, Value.category]) ?_
        refine V_zeq mi_63_64 ⟨by omega, by omega⟩ (fun q9 => ?_) (fun q9 => ?_)
        · rw [← nwN_n (P := (ntP G f)) (n := s) (by unfold ntP; rw [hq, Bool.false_and])]
          refine V_iinc (v := Int32.ofInt ((s : Int))) mi_63_92 (by simp [stL, stL2, lv_args, Value.category]) ?_
          rw [ia2]
          refine V_goto mi_63_95 ?_
          refine V_sub (lv' := [(0, .ref (ad 0)), (1, .int (Int32.ofInt ((f : Int)))), (2, .int (Int32.ofInt ((nwN (ntP G f) (s + 1) : Int)))), (3, .int (Int32.ofInt (((s + 1 : Nat) : Int))))]) (fun q hq => ?_) ?_
          · simp only [List.mem_cons, List.not_mem_nil, or_false] at hq
            rcases hq with rfl | rfl | rfl | rfl <;> simp [stL, stL2, lv_args, Value.category]
          exact tlx_4 hG hX hB hS hf k (s + 1) (by omega) kk
        · exact absurd rfl q9
      · have hq : huB (Int32.ofInt ((tellT G (G 2).toNat).hb s)) f = true := by
          cases c : huB (Int32.ofInt ((tellT G (G 2).toNat).hb s)) f with
          | true => rfl
          | false => exact absurd (by rw [c, if_neg Bool.false_ne_true]) q2
        refine V_ipush mi_63_33 ?_
        refine V_goto mi_63_34 ?_
        refine V_istore mi_63_38 ?_
        refine V_aload (v := ad 0) mi_63_40 (by simp [stL, stL2, lv_args, Value.category]) ?_
        refine V_gR mi_63_41 g0r5 (by omega) hG ?_
        refine V_iload (v := Int32.ofInt ((f : Int))) mi_63_44 (by simp [stL, stL2, lv_args, Value.category]) ?_
        refine V_aload (v := ad 0) mi_63_45 (by simp [stL, stL2, lv_args, Value.category]) ?_
        refine V_gR mi_63_46 g0r2 (by omega) hG ?_
        refine V_gR mi_63_49 g4r14 (by omega) hG ?_
        refine V_iload (v := Int32.ofInt ((s : Int))) mi_63_52 (by simp [stL, stL2, lv_args, Value.category]) ?_
        refine V_stat (As := [.ref (ad 13), .int (Int32.ofInt ((s : Int)))]) (st := [.int (Int32.ofInt ((f : Int))), .ref (ad 32)]) mi_63_53 (by omega) (atk_ct a13 hG (by omega) (by omega) (say_rd hX (k := s) (r := 1) (by omega) (by omega))) (by omega) (show 2 = mN 147 by decide +kernel) (by simp [Value.category]) ⟨Nat.le_refl _, Nat.le_refl _⟩ ?_
        rintro r w1 ⟨e1, rfl⟩
        rw [e1, g1]
        refine V_ipush mi_63_56 ?_
        rw [show (0 : Int) = ((0 : Nat) : Int) from rfl]
        refine V_cO (As := [.int (Int32.ofInt ((f : Int))), .int (Int32.ofInt ((sWhs G s : Int))), .int (Int32.ofInt (((0 : Nat) : Int)))]) (st := []) mi_63_57 (by omega) (by decide +kernel) (by decide +kernel) (by omega) g32o hG (stb_ct (f := f) (o := sWhs G s) (g := 0) hG (by omega) (by omega) (by omega) (sto_k hB hS (by omega) (by omega) (by omega))) (by omega) (show 3 = mN 176 by decide +kernel) (by simp [Value.category]) ?_
        rintro r w2 ⟨e2, rfl⟩
        rw [e2, show (tellT G 0).K (6 * f + sWhs G s) = iniK G (6 * f + sWhs G s) from rfl]
        refine V_istore mi_63_60 ?_
        refine V_iload (v := Int32.ofInt (1)) mi_63_62 (by simp [stL, stL2, lv_args, Value.category]) ?_
        refine V_zeq mi_63_64 ⟨by omega, by omega⟩ (fun q9 => ?_) (fun q9 => ?_)
        · exact absurd q9 (by omega)
        · refine V_iload (v := Int32.ofInt (iniK G (6 * f + sWhs G s))) mi_63_67 (by simp [stL, stL2, lv_args, Value.category]) ?_
          refine V_aload (v := ad 0) mi_63_69 (by simp [stL, stL2, lv_args, Value.category]) ?_
          refine V_gR mi_63_70 g0r2 (by omega) hG ?_
          refine V_gR mi_63_73 g4r15 (by omega) hG ?_
          refine V_iload (v := Int32.ofInt ((s : Int))) mi_63_76 (by simp [stL, stL2, lv_args, Value.category]) ?_
          refine V_stat (As := [.ref (ad 14), .int (Int32.ofInt ((s : Int)))]) (st := [.int (Int32.ofInt (iniK G (6 * f + sWhs G s)))]) mi_63_77 (by omega) (atk_ct a14 hG (by omega) (by omega) (say_rd hX (k := s) (r := 2) (by omega) (by omega))) (by omega) (show 2 = mN 147 by decide +kernel) (by simp [Value.category]) ⟨Nat.le_refl _, Nat.le_refl _⟩ ?_
          rintro r w1 ⟨e1, rfl⟩
          rw [e1, g2]
          refine V_ibin mi_63_80 (by omega) ?_
          refine V_ipush mi_63_81 ?_
          refine V_ibin mi_63_82 (by omega) ?_
          rw [huB_i]
          refine V_zne mi_63_83 ⟨by split <;> omega, by split <;> omega⟩ (fun q5 => ?_) (fun q5 => ?_)
          · have hk : huB (Int32.ofInt (iniK G (6 * f + sWhs G s))) (sWhi G s) = true := by
              cases c : huB (Int32.ofInt (iniK G (6 * f + sWhs G s))) (sWhi G s) with
              | true => rfl
              | false => exact absurd (by rw [c, if_neg Bool.false_ne_true]) q5
            rw [← nwN_n (P := (ntP G f)) (n := s) (by unfold ntP; rw [hk, Bool.not_true, Bool.and_false])]
            refine V_iinc (v := Int32.ofInt ((s : Int))) mi_63_92 (by simp [stL, stL2, lv_args, Value.category]) ?_
            rw [ia2]
            refine V_goto mi_63_95 ?_
            refine V_sub (lv' := [(0, .ref (ad 0)), (1, .int (Int32.ofInt ((f : Int)))), (2, .int (Int32.ofInt ((nwN (ntP G f) (s + 1) : Int)))), (3, .int (Int32.ofInt (((s + 1 : Nat) : Int))))]) (fun q hq => ?_) ?_
            · simp only [List.mem_cons, List.not_mem_nil, or_false] at hq
              rcases hq with rfl | rfl | rfl | rfl <;> simp [stL, stL2, lv_args, Value.category]
            exact tlx_4 hG hX hB hS hf k (s + 1) (by omega) kk
          · have hk : huB (Int32.ofInt (iniK G (6 * f + sWhs G s))) (sWhi G s) = false := by
              cases c : huB (Int32.ofInt (iniK G (6 * f + sWhs G s))) (sWhi G s) with
              | false => rfl
              | true => exact absurd (by rw [c, if_pos rfl] at q5; exact q5) (by omega)
            refine V_iload (v := Int32.ofInt ((nwN (ntP G f) s : Int))) mi_63_86 (by simp [stL, stL2, lv_args, Value.category]) ?_
            refine V_ipush mi_63_87 ?_
            refine V_iload (v := Int32.ofInt ((s : Int))) mi_63_88 (by simp [stL, stL2, lv_args, Value.category]) ?_
            refine V_ibin mi_63_89 (by omega) ?_
            refine V_ibin mi_63_90 (by omega) ?_
            rw [sh12 (by omega), orT (by omega) nl, ← nwN_y (P := (ntP G f)) (n := s) (by unfold ntP; rw [hq, hk]; rfl)]
            refine V_istore mi_63_91 ?_
            refine V_iinc (v := Int32.ofInt ((s : Int))) mi_63_92 (by simp [stL, stL2, lv_args, Value.category]) ?_
            rw [ia2]
            refine V_goto mi_63_95 ?_
            refine V_sub (lv' := [(0, .ref (ad 0)), (1, .int (Int32.ofInt ((f : Int)))), (2, .int (Int32.ofInt ((nwN (ntP G f) (s + 1) : Int)))), (3, .int (Int32.ofInt (((s + 1 : Nat) : Int))))]) (fun q hq => ?_) ?_
            · simp only [List.mem_cons, List.not_mem_nil, or_false] at hq
              rcases hq with rfl | rfl | rfl | rfl <;> simp [stL, stL2, lv_args, Value.category]
            exact tlx_4 hG hX hB hS hf k (s + 1) (by omega) kk
theorem telx_ct {G : Nat → Int} (hG : GOK ad tys GG ws) (hX : HX 4 G ws) (hB : HB G) (hS : STO G ws) {f : Nat} (hf : (f : Int) < G 3) : CT l D tys A 63 2 0 0 [.ref (ad 0), .int (Int32.ofInt ((f : Int)))] ws (fun r w => w = ws ∧ r = some (.int (Int32.ofInt (nwN (ntP G f) (G 4).toNat : Int)))) := by
  refine CT_of_V (by omega) (show (2 : Nat) ≤ mML 63 by decide +kernel) ?_
  have b4 := hB.b4
  refine V_ipush mi_63_0 ?_
  refine V_istore mi_63_1 ?_
  refine V_ipush mi_63_2 ?_
  refine V_istore mi_63_3 ?_
  refine V_sub (lv' := [(0, .ref (ad 0)), (1, .int (Int32.ofInt ((f : Int)))), (2, .int (Int32.ofInt ((nwN (ntP G f) 0 : Int)))), (3, .int (Int32.ofInt (((0 : Nat) : Int))))]) (fun q hq => ?_) ?_
  · simp only [List.mem_cons, List.not_mem_nil, or_false] at hq
    rcases hq with rfl | rfl | rfl | rfl <;> simp [stL, stL2, lv_args, Value.category, nwN]
  exact tlx_4 hG hX hB hS hf (G 4).toNat 0 (by omega) ⟨rfl, rfl⟩
theorem pwc_5 {S e : Nat} (S9 : S ≤ 100) (e9 : e ≤ 100) {post : Option Value → va_W → Prop} : ∀ (k i : Nat), i + k = e → post (some (.long (Int64.ofInt ((S ^ e : Nat) : Int)))) ws → V l D tys A 151 0 0 0 post 0 0 5 [(0, .int (Int32.ofInt ((S : Int)))), (1, .int (Int32.ofInt ((e : Int)))), (2, .long (Int64.ofInt (((S ^ i : Nat) : Int)))), (4, .int (Int32.ofInt ((i : Int))))] [] ws
  | 0, i, hi, kk => by
    refine V_iload (v := Int32.ofInt ((i : Int))) mi_151_5 (by simp [stL, stL2, lv_args, Value.category]) ?_
    refine V_iload (v := Int32.ofInt ((e : Int))) mi_151_7 (by simp [stL, stL2, lv_args, Value.category]) ?_
    refine V_cge mi_151_8 ⟨by omega, by omega⟩ ⟨by omega, by omega⟩ (fun q => ?_) (fun q => ?_)
    · refine V_lload (v := Int64.ofInt (((S ^ i : Nat) : Int))) mi_151_22 (by simp [stL, stL2, lv_args, Value.category]) ?_
      exact V_retL mi_151_23 (by rw [show i = e by omega]; exact kk)
    · exact absurd q (by omega)
  | k + 1, i, hi, kk => by
    refine V_iload (v := Int32.ofInt ((i : Int))) mi_151_5 (by simp [stL, stL2, lv_args, Value.category]) ?_
    refine V_iload (v := Int32.ofInt ((e : Int))) mi_151_7 (by simp [stL, stL2, lv_args, Value.category]) ?_
    refine V_cge mi_151_8 ⟨by omega, by omega⟩ ⟨by omega, by omega⟩ (fun q => ?_) (fun q => ?_)
    · exact absurd q (by omega)
    · refine V_lload (v := Int64.ofInt (((S ^ i : Nat) : Int))) mi_151_11 (by simp [stL, stL2, lv_args, Value.category]) ?_
      refine V_iload (v := Int32.ofInt ((S : Int))) mi_151_12 (by simp [stL, stL2, lv_args, Value.category]) ?_
      refine V_i2l mi_151_13 ?_
      rw [i2lx ⟨by omega, by omega⟩]
      refine V_lbin mi_151_14 (by omega) ?_
      rw [lmI, show ((S ^ i : Nat) : Int) * (S : Int) = ((S ^ (i + 1) : Nat) : Int) by rw [Nat.pow_succ]; rfl]
      refine V_lstore mi_151_15 ?_
      refine V_iinc (v := Int32.ofInt ((i : Int))) mi_151_16 (by simp [stL, stL2, lv_args, Value.category]) ?_
      rw [ia2]
      refine V_goto mi_151_19 ?_
      refine V_sub (lv' := [(0, .int (Int32.ofInt ((S : Int)))), (1, .int (Int32.ofInt ((e : Int)))), (2, .long (Int64.ofInt (((S ^ (i + 1) : Nat) : Int)))), (4, .int (Int32.ofInt (((i + 1 : Nat) : Int))))]) (fun q hq => ?_) ?_
      · simp only [List.mem_cons, List.not_mem_nil, or_false] at hq
        rcases hq with rfl | rfl | rfl | rfl <;> simp [stL, stL2, lv_args, Value.category]
      exact pwc_5 S9 e9 k (i + 1) (by omega) kk
theorem pwc_ct {S e : Nat} (S9 : S ≤ 100) (e9 : e ≤ 100) : CT l D tys A 151 0 0 0 [.int (Int32.ofInt ((S : Int))), .int (Int32.ofInt ((e : Int)))] ws (fun r w => w = ws ∧ r = some (.long (Int64.ofInt ((S ^ e : Nat) : Int)))) := by
  refine CT_of_V (by omega) (show (2 : Nat) ≤ mML 151 by decide +kernel) ?_
  refine V_lpush mi_151_0 ?_
  refine V_lstore mi_151_1 ?_
  refine V_ipush mi_151_2 ?_
  refine V_istore mi_151_3 ?_
  refine V_sub (lv' := [(0, .int (Int32.ofInt ((S : Int)))), (1, .int (Int32.ofInt ((e : Int)))), (2, .long (Int64.ofInt (((S ^ 0 : Nat) : Int)))), (4, .int (Int32.ofInt (((0 : Nat) : Int))))]) (fun q hq => ?_) ?_
  · simp only [List.mem_cons, List.not_mem_nil, or_false] at hq
    rcases hq with rfl | rfl | rfl | rfl <;> simp [stL, stL2, lv_args, Value.category]
  exact pwc_5 S9 e9 e 0 (by omega) ⟨rfl, rfl⟩
theorem cdx_9 {a0 b0 : Nat} {post : Option Value → va_W → Prop} : ∀ (k i a b : Nat), i + k = 200 → a ≤ 9223372036854775807 → b ≤ 9223372036854775807 → post (some (.long (Int64.ofInt (euN k a b : Int)))) ws → V l D tys A 152 0 0 0 post 0 0 9 [(0, .long (Int64.ofInt ((a0 : Int)))), (2, .long (Int64.ofInt ((b0 : Int)))), (4, .long (Int64.ofInt ((a : Int)))), (6, .long (Int64.ofInt ((b : Int)))), (8, .int (Int32.ofInt ((i : Int))))] [] ws
  | 0, i, a, b, hi, ha, hb, kk => by
    refine V_iload (v := Int32.ofInt ((i : Int))) mi_152_9 (by simp [stL, stL2, lv_args, Value.category]) ?_
    refine V_ipush mi_152_11 ?_
    refine V_cge mi_152_14 ⟨by omega, by omega⟩ ⟨by omega, by omega⟩ (fun q => ?_) (fun q => ?_)
    · refine V_lload (v := Int64.ofInt ((a : Int))) mi_152_45 (by simp [stL, stL2, lv_args, Value.category]) ?_
      exact V_retL mi_152_47 kk
    · exact absurd q (by omega)
  | k + 1, i, a, b, hi, ha, hb, kk => by
    refine V_iload (v := Int32.ofInt ((i : Int))) mi_152_9 (by simp [stL, stL2, lv_args, Value.category]) ?_
    refine V_ipush mi_152_11 ?_
    refine V_cge mi_152_14 ⟨by omega, by omega⟩ ⟨by omega, by omega⟩ (fun q => ?_) (fun q => ?_)
    · exact absurd q (by omega)
    · refine V_lload (v := Int64.ofInt ((b : Int))) mi_152_17 (by simp [stL, stL2, lv_args, Value.category]) ?_
      refine V_lpush mi_152_19 ?_
      refine V_lcmp mi_152_20 ?_
      have cl := cdL_iff (x := 0) (a := (b : Int)) (b := 0) (by omega) (by omega) (by omega) (by omega)
      refine V_if mi_152_21 (fun q2 => ?_) (fun q2 => ?_)
      · have bz : b = 0 := by
          have : (b : Int) - 0 = 0 := cl.mp q2
          omega
        rw [bz, euN_z] at kk
        refine V_lload (v := Int64.ofInt ((a : Int))) mi_152_45 (by simp [stL, stL2, lv_args, Value.category]) ?_
        exact V_retL mi_152_47 kk
      · have bz : ¬ b = 0 := fun e => q2 (cl.mpr (show (b : Int) - 0 = 0 by omega))
        have ml := Nat.mod_lt a (show 0 < b by omega)
        refine V_lload (v := Int64.ofInt ((a : Int))) mi_152_24 (by simp [stL, stL2, lv_args, Value.category]) ?_
        refine V_lload (v := Int64.ofInt ((b : Int))) mi_152_26 (by simp [stL, stL2, lv_args, Value.category]) ?_
        refine V_lbin mi_152_28 (fun _ => nz64 (by omega) (by omega)) ?_
        rw [lrI (by omega) (by omega) (by omega)]
        refine V_lstore mi_152_29 ?_
        refine V_lload (v := Int64.ofInt ((b : Int))) mi_152_31 (by simp [stL, stL2, lv_args, Value.category]) ?_
        refine V_lstore mi_152_33 ?_
        refine V_lload (v := Int64.ofInt (((a % b : Nat) : Int))) mi_152_35 (by simp [stL, stL2, lv_args, Value.category]) ?_
        refine V_lstore mi_152_37 ?_
        refine V_iinc (v := Int32.ofInt ((i : Int))) mi_152_39 (by simp [stL, stL2, lv_args, Value.category]) ?_
        rw [ia2]
        refine V_goto mi_152_42 ?_
        refine V_sub (lv' := [(0, .long (Int64.ofInt ((a0 : Int)))), (2, .long (Int64.ofInt ((b0 : Int)))), (4, .long (Int64.ofInt ((b : Int)))), (6, .long (Int64.ofInt (((a % b : Nat) : Int)))), (8, .int (Int32.ofInt (((i + 1 : Nat) : Int))))]) (fun q hq => ?_) ?_
        · simp only [List.mem_cons, List.not_mem_nil, or_false] at hq
          rcases hq with rfl | rfl | rfl | rfl | rfl <;> simp [stL, stL2, lv_args, Value.category]
        rw [euN_s bz] at kk
        exact cdx_9 k (i + 1) b (a % b) (by omega) (by omega) (by omega) kk
theorem cdx_ct {a b : Nat} (ha : a ≤ 9223372036854775807) (hb : b ≤ 9223372036854775807) : CT l D tys A 152 0 0 0 [.long (Int64.ofInt ((a : Int))), .long (Int64.ofInt ((b : Int)))] ws (fun r w => w = ws ∧ r = some (.long (Int64.ofInt (Nat.gcd a b : Int)))) := by
  refine CT_of_V (by omega) (show (4 : Nat) ≤ mML 152 by decide +kernel) ?_
  refine V_lload (v := Int64.ofInt ((a : Int))) mi_152_0 (by simp [stL, stL2, lv_args, Value.category]) ?_
  refine V_lstore mi_152_1 ?_
  refine V_lload (v := Int64.ofInt ((b : Int))) mi_152_3 (by simp [stL, stL2, lv_args, Value.category]) ?_
  refine V_lstore mi_152_4 ?_
  refine V_ipush mi_152_6 ?_
  refine V_istore mi_152_7 ?_
  refine V_sub (lv' := [(0, .long (Int64.ofInt ((a : Int)))), (2, .long (Int64.ofInt ((b : Int)))), (4, .long (Int64.ofInt ((a : Int)))), (6, .long (Int64.ofInt ((b : Int)))), (8, .int (Int32.ofInt (((0 : Nat) : Int))))]) (fun q hq => ?_) ?_
  · simp only [List.mem_cons, List.not_mem_nil, or_false] at hq
    rcases hq with rfl | rfl | rfl | rfl | rfl <;> simp [stL, stL2, lv_args, Value.category]
  exact cdx_9 200 0 a b (by omega) ha hb ⟨rfl, by rw [eu_gcd 63 200 a b (Nat.lt_of_le_of_lt hb (by decide)) (by omega)]⟩
/-- all the ways that end whole -/
noncomputable def abN (G : Nat → Int) (f o t : Nat) : Nat := (smS t (gwN G f o t) (t + 1)).toNat
noncomputable def chL (G : Nat → Int) (f o : Nat) (z : Int) (t : Nat) : Int64 := if 8 < bnS t 13 then Int64.ofInt (-1) else lbF 3 (Int64.ofInt (if z = 0 then (abN G f o t : Int) else ((100 ^ bnS t 13 : Nat) : Int))) (Int64.ofInt (Nat.gcd (abN G f o t) (100 ^ bnS t 13) : Int))
theorem smS_0 {t : Nat} {g : Nat → Int} (hg : ∀ x, 0 ≤ g x) : ∀ n : Nat, 0 ≤ smS t g n
  | 0 => Int.le_refl _
  | n + 1 => by
    have ih := smS_0 hg n (t := t)
    have g1 := hg n
    unfold smS
    split <;> omega
/-- as many ways as sets, each of no more than c -/
theorem smS_k0 {t x : Nat} {g : Nat → Int} {c : Int} (hg : ∀ x, 0 ≤ g x ∧ g x ≤ c) (hx : x &&& t = x) (hi : smS t g x ≤ (rkN 12 t x : Int) * c) (k1 : x = t) : smS t g (t + 1) ≤ ((2 ^ pcN 12 t : Nat) : Int) * c := by
  have c0 : 0 ≤ c := Int.le_trans (hg 0).1 (hg 0).2
  have gx := hg x
  have rl := rkN_lt 12 t x
  have e : ((rkN 12 t x : Int) + 1) * c = (rkN 12 t x : Int) * c + c := by rw [Int.add_mul, Int.one_mul]
  have s : smS t g (x + 1) ≤ ((rkN 12 t x : Int) + 1) * c := by
    rw [smS_y hx, e]
    omega
  have m : ((rkN 12 t x : Int) + 1) * c ≤ ((2 ^ pcN 12 t : Nat) : Int) * c := Int.mul_le_mul_of_nonneg_right (by omega) c0
  have k2 : x + 1 = t + 1 := by omega
  rw [← k2]
  exact Int.le_trans s m
theorem smS_k {t : Nat} {g : Nat → Int} {c : Int} (ht : t < 4096) (hg : ∀ x, 0 ≤ g x ∧ g x ≤ c) : ∀ k x : Nat, t - x ≤ k → x &&& t = x → smS t g x ≤ (rkN 12 t x : Int) * c → smS t g (t + 1) ≤ ((2 ^ pcN 12 t : Nat) : Int) * c
  | 0, x, hk, hx, hi => by
    have xt := (sub_h hx).2.2
    exact smS_k0 hg hx hi (by omega)
  | k + 1, x, hk, hx, hi => by
    have gx := hg x
    have e : ((rkN 12 t x : Int) + 1) * c = (rkN 12 t x : Int) * c + c := by rw [Int.add_mul, Int.one_mul]
    rcases nx_ok 12 t x ht hx with ⟨k1, k2⟩ | ⟨k1, k2, k3, k4, k5⟩
    · exact smS_k0 hg hx hi k1
    · have gp : smS t g (nxN 12 t x) = smS t g (x + 1) := by
        rw [show nxN 12 t x = (x + 1) + (nxN 12 t x - (x + 1)) by omega]
        exact smS_gap _ (fun y y1 y2 => k5 y (by omega) (by omega))
      refine smS_k ht hg k (nxN 12 t x) (by omega) k3 ?_
      rw [gp, smS_y hx, k4, show ((rkN 12 t x + 1 : Nat) : Int) = (rkN 12 t x : Int) + 1 by omega, e]
      omega
theorem ab_b {G : Nat → Int} {f o t : Nat} (hB : HB G) (hf : f < 6) (ht : t < 4096) (h8 : bnS t 13 ≤ 8) : smS t (gwN G f o t) (t + 1) = (abN G f o t : Int) ∧ abN G f o t ≤ 2560000000000000000 := by
  have bd := hB.bd f hf
  have b12 : bnS t 12 ≤ bnS t 13 := Nat.le_add_right _ _
  have w8 : 100 ^ bnS t 12 ≤ 100 ^ 8 := Nat.pow_le_pow_right (by omega) (by omega)
  have hg : ∀ x, 0 ≤ gwN G f o t x ∧ gwN G f o t x ≤ 10000000000000000 := fun x => by
    have wb := wgN_b (t := t) (x := x) bd.1 bd.2 12
    unfold gwN
    split
    · refine ⟨wb.1, Int.le_trans wb.2 ?_⟩
      have : (100 : Nat) ^ 8 = 10000000000000000 := by decide
      omega
    · exact ⟨by omega, by omega⟩
  have s0 := smS_0 (t := t) (fun x => (hg x).1) (t + 1)
  have k := smS_k ht hg t 0 (by omega) (Nat.zero_and _) (by rw [rkN_z]; exact Int.le_of_eq (Int.zero_mul _).symm)
  rw [pcT ht] at k
  have r8 : 2 ^ bnS t 13 ≤ 2 ^ 8 := Nat.pow_le_pow_right (by omega) h8
  have r9 : (2 : Nat) ^ 8 = 256 := by decide
  unfold abN
  generalize smS t (gwN G f o t) (t + 1) = y at s0 k
  exact ⟨by omega, by omega⟩
theorem pwh_ct {e : Nat} (e9 : e ≤ 100) : CT l D tys A 151 0 0 0 [.int (Int32.ofInt 100), .int (Int32.ofInt (e : Int))] ws (fun r w => w = ws ∧ r = some (.long (Int64.ofInt ((100 ^ e : Nat) : Int)))) := pwc_ct (S := 100) (by omega) e9
theorem nw_4 {P : Nat → Bool} {n : Nat} (h : n ≤ 12) : nwN P n < 4096 := by
  have a : nwN P n < 2 ^ n := nwN_lt n
  have b : 2 ^ n ≤ 2 ^ 12 := Nat.pow_le_pow_right (by omega) h
  have c : (2 : Nat) ^ 12 = 4096 := by decide
  omega
theorem chaX_ct {G : Nat → Int} (hG : GOK ad tys GG ws) (hX : HX 4 G ws) (hS : STO G ws) (hB : HB G) (wf : WF G) {f o z : Int} (fI : I32 f) (oI : I32 o) (zI : I32 z) : CT l D tys A 62 6 0 0 [.ref (ad 0), .int (Int32.ofInt (f)), .int (Int32.ofInt (o)), .int (Int32.ofInt (z))] ws (fun r w => (GOK ad tys GG w ∧ XSC ws w) ∧ r = some (.long (if ((0 ≤ f ∧ f < G 3) ∧ (0 ≤ o ∧ o < G 3) ∧ f ≠ o) ∧ 0 ≤ z ∧ z ≤ 1 then chL G f.toNat o.toNat z (nwN (ntP G f.toNat) (G 4).toNat) else Int64.ofInt (-2)))) := by
  refine CT_of_V (by omega) (show (4 : Nat) ≤ mML 62 by decide +kernel) ?_
  have b3 := hB.b3
  have b4 := hB.b4
  have z1 := zI.1
  have z2 := zI.2
  refine V_aload (v := ad 0) mi_62_0 (by simp [stL, stL2, lv_args, Value.category]) ?_
  refine V_iload (v := Int32.ofInt (f)) mi_62_1 (by simp [stL, stL2, lv_args, Value.category]) ?_
  refine V_iload (v := Int32.ofInt (o)) mi_62_2 (by simp [stL, stL2, lv_args, Value.category]) ?_
  refine V_cO (As := [.int (Int32.ofInt (f)), .int (Int32.ofInt (o))]) (st := []) mi_62_3 (by omega) (by decide +kernel) (by decide +kernel) (by omega) g0o hG (x2_ct hG hX hB fI oI) (by omega) (show 2 = mN 74 by decide +kernel) (by simp [Value.category]) ?_
  rintro r w1 ⟨rfl, rfl⟩
  refine V_beq mi_62_6  (fun c1 => ?_) (fun c1 => ?_)
  · refine V_lpush mi_62_18 ?_
    exact V_retL mi_62_21 ⟨⟨hG, fun _ _ _ => rfl⟩, by rw [if_neg (fun k => of_decide_eq_false c1 k.1)]⟩
  · refine V_iload (v := Int32.ofInt (z)) mi_62_9 (by simp [stL, stL2, lv_args, Value.category]) ?_
    refine V_zlt mi_62_10 ⟨by omega, by omega⟩ (fun q2 => ?_) (fun q2 => ?_)
    · refine V_lpush mi_62_18 ?_
      exact V_retL mi_62_21 ⟨⟨hG, fun _ _ _ => rfl⟩, by rw [if_neg (fun k => by have := k.2.1; omega)]⟩
    · refine V_iload (v := Int32.ofInt (z)) mi_62_13 (by simp [stL, stL2, lv_args, Value.category]) ?_
      refine V_ipush mi_62_14 ?_
      refine V_cle mi_62_15 ⟨by omega, by omega⟩ ⟨by omega, by omega⟩ (fun q3 => ?_) (fun q3 => ?_)
      · have k1 := of_decide_eq_true c1
        have k2 : 0 ≤ z ∧ z ≤ 1 := ⟨by omega, by omega⟩
        obtain ⟨m, rfl⟩ := Int.eq_ofNat_of_zero_le k1.1.1
        obtain ⟨n, rfl⟩ := Int.eq_ofNat_of_zero_le k1.2.1.1
        have hm : (m : Int) < G 3 := k1.1.2
        have hn : (n : Int) < G 3 := k1.2.1.2
        refine V_aload (v := ad 0) mi_62_22 (by simp [stL, stL2, lv_args, Value.category]) ?_
        refine V_iload (v := Int32.ofInt ((m : Int))) mi_62_23 (by simp [stL, stL2, lv_args, Value.category]) ?_
        refine V_cO (As := [.int (Int32.ofInt ((m : Int)))]) (st := []) mi_62_24 (by omega) (by decide +kernel) (by decide +kernel) (by omega) g0o hG (telx_ct (f := m) hG hX hB hS hm) (by omega) (show 1 = mN 63 by decide +kernel) (by simp [Value.category]) ?_
        rintro r w2 ⟨rfl, rfl⟩
        have t4 : nwN (ntP G m) (G 4).toNat < 4096 := nw_4 (by omega)
        rw [if_pos ⟨k1, k2⟩, Int.toNat_natCast, Int.toNat_natCast]
        generalize nwN (ntP G m) (G 4).toNat = t at t4 ⊢
        refine V_istore mi_62_27 ?_
        refine V_iload (v := Int32.ofInt ((t : Int))) mi_62_29 (by simp [stL, stL2, lv_args, Value.category]) ?_
        refine V_stat (As := [.int (Int32.ofInt ((t : Int)))]) (st := []) mi_62_31 (by omega) (bch_ct (p := t) t4) (by omega) (show 1 = mN 344 by decide +kernel) (by simp [Value.category]) ⟨Nat.le_refl _, Nat.le_refl _⟩ ?_
        rintro r w3 ⟨rfl, rfl⟩
        have b13 := bnS_le t 13
        refine V_ipush mi_62_34 ?_
        refine V_cle mi_62_36 ⟨by omega, by omega⟩ ⟨by omega, by omega⟩ (fun q4 => ?_) (fun q4 => ?_)
        · have h8 : bnS t 13 ≤ 8 := by omega
          obtain ⟨eA, bA⟩ := ab_b (o := n) hB (by omega : m < 6) t4 h8
          have pl : 100 ^ bnS t 13 ≤ 100 ^ 8 := Nat.pow_le_pow_right (by omega) h8
          have p8 : (100 : Nat) ^ 8 = 10000000000000000 := by decide
          have pp : 0 < 100 ^ bnS t 13 := Nat.pow_pos (by omega)
          have gp : 0 < Nat.gcd (abN G m n t) (100 ^ bnS t 13) := Nat.gcd_pos_of_pos_right _ pp
          have gl : Nat.gcd (abN G m n t) (100 ^ bnS t 13) ≤ 100 ^ bnS t 13 := Nat.gcd_le_right _ pp
          refine V_aload (v := ad 0) mi_62_43 (by simp [stL, stL2, lv_args, Value.category]) ?_
          refine V_gR mi_62_44 g0r4 (by omega) hG ?_
          refine V_aload (v := ad 0) mi_62_47 (by simp [stL, stL2, lv_args, Value.category]) ?_
          refine V_gR mi_62_48 g0r2 (by omega) hG ?_
          refine V_iload (v := Int32.ofInt ((m : Int))) mi_62_51 (by simp [stL, stL2, lv_args, Value.category]) ?_
          refine V_iload (v := Int32.ofInt ((n : Int))) mi_62_52 (by simp [stL, stL2, lv_args, Value.category]) ?_
          refine V_iload (v := Int32.ofInt ((t : Int))) mi_62_53 (by simp [stL, stL2, lv_args, Value.category]) ?_
          refine V_cO (As := [.ref (ad 4), .int (Int32.ofInt ((m : Int))), .int (Int32.ofInt ((n : Int))), .int (Int32.ofInt ((t : Int)))]) (st := []) mi_62_55 (by omega) (by decide +kernel) (by decide +kernel) (by omega) g28o hG (ww_ct (f := m) (o := n) (t := t) hG hX hS hB wf hm (by omega) t4 h8) (by omega) (show 4 = mN 95 by decide +kernel) (by simp [Value.category]) ?_
          rintro r w4 ⟨⟨G4, O4⟩, e4⟩
          rw [e4, eA]
          change V _ _ _ _ _ _ _ _ _ _ _ _ _ [.long (Int64.ofInt (abN G m n t : Int))] _
          refine V_lstore mi_62_58 ?_
          refine V_ipush mi_62_60 ?_
          refine V_iload (v := Int32.ofInt ((t : Int))) mi_62_62 (by simp [stL, stL2, lv_args, Value.category]) ?_
          refine V_stat (As := [.int (Int32.ofInt ((t : Int)))]) (st := [.int (Int32.ofInt (100))]) mi_62_64 (by omega) (bch_ct (p := t) t4) (by omega) (show 1 = mN 344 by decide +kernel) (by simp [Value.category]) ⟨Nat.le_refl _, Nat.le_refl _⟩ ?_
          rintro r w5 ⟨e5, rfl⟩
          rw [e5]
          refine V_stat (As := [.int (Int32.ofInt (100)), .int (Int32.ofInt (((bnS t 13 : Nat) : Int)))]) (st := []) mi_62_67 (by omega) (pwh_ct (e := bnS t 13) (by omega)) (by omega) (show 2 = mN 151 by decide +kernel) (by simp [Value.category]) ⟨Nat.le_refl _, Nat.le_refl _⟩ ?_
          rintro r w6 ⟨e6, rfl⟩
          rw [e6]
          refine V_lstore mi_62_70 ?_
          refine V_lload (v := Int64.ofInt ((abN G m n t : Int))) mi_62_72 (by simp [stL, stL2, lv_args, Value.category]) ?_
          refine V_lload (v := Int64.ofInt (((100 ^ bnS t 13 : Nat) : Int))) mi_62_74 (by simp [stL, stL2, lv_args, Value.category]) ?_
          refine V_stat (As := [.long (Int64.ofInt ((abN G m n t : Int))), .long (Int64.ofInt (((100 ^ bnS t 13 : Nat) : Int)))]) (st := []) mi_62_76 (by omega) (cdx_ct (a := abN G m n t) (b := 100 ^ bnS t 13) (by omega) (by omega)) (by omega) (show 2 = mN 152 by decide +kernel) (by simp [Value.category]) ⟨Nat.le_refl _, Nat.le_refl _⟩ ?_
          rintro r w7 ⟨e7, rfl⟩
          rw [e7]
          refine V_lstore mi_62_79 ?_
          refine V_lload (v := Int64.ofInt ((Nat.gcd (abN G m n t) (100 ^ bnS t 13) : Int))) mi_62_81 (by simp [stL, stL2, lv_args, Value.category]) ?_
          refine V_lpush mi_62_83 ?_
          refine V_lcmp mi_62_84 ?_
          have cl := cdL_iff (x := 3) (a := (Nat.gcd (abN G m n t) (100 ^ bnS t 13) : Int)) (b := 1) (by omega) (by omega) (by omega) (by omega)
          refine V_if mi_62_85 (fun q5 => ?_) (fun q5 => ?_)
          · refine V_iload (v := Int32.ofInt (z)) mi_62_92 (by simp [stL, stL2, lv_args, Value.category]) ?_
            refine V_zne mi_62_93 ⟨by omega, by omega⟩ (fun q6 => ?_) (fun q6 => ?_)
            · refine V_lload (v := Int64.ofInt (((100 ^ bnS t 13 : Nat) : Int))) mi_62_101 (by simp [stL, stL2, lv_args, Value.category]) ?_
              refine V_lload (v := Int64.ofInt ((Nat.gcd (abN G m n t) (100 ^ bnS t 13) : Int))) mi_62_103 (by simp [stL, stL2, lv_args, Value.category]) ?_
              refine V_lbin mi_62_105 (fun _ => nz64 (by omega) (by omega)) ?_
              exact V_retL mi_62_106 ⟨⟨G4, O4⟩, by unfold chL; rw [if_neg (by omega), if_neg q6]⟩
            · refine V_lload (v := Int64.ofInt ((abN G m n t : Int))) mi_62_96 (by simp [stL, stL2, lv_args, Value.category]) ?_
              refine V_goto mi_62_98 ?_
              refine V_lload (v := Int64.ofInt ((Nat.gcd (abN G m n t) (100 ^ bnS t 13) : Int))) mi_62_103 (by simp [stL, stL2, lv_args, Value.category]) ?_
              refine V_lbin mi_62_105 (fun _ => nz64 (by omega) (by omega)) ?_
              exact V_retL mi_62_106 ⟨⟨G4, O4⟩, by unfold chL; rw [if_neg (by omega), if_pos q6]⟩
          · exact absurd (cl.mpr (show 0 ≤ (Nat.gcd (abN G m n t) (100 ^ bnS t 13) : Int) - 1 by omega)) q5
        · refine V_lpush mi_62_39 ?_
          exact V_retL mi_62_42 ⟨⟨hG, fun _ _ _ => rfl⟩, by unfold chL; rw [if_pos (by omega)]⟩
      · refine V_lpush mi_62_18 ?_
        exact V_retL mi_62_21 ⟨⟨hG, fun _ _ _ => rfl⟩, by rw [if_neg (fun k => by have := k.2.2; omega)]⟩
end XXC
