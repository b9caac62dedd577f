theorem mi_4_0 : mI 4 0 = (3, 0, 1, 0, 0) := by decide +kernel
theorem mi_4_1 : mI 4 1 = (36, 43, 27, 35, 27) := by decide +kernel
theorem mi_4_28 : mI 4 28 = (5, 0, 0, 0, 0) := by decide +kernel
theorem mi_4_29 : mI 4 29 = (17, 297, 12, 10, 0) := by decide +kernel
theorem mi_4_32 : mI 4 32 = (17, 67, 98, 5, 1) := by decide +kernel
theorem mi_4_35 : mI 4 35 = (27, 0, 0, 0, 0) := by decide +kernel
theorem mi_4_36 : mI 4 36 = (5, 0, 0, 0, 0) := by decide +kernel
theorem mi_4_37 : mI 4 37 = (17, 297, 12, 10, 0) := by decide +kernel
theorem mi_4_40 : mI 4 40 = (17, 69, 110, 5, 2) := by decide +kernel
theorem mi_4_43 : mI 4 43 = (27, 0, 0, 0, 0) := by decide +kernel
theorem mi_4_44 : mI 4 44 = (1, (-1), 0, 0, 0) := by decide +kernel
theorem mi_4_45 : mI 4 45 = (27, 0, 0, 0, 0) := by decide +kernel
theorem mi_5_0 : mI 5 0 = (5, 0, 0, 0, 0) := by decide +kernel
theorem mi_5_1 : mI 5 1 = (17, 299, 24, 10, 2) := by decide +kernel
theorem mi_5_4 : mI 5 4 = (3, 0, 1, 0, 0) := by decide +kernel
theorem mi_5_5 : mI 5 5 = (26, 607, 113, 102, 0) := by decide +kernel
theorem mi_5_8 : mI 5 8 = (14, 6, 1, 14, 0) := by decide +kernel
theorem mi_5_11 : mI 5 11 = (1, (-2), 1, 0, 0) := by decide +kernel
theorem mi_5_13 : mI 5 13 = (27, 0, 0, 0, 0) := by decide +kernel
theorem mi_5_14 : mI 5 14 = (5, 0, 0, 0, 0) := by decide +kernel
theorem mi_5_15 : mI 5 15 = (17, 299, 24, 10, 2) := by decide +kernel
theorem mi_5_18 : mI 5 18 = (3, 0, 1, 0, 0) := by decide +kernel
theorem mi_5_19 : mI 5 19 = (3, 0, 2, 0, 0) := by decide +kernel
theorem mi_5_20 : mI 5 20 = (26, 608, 117, 105, 0) := by decide +kernel
theorem mi_5_23 : mI 5 23 = (14, 15, 0, 38, 0) := by decide +kernel
theorem mi_5_26 : mI 5 26 = (5, 0, 0, 0, 0) := by decide +kernel
theorem mi_5_27 : mI 5 27 = (17, 299, 24, 10, 2) := by decide +kernel
theorem mi_5_30 : mI 5 30 = (3, 0, 1, 0, 0) := by decide +kernel
theorem mi_5_31 : mI 5 31 = (3, 0, 2, 0, 0) := by decide +kernel
theorem mi_5_32 : mI 5 32 = (26, 612, 121, 107, 0) := by decide +kernel
theorem mi_5_35 : mI 5 35 = (16, 4, 0, 39, 0) := by decide +kernel
theorem mi_5_38 : mI 5 38 = (1, (-1), 0, 0, 0) := by decide +kernel
theorem mi_5_39 : mI 5 39 = (27, 0, 0, 0, 0) := by decide +kernel
theorem mi_6_0 : mI 6 0 = (5, 0, 0, 0, 0) := by decide +kernel
theorem mi_6_1 : mI 6 1 = (17, 299, 24, 10, 2) := by decide +kernel
theorem mi_6_4 : mI 6 4 = (3, 0, 1, 0, 0) := by decide +kernel
theorem mi_6_5 : mI 6 5 = (26, 607, 113, 102, 0) := by decide +kernel
theorem mi_6_8 : mI 6 8 = (14, 14, 0, 22, 0) := by decide +kernel
theorem mi_6_11 : mI 6 11 = (5, 0, 0, 0, 0) := by decide +kernel
theorem mi_6_12 : mI 6 12 = (17, 299, 24, 10, 2) := by decide +kernel
theorem mi_6_15 : mI 6 15 = (3, 0, 1, 0, 0) := by decide +kernel
theorem mi_6_16 : mI 6 16 = (26, 620, 125, 106, 0) := by decide +kernel
theorem mi_6_19 : mI 6 19 = (16, 5, 0, 24, 0) := by decide +kernel
theorem mi_6_22 : mI 6 22 = (1, (-2), 1, 0, 0) := by decide +kernel
theorem mi_6_24 : mI 6 24 = (27, 0, 0, 0, 0) := by decide +kernel
theorem mi_7_0 : mI 7 0 = (5, 0, 0, 0, 0) := by decide +kernel
theorem mi_7_1 : mI 7 1 = (17, 299, 24, 10, 2) := by decide +kernel
theorem mi_7_4 : mI 7 4 = (3, 0, 1, 0, 0) := by decide +kernel
theorem mi_7_5 : mI 7 5 = (26, 607, 113, 102, 0) := by decide +kernel
theorem mi_7_8 : mI 7 8 = (14, 6, 1, 14, 0) := by decide +kernel
theorem mi_7_11 : mI 7 11 = (1, (-2), 1, 0, 0) := by decide +kernel
theorem mi_7_13 : mI 7 13 = (27, 0, 0, 0, 0) := by decide +kernel
theorem mi_7_14 : mI 7 14 = (3, 0, 2, 0, 0) := by decide +kernel
theorem mi_7_15 : mI 7 15 = (28, 0, 0, 0, 0) := by decide +kernel
theorem mi_7_40 : mI 7 40 = (5, 0, 0, 0, 0) := by decide +kernel
theorem mi_7_41 : mI 7 41 = (17, 299, 24, 10, 2) := by decide +kernel
theorem mi_7_44 : mI 7 44 = (17, 119, 129, 2, 8) := by decide +kernel
theorem mi_7_47 : mI 7 47 = (3, 0, 1, 0, 0) := by decide +kernel
theorem mi_7_48 : mI 7 48 = (26, 625, 133, 147, 1) := by decide +kernel
theorem mi_7_51 : mI 7 51 = (27, 0, 0, 0, 0) := by decide +kernel
theorem mi_7_52 : mI 7 52 = (5, 0, 0, 0, 0) := by decide +kernel
theorem mi_7_53 : mI 7 53 = (17, 299, 24, 10, 2) := by decide +kernel
theorem mi_7_56 : mI 7 56 = (17, 122, 139, 2, 9) := by decide +kernel
theorem mi_7_59 : mI 7 59 = (3, 0, 1, 0, 0) := by decide +kernel
theorem mi_7_60 : mI 7 60 = (26, 625, 133, 147, 1) := by decide +kernel
theorem mi_7_63 : mI 7 63 = (27, 0, 0, 0, 0) := by decide +kernel
theorem mi_7_64 : mI 7 64 = (5, 0, 0, 0, 0) := by decide +kernel
theorem mi_7_65 : mI 7 65 = (17, 299, 24, 10, 2) := by decide +kernel
theorem mi_7_68 : mI 7 68 = (17, 126, 142, 2, 10) := by decide +kernel
theorem mi_7_71 : mI 7 71 = (3, 0, 1, 0, 0) := by decide +kernel
theorem mi_7_72 : mI 7 72 = (26, 625, 133, 147, 1) := by decide +kernel
theorem mi_7_75 : mI 7 75 = (27, 0, 0, 0, 0) := by decide +kernel
theorem mi_7_76 : mI 7 76 = (1, (-2), 1, 0, 0) := by decide +kernel
theorem mi_7_78 : mI 7 78 = (27, 0, 0, 0, 0) := by decide +kernel
theorem mi_8_0 : mI 8 0 = (5, 0, 0, 0, 0) := by decide +kernel
theorem mi_8_1 : mI 8 1 = (17, 299, 24, 10, 2) := by decide +kernel
theorem mi_8_4 : mI 8 4 = (3, 0, 1, 0, 0) := by decide +kernel
theorem mi_8_5 : mI 8 5 = (26, 607, 113, 102, 0) := by decide +kernel
theorem mi_8_8 : mI 8 8 = (14, 26, 0, 34, 0) := by decide +kernel
theorem mi_8_11 : mI 8 11 = (5, 0, 0, 0, 0) := by decide +kernel
theorem mi_8_12 : mI 8 12 = (17, 299, 24, 10, 2) := by decide +kernel
theorem mi_8_15 : mI 8 15 = (3, 0, 2, 0, 0) := by decide +kernel
theorem mi_8_16 : mI 8 16 = (26, 630, 145, 103, 0) := by decide +kernel
theorem mi_8_19 : mI 8 19 = (14, 15, 0, 34, 0) := by decide +kernel
theorem mi_8_22 : mI 8 22 = (5, 0, 0, 0, 0) := by decide +kernel
theorem mi_8_23 : mI 8 23 = (17, 299, 24, 10, 2) := by decide +kernel
theorem mi_8_26 : mI 8 26 = (3, 0, 1, 0, 0) := by decide +kernel
theorem mi_8_27 : mI 8 27 = (3, 0, 2, 0, 0) := by decide +kernel
theorem mi_8_28 : mI 8 28 = (26, 631, 148, 110, 0) := by decide +kernel
theorem mi_8_31 : mI 8 31 = (16, 5, 0, 36, 0) := by decide +kernel
theorem mi_8_34 : mI 8 34 = (1, (-2), 1, 0, 0) := by decide +kernel
theorem mi_8_36 : mI 8 36 = (27, 0, 0, 0, 0) := by decide +kernel
theorem mi_9_0 : mI 9 0 = (5, 0, 0, 0, 0) := by decide +kernel
theorem mi_9_1 : mI 9 1 = (17, 299, 24, 10, 2) := by decide +kernel
theorem mi_9_4 : mI 9 4 = (3, 0, 1, 0, 0) := by decide +kernel
theorem mi_9_5 : mI 9 5 = (26, 636, 151, 104, 0) := by decide +kernel
theorem mi_9_8 : mI 9 8 = (14, 6, 1, 14, 0) := by decide +kernel
theorem mi_9_11 : mI 9 11 = (1, (-2), 1, 0, 0) := by decide +kernel
theorem mi_9_13 : mI 9 13 = (27, 0, 0, 0, 0) := by decide +kernel
theorem mi_9_14 : mI 9 14 = (3, 0, 2, 0, 0) := by decide +kernel
theorem mi_9_15 : mI 9 15 = (28, 0, 0, 0, 0) := by decide +kernel
theorem mi_9_44 : mI 9 44 = (5, 0, 0, 0, 0) := by decide +kernel
theorem mi_9_45 : mI 9 45 = (17, 299, 24, 10, 2) := by decide +kernel
theorem mi_9_48 : mI 9 48 = (17, 137, 154, 2, 13) := by decide +kernel
theorem mi_9_51 : mI 9 51 = (3, 0, 1, 0, 0) := by decide +kernel
theorem mi_9_52 : mI 9 52 = (26, 625, 133, 147, 1) := by decide +kernel
theorem mi_9_55 : mI 9 55 = (27, 0, 0, 0, 0) := by decide +kernel
theorem mi_9_56 : mI 9 56 = (5, 0, 0, 0, 0) := by decide +kernel
theorem mi_9_57 : mI 9 57 = (17, 299, 24, 10, 2) := by decide +kernel
theorem mi_9_60 : mI 9 60 = (17, 140, 157, 2, 14) := by decide +kernel
theorem mi_9_63 : mI 9 63 = (3, 0, 1, 0, 0) := by decide +kernel
theorem mi_9_64 : mI 9 64 = (26, 625, 133, 147, 1) := by decide +kernel
theorem mi_9_67 : mI 9 67 = (27, 0, 0, 0, 0) := by decide +kernel
theorem mi_9_68 : mI 9 68 = (5, 0, 0, 0, 0) := by decide +kernel
theorem mi_9_69 : mI 9 69 = (17, 299, 24, 10, 2) := by decide +kernel
theorem mi_9_72 : mI 9 72 = (17, 143, 160, 2, 15) := by decide +kernel
theorem mi_9_75 : mI 9 75 = (3, 0, 1, 0, 0) := by decide +kernel
theorem mi_9_76 : mI 9 76 = (26, 625, 133, 147, 1) := by decide +kernel
theorem mi_9_79 : mI 9 79 = (27, 0, 0, 0, 0) := by decide +kernel
theorem mi_9_80 : mI 9 80 = (5, 0, 0, 0, 0) := by decide +kernel
theorem mi_9_81 : mI 9 81 = (17, 299, 24, 10, 2) := by decide +kernel
theorem mi_9_84 : mI 9 84 = (17, 147, 163, 2, 16) := by decide +kernel
theorem mi_9_87 : mI 9 87 = (3, 0, 1, 0, 0) := by decide +kernel
theorem mi_9_88 : mI 9 88 = (26, 625, 133, 147, 1) := by decide +kernel
theorem mi_9_91 : mI 9 91 = (27, 0, 0, 0, 0) := by decide +kernel
theorem mi_9_92 : mI 9 92 = (1, (-2), 1, 0, 0) := by decide +kernel
theorem mi_9_94 : mI 9 94 = (27, 0, 0, 0, 0) := by decide +kernel
theorem mi_27_0 : mI 27 0 = (5, 0, 0, 0, 0) := by decide +kernel
theorem mi_27_1 : mI 27 1 = (3, 0, 1, 0, 0) := by decide +kernel
theorem mi_27_2 : mI 27 2 = (3, 0, 2, 0, 0) := by decide +kernel
theorem mi_27_3 : mI 27 3 = (26, 668, 179, 74, 0) := by decide +kernel
theorem mi_27_6 : mI 27 6 = (14, 6, 1, 12, 0) := by decide +kernel
theorem mi_27_9 : mI 27 9 = (1, (-2), 1, 0, 0) := by decide +kernel
theorem mi_27_11 : mI 27 11 = (27, 0, 0, 0, 0) := by decide +kernel
theorem mi_27_12 : mI 27 12 = (1, 0, 0, 0, 0) := by decide +kernel
theorem mi_27_13 : mI 27 13 = (6, 0, 3, 0, 0) := by decide +kernel
theorem mi_27_14 : mI 27 14 = (1, 0, 0, 0, 0) := by decide +kernel
theorem mi_27_15 : mI 27 15 = (6, 0, 4, 1, 0) := by decide +kernel
theorem mi_27_17 : mI 27 17 = (3, 0, 4, 1, 0) := by decide +kernel
theorem mi_27_19 : mI 27 19 = (5, 0, 0, 0, 0) := by decide +kernel
theorem mi_27_20 : mI 27 20 = (17, 299, 24, 10, 2) := by decide +kernel
theorem mi_27_23 : mI 27 23 = (17, 99, 205, 2, 3) := by decide +kernel
theorem mi_27_26 : mI 27 26 = (15, 39, 3, 65, 0) := by decide +kernel
theorem mi_27_29 : mI 27 29 = (5, 0, 0, 0, 0) := by decide +kernel
theorem mi_27_30 : mI 27 30 = (17, 299, 24, 10, 2) := by decide +kernel
theorem mi_27_33 : mI 27 33 = (3, 0, 1, 0, 0) := by decide +kernel
theorem mi_27_34 : mI 27 34 = (3, 0, 4, 1, 0) := by decide +kernel
theorem mi_27_36 : mI 27 36 = (26, 631, 148, 110, 0) := by decide +kernel
theorem mi_27_39 : mI 27 39 = (5, 0, 0, 0, 0) := by decide +kernel
theorem mi_27_40 : mI 27 40 = (17, 299, 24, 10, 2) := by decide +kernel
theorem mi_27_43 : mI 27 43 = (3, 0, 2, 0, 0) := by decide +kernel
theorem mi_27_44 : mI 27 44 = (3, 0, 4, 1, 0) := by decide +kernel
theorem mi_27_46 : mI 27 46 = (26, 631, 148, 110, 0) := by decide +kernel
theorem mi_27_49 : mI 27 49 = (15, 10, 1, 59, 0) := by decide +kernel
theorem mi_27_52 : mI 27 52 = (3, 0, 3, 0, 0) := by decide +kernel
theorem mi_27_53 : mI 27 53 = (1, 1, 0, 0, 0) := by decide +kernel
theorem mi_27_54 : mI 27 54 = (3, 0, 4, 1, 0) := by decide +kernel
theorem mi_27_56 : mI 27 56 = (10, 0, 8, 0, 0) := by decide +kernel
theorem mi_27_57 : mI 27 57 = (10, 0, 6, 0, 0) := by decide +kernel
theorem mi_27_58 : mI 27 58 = (6, 0, 3, 0, 0) := by decide +kernel
theorem mi_27_59 : mI 27 59 = (9, 1, 4, 0, 0) := by decide +kernel
theorem mi_27_62 : mI 27 62 = (16, (-45), 0, 17, 0) := by decide +kernel
theorem mi_27_65 : mI 27 65 = (3, 0, 3, 0, 0) := by decide +kernel
theorem mi_27_66 : mI 27 66 = (27, 0, 0, 0, 0) := by decide +kernel
theorem mi_29_0 : mI 29 0 = (5, 0, 0, 0, 0) := by decide +kernel
theorem mi_29_1 : mI 29 1 = (17, 299, 24, 10, 2) := by decide +kernel
theorem mi_29_4 : mI 29 4 = (3, 0, 1, 0, 0) := by decide +kernel
theorem mi_29_5 : mI 29 5 = (26, 607, 113, 102, 0) := by decide +kernel
theorem mi_29_8 : mI 29 8 = (14, 6, 1, 14, 0) := by decide +kernel
theorem mi_29_11 : mI 29 11 = (1, (-2), 1, 0, 0) := by decide +kernel
theorem mi_29_13 : mI 29 13 = (27, 0, 0, 0, 0) := by decide +kernel
theorem mi_29_14 : mI 29 14 = (1, 0, 0, 0, 0) := by decide +kernel
theorem mi_29_15 : mI 29 15 = (6, 0, 2, 0, 0) := by decide +kernel
theorem mi_29_16 : mI 29 16 = (1, 0, 0, 0, 0) := by decide +kernel
theorem mi_29_17 : mI 29 17 = (6, 0, 3, 0, 0) := by decide +kernel
theorem mi_29_18 : mI 29 18 = (3, 0, 3, 0, 0) := by decide +kernel
theorem mi_29_19 : mI 29 19 = (5, 0, 0, 0, 0) := by decide +kernel
theorem mi_29_20 : mI 29 20 = (17, 299, 24, 10, 2) := by decide +kernel
theorem mi_29_23 : mI 29 23 = (17, 107, 196, 2, 4) := by decide +kernel
theorem mi_29_26 : mI 29 26 = (15, 27, 3, 53, 0) := by decide +kernel
theorem mi_29_29 : mI 29 29 = (5, 0, 0, 0, 0) := by decide +kernel
theorem mi_29_30 : mI 29 30 = (17, 299, 24, 10, 2) := by decide +kernel
theorem mi_29_33 : mI 29 33 = (3, 0, 3, 0, 0) := by decide +kernel
theorem mi_29_34 : mI 29 34 = (3, 0, 1, 0, 0) := by decide +kernel
theorem mi_29_35 : mI 29 35 = (26, 762, 220, 114, 0) := by decide +kernel
theorem mi_29_38 : mI 29 38 = (14, 9, 0, 47, 0) := by decide +kernel
theorem mi_29_41 : mI 29 41 = (3, 0, 2, 0, 0) := by decide +kernel
theorem mi_29_42 : mI 29 42 = (1, 1, 0, 0, 0) := by decide +kernel
theorem mi_29_43 : mI 29 43 = (3, 0, 3, 0, 0) := by decide +kernel
theorem mi_29_44 : mI 29 44 = (10, 0, 8, 0, 0) := by decide +kernel
theorem mi_29_45 : mI 29 45 = (10, 0, 6, 0, 0) := by decide +kernel
theorem mi_29_46 : mI 29 46 = (6, 0, 2, 0, 0) := by decide +kernel
theorem mi_29_47 : mI 29 47 = (9, 1, 3, 0, 0) := by decide +kernel
theorem mi_29_50 : mI 29 50 = (16, (-32), 0, 18, 0) := by decide +kernel
theorem mi_29_53 : mI 29 53 = (3, 0, 2, 0, 0) := by decide +kernel
theorem mi_29_54 : mI 29 54 = (27, 0, 0, 0, 0) := by decide +kernel
theorem mi_30_0 : mI 30 0 = (5, 0, 0, 0, 0) := by decide +kernel
theorem mi_30_1 : mI 30 1 = (17, 299, 24, 10, 2) := by decide +kernel
theorem mi_30_4 : mI 30 4 = (3, 0, 1, 0, 0) := by decide +kernel
theorem mi_30_5 : mI 30 5 = (26, 607, 113, 102, 0) := by decide +kernel
theorem mi_30_8 : mI 30 8 = (14, 6, 1, 14, 0) := by decide +kernel
theorem mi_30_11 : mI 30 11 = (1, (-2), 1, 0, 0) := by decide +kernel
theorem mi_30_13 : mI 30 13 = (27, 0, 0, 0, 0) := by decide +kernel
theorem mi_30_14 : mI 30 14 = (1, 0, 0, 0, 0) := by decide +kernel
theorem mi_30_15 : mI 30 15 = (6, 0, 2, 0, 0) := by decide +kernel
theorem mi_30_16 : mI 30 16 = (1, 0, 0, 0, 0) := by decide +kernel
theorem mi_30_17 : mI 30 17 = (6, 0, 3, 0, 0) := by decide +kernel
theorem mi_30_18 : mI 30 18 = (3, 0, 3, 0, 0) := by decide +kernel
theorem mi_30_19 : mI 30 19 = (5, 0, 0, 0, 0) := by decide +kernel
theorem mi_30_20 : mI 30 20 = (17, 299, 24, 10, 2) := by decide +kernel
theorem mi_30_23 : mI 30 23 = (17, 107, 196, 2, 4) := by decide +kernel
theorem mi_30_26 : mI 30 26 = (15, 44, 3, 70, 0) := by decide +kernel
theorem mi_30_29 : mI 30 29 = (3, 0, 3, 0, 0) := by decide +kernel
theorem mi_30_30 : mI 30 30 = (3, 0, 1, 0, 0) := by decide +kernel
theorem mi_30_31 : mI 30 31 = (15, 33, 0, 64, 0) := by decide +kernel
theorem mi_30_34 : mI 30 34 = (5, 0, 0, 0, 0) := by decide +kernel
theorem mi_30_35 : mI 30 35 = (17, 299, 24, 10, 2) := by decide +kernel
theorem mi_30_38 : mI 30 38 = (3, 0, 3, 0, 0) := by decide +kernel
theorem mi_30_39 : mI 30 39 = (3, 0, 1, 0, 0) := by decide +kernel
theorem mi_30_40 : mI 30 40 = (26, 762, 220, 114, 0) := by decide +kernel
theorem mi_30_43 : mI 30 43 = (14, 21, 0, 64, 0) := by decide +kernel
theorem mi_30_46 : mI 30 46 = (5, 0, 0, 0, 0) := by decide +kernel
theorem mi_30_47 : mI 30 47 = (17, 299, 24, 10, 2) := by decide +kernel
theorem mi_30_50 : mI 30 50 = (3, 0, 1, 0, 0) := by decide +kernel
theorem mi_30_51 : mI 30 51 = (3, 0, 3, 0, 0) := by decide +kernel
theorem mi_30_52 : mI 30 52 = (26, 762, 220, 114, 0) := by decide +kernel
theorem mi_30_55 : mI 30 55 = (14, 9, 0, 64, 0) := by decide +kernel
theorem mi_30_58 : mI 30 58 = (3, 0, 2, 0, 0) := by decide +kernel
theorem mi_30_59 : mI 30 59 = (1, 1, 0, 0, 0) := by decide +kernel
theorem mi_30_60 : mI 30 60 = (3, 0, 3, 0, 0) := by decide +kernel
theorem mi_30_61 : mI 30 61 = (10, 0, 8, 0, 0) := by decide +kernel
theorem mi_30_62 : mI 30 62 = (10, 0, 6, 0, 0) := by decide +kernel
theorem mi_30_63 : mI 30 63 = (6, 0, 2, 0, 0) := by decide +kernel
theorem mi_30_64 : mI 30 64 = (9, 1, 3, 0, 0) := by decide +kernel
theorem mi_30_67 : mI 30 67 = (16, (-49), 0, 18, 0) := by decide +kernel
theorem mi_30_70 : mI 30 70 = (3, 0, 2, 0, 0) := by decide +kernel
theorem mi_30_71 : mI 30 71 = (27, 0, 0, 0, 0) := by decide +kernel
theorem mi_31_0 : mI 31 0 = (5, 0, 0, 0, 0) := by decide +kernel
theorem mi_31_1 : mI 31 1 = (17, 299, 24, 10, 2) := by decide +kernel
theorem mi_31_4 : mI 31 4 = (3, 0, 1, 0, 0) := by decide +kernel
theorem mi_31_5 : mI 31 5 = (26, 607, 113, 102, 0) := by decide +kernel
theorem mi_31_8 : mI 31 8 = (14, 6, 1, 14, 0) := by decide +kernel
theorem mi_31_11 : mI 31 11 = (1, (-2), 1, 0, 0) := by decide +kernel
theorem mi_31_13 : mI 31 13 = (27, 0, 0, 0, 0) := by decide +kernel
theorem mi_31_14 : mI 31 14 = (1, 0, 0, 0, 0) := by decide +kernel
theorem mi_31_15 : mI 31 15 = (6, 0, 2, 0, 0) := by decide +kernel
theorem mi_31_16 : mI 31 16 = (1, 0, 0, 0, 0) := by decide +kernel
theorem mi_31_17 : mI 31 17 = (6, 0, 3, 0, 0) := by decide +kernel
theorem mi_31_18 : mI 31 18 = (3, 0, 3, 0, 0) := by decide +kernel
theorem mi_31_19 : mI 31 19 = (5, 0, 0, 0, 0) := by decide +kernel
theorem mi_31_20 : mI 31 20 = (17, 299, 24, 10, 2) := by decide +kernel
theorem mi_31_23 : mI 31 23 = (17, 107, 196, 2, 4) := by decide +kernel
theorem mi_31_26 : mI 31 26 = (15, 44, 3, 70, 0) := by decide +kernel
theorem mi_31_29 : mI 31 29 = (3, 0, 3, 0, 0) := by decide +kernel
theorem mi_31_30 : mI 31 30 = (3, 0, 1, 0, 0) := by decide +kernel
theorem mi_31_31 : mI 31 31 = (15, 33, 0, 64, 0) := by decide +kernel
theorem mi_31_34 : mI 31 34 = (5, 0, 0, 0, 0) := by decide +kernel
theorem mi_31_35 : mI 31 35 = (17, 299, 24, 10, 2) := by decide +kernel
theorem mi_31_38 : mI 31 38 = (3, 0, 3, 0, 0) := by decide +kernel
theorem mi_31_39 : mI 31 39 = (3, 0, 1, 0, 0) := by decide +kernel
theorem mi_31_40 : mI 31 40 = (26, 762, 220, 114, 0) := by decide +kernel
theorem mi_31_43 : mI 31 43 = (14, 15, 1, 58, 0) := by decide +kernel
theorem mi_31_46 : mI 31 46 = (5, 0, 0, 0, 0) := by decide +kernel
theorem mi_31_47 : mI 31 47 = (17, 299, 24, 10, 2) := by decide +kernel
theorem mi_31_50 : mI 31 50 = (3, 0, 1, 0, 0) := by decide +kernel
theorem mi_31_51 : mI 31 51 = (3, 0, 3, 0, 0) := by decide +kernel
theorem mi_31_52 : mI 31 52 = (26, 762, 220, 114, 0) := by decide +kernel
theorem mi_31_55 : mI 31 55 = (14, 9, 0, 64, 0) := by decide +kernel
theorem mi_31_58 : mI 31 58 = (3, 0, 2, 0, 0) := by decide +kernel
theorem mi_31_59 : mI 31 59 = (1, 1, 0, 0, 0) := by decide +kernel
theorem mi_31_60 : mI 31 60 = (3, 0, 3, 0, 0) := by decide +kernel
theorem mi_31_61 : mI 31 61 = (10, 0, 8, 0, 0) := by decide +kernel
theorem mi_31_62 : mI 31 62 = (10, 0, 6, 0, 0) := by decide +kernel
theorem mi_31_63 : mI 31 63 = (6, 0, 2, 0, 0) := by decide +kernel
theorem mi_31_64 : mI 31 64 = (9, 1, 3, 0, 0) := by decide +kernel
theorem mi_31_67 : mI 31 67 = (16, (-49), 0, 18, 0) := by decide +kernel
theorem mi_31_70 : mI 31 70 = (3, 0, 2, 0, 0) := by decide +kernel
theorem mi_31_71 : mI 31 71 = (27, 0, 0, 0, 0) := by decide +kernel
theorem mi_41_0 : mI 41 0 = (5, 0, 0, 0, 0) := by decide +kernel
theorem mi_41_1 : mI 41 1 = (17, 299, 24, 10, 2) := by decide +kernel
theorem mi_41_4 : mI 41 4 = (3, 0, 1, 0, 0) := by decide +kernel
theorem mi_41_5 : mI 41 5 = (26, 607, 113, 102, 0) := by decide +kernel
theorem mi_41_8 : mI 41 8 = (14, 27, 0, 35, 0) := by decide +kernel
theorem mi_41_11 : mI 41 11 = (5, 0, 0, 0, 0) := by decide +kernel
theorem mi_41_12 : mI 41 12 = (17, 299, 24, 10, 2) := by decide +kernel
theorem mi_41_15 : mI 41 15 = (3, 0, 2, 0, 0) := by decide +kernel
theorem mi_41_16 : mI 41 16 = (3, 0, 3, 0, 0) := by decide +kernel
theorem mi_41_17 : mI 41 17 = (26, 608, 117, 105, 0) := by decide +kernel
theorem mi_41_20 : mI 41 20 = (14, 15, 0, 35, 0) := by decide +kernel
theorem mi_41_23 : mI 41 23 = (5, 0, 0, 0, 0) := by decide +kernel
theorem mi_41_24 : mI 41 24 = (17, 299, 24, 10, 2) := by decide +kernel
theorem mi_41_27 : mI 41 27 = (3, 0, 4, 1, 0) := by decide +kernel
theorem mi_41_29 : mI 41 29 = (26, 630, 145, 103, 0) := by decide +kernel
theorem mi_41_32 : mI 41 32 = (14, 6, 1, 38, 0) := by decide +kernel
theorem mi_41_35 : mI 41 35 = (1, (-2), 1, 0, 0) := by decide +kernel
theorem mi_41_37 : mI 41 37 = (27, 0, 0, 0, 0) := by decide +kernel
theorem mi_41_38 : mI 41 38 = (5, 0, 0, 0, 0) := by decide +kernel
theorem mi_41_39 : mI 41 39 = (17, 299, 24, 10, 2) := by decide +kernel
theorem mi_41_42 : mI 41 42 = (17, 112, 212, 2, 5) := by decide +kernel
theorem mi_41_45 : mI 41 45 = (1, 12, 1, 0, 0) := by decide +kernel
theorem mi_41_47 : mI 41 47 = (15, 6, 2, 53, 0) := by decide +kernel
theorem mi_41_50 : mI 41 50 = (1, (-3), 1, 0, 0) := by decide +kernel
theorem mi_41_52 : mI 41 52 = (27, 0, 0, 0, 0) := by decide +kernel
theorem mi_41_53 : mI 41 53 = (5, 0, 0, 0, 0) := by decide +kernel
theorem mi_41_54 : mI 41 54 = (17, 299, 24, 10, 2) := by decide +kernel
theorem mi_41_57 : mI 41 57 = (17, 112, 212, 2, 5) := by decide +kernel
theorem mi_41_60 : mI 41 60 = (6, 0, 5, 1, 0) := by decide +kernel
theorem mi_41_62 : mI 41 62 = (5, 0, 0, 0, 0) := by decide +kernel
theorem mi_41_63 : mI 41 63 = (17, 299, 24, 10, 2) := by decide +kernel
theorem mi_41_66 : mI 41 66 = (3, 0, 1, 0, 0) := by decide +kernel
theorem mi_41_67 : mI 41 67 = (3, 0, 2, 0, 0) := by decide +kernel
theorem mi_41_68 : mI 41 68 = (3, 0, 3, 0, 0) := by decide +kernel
theorem mi_41_69 : mI 41 69 = (3, 0, 4, 1, 0) := by decide +kernel
theorem mi_41_71 : mI 41 71 = (26, 870, 254, 112, 0) := by decide +kernel
theorem mi_41_74 : mI 41 74 = (5, 0, 0, 0, 0) := by decide +kernel
theorem mi_41_75 : mI 41 75 = (26, 528, 104, 73, 0) := by decide +kernel
theorem mi_41_78 : mI 41 78 = (3, 0, 5, 1, 0) := by decide +kernel
theorem mi_41_80 : mI 41 80 = (27, 0, 0, 0, 0) := by decide +kernel
theorem mi_42_0 : mI 42 0 = (5, 0, 0, 0, 0) := by decide +kernel
theorem mi_42_1 : mI 42 1 = (17, 299, 24, 10, 2) := by decide +kernel
theorem mi_42_4 : mI 42 4 = (26, 817, 237, 101, 0) := by decide +kernel
theorem mi_42_7 : mI 42 7 = (14, 6, 1, 13, 0) := by decide +kernel
theorem mi_42_10 : mI 42 10 = (1, (-2), 1, 0, 0) := by decide +kernel
theorem mi_42_12 : mI 42 12 = (27, 0, 0, 0, 0) := by decide +kernel
theorem mi_42_13 : mI 42 13 = (5, 0, 0, 0, 0) := by decide +kernel
theorem mi_42_14 : mI 42 14 = (17, 299, 24, 10, 2) := by decide +kernel
theorem mi_42_17 : mI 42 17 = (17, 112, 212, 2, 5) := by decide +kernel
theorem mi_42_20 : mI 42 20 = (14, 6, 4, 26, 0) := by decide +kernel
theorem mi_42_23 : mI 42 23 = (1, (-5), 1, 0, 0) := by decide +kernel
theorem mi_42_25 : mI 42 25 = (27, 0, 0, 0, 0) := by decide +kernel
theorem mi_42_26 : mI 42 26 = (5, 0, 0, 0, 0) := by decide +kernel
theorem mi_42_27 : mI 42 27 = (17, 299, 24, 10, 2) := by decide +kernel
theorem mi_42_30 : mI 42 30 = (22, 0, 0, 0, 0) := by decide +kernel
theorem mi_42_31 : mI 42 31 = (17, 112, 212, 2, 5) := by decide +kernel
theorem mi_42_34 : mI 42 34 = (1, 1, 0, 0, 0) := by decide +kernel
theorem mi_42_35 : mI 42 35 = (10, 0, 1, 0, 0) := by decide +kernel
theorem mi_42_36 : mI 42 36 = (18, 112, 212, 2, 5) := by decide +kernel
theorem mi_42_39 : mI 42 39 = (5, 0, 0, 0, 0) := by decide +kernel
theorem mi_42_40 : mI 42 40 = (26, 528, 104, 73, 0) := by decide +kernel
theorem mi_42_43 : mI 42 43 = (5, 0, 0, 0, 0) := by decide +kernel
theorem mi_42_44 : mI 42 44 = (17, 299, 24, 10, 2) := by decide +kernel
theorem mi_42_47 : mI 42 47 = (17, 112, 212, 2, 5) := by decide +kernel
theorem mi_42_50 : mI 42 50 = (27, 0, 0, 0, 0) := by decide +kernel
theorem mi_43_0 : mI 43 0 = (5, 0, 0, 0, 0) := by decide +kernel
theorem mi_43_1 : mI 43 1 = (17, 299, 24, 10, 2) := by decide +kernel
theorem mi_43_4 : mI 43 4 = (3, 0, 1, 0, 0) := by decide +kernel
theorem mi_43_5 : mI 43 5 = (26, 607, 113, 102, 0) := by decide +kernel
theorem mi_43_8 : mI 43 8 = (14, 29, 0, 37, 0) := by decide +kernel
theorem mi_43_11 : mI 43 11 = (5, 0, 0, 0, 0) := by decide +kernel
theorem mi_43_12 : mI 43 12 = (17, 299, 24, 10, 2) := by decide +kernel
theorem mi_43_15 : mI 43 15 = (3, 0, 3, 0, 0) := by decide +kernel
theorem mi_43_16 : mI 43 16 = (26, 630, 145, 103, 0) := by decide +kernel
theorem mi_43_19 : mI 43 19 = (14, 18, 0, 37, 0) := by decide +kernel
theorem mi_43_22 : mI 43 22 = (3, 0, 2, 0, 0) := by decide +kernel
theorem mi_43_23 : mI 43 23 = (14, 14, 2, 37, 0) := by decide +kernel
theorem mi_43_26 : mI 43 26 = (3, 0, 2, 0, 0) := by decide +kernel
theorem mi_43_27 : mI 43 27 = (5, 0, 0, 0, 0) := by decide +kernel
theorem mi_43_28 : mI 43 28 = (17, 299, 24, 10, 2) := by decide +kernel
theorem mi_43_31 : mI 43 31 = (17, 93, 258, 2, 2) := by decide +kernel
theorem mi_43_34 : mI 43 34 = (15, 6, 2, 40, 0) := by decide +kernel
theorem mi_43_37 : mI 43 37 = (1, (-2), 1, 0, 0) := by decide +kernel
theorem mi_43_39 : mI 43 39 = (27, 0, 0, 0, 0) := by decide +kernel
theorem mi_43_40 : mI 43 40 = (5, 0, 0, 0, 0) := by decide +kernel
theorem mi_43_41 : mI 43 41 = (17, 299, 24, 10, 2) := by decide +kernel
theorem mi_43_44 : mI 43 44 = (3, 0, 1, 0, 0) := by decide +kernel
theorem mi_43_45 : mI 43 45 = (3, 0, 3, 0, 0) := by decide +kernel
theorem mi_43_46 : mI 43 46 = (26, 631, 148, 110, 0) := by decide +kernel
theorem mi_43_49 : mI 43 49 = (6, 0, 4, 1, 0) := by decide +kernel
theorem mi_43_51 : mI 43 51 = (5, 0, 0, 0, 0) := by decide +kernel
theorem mi_43_52 : mI 43 52 = (17, 299, 24, 10, 2) := by decide +kernel
theorem mi_43_55 : mI 43 55 = (17, 130, 261, 2, 11) := by decide +kernel
theorem mi_43_58 : mI 43 58 = (3, 0, 1, 0, 0) := by decide +kernel
theorem mi_43_59 : mI 43 59 = (1, 24, 1, 0, 0) := by decide +kernel
theorem mi_43_61 : mI 43 61 = (10, 0, 2, 0, 0) := by decide +kernel
theorem mi_43_62 : mI 43 62 = (3, 0, 3, 0, 0) := by decide +kernel
theorem mi_43_63 : mI 43 63 = (10, 0, 0, 0, 0) := by decide +kernel
theorem mi_43_64 : mI 43 64 = (3, 0, 2, 0, 0) := by decide +kernel
theorem mi_43_65 : mI 43 65 = (26, 879, 264, 148, 1) := by decide +kernel
theorem mi_43_68 : mI 43 68 = (5, 0, 0, 0, 0) := by decide +kernel
theorem mi_43_69 : mI 43 69 = (26, 528, 104, 73, 0) := by decide +kernel
theorem mi_43_72 : mI 43 72 = (3, 0, 4, 1, 0) := by decide +kernel
theorem mi_43_74 : mI 43 74 = (27, 0, 0, 0, 0) := by decide +kernel
theorem mi_44_0 : mI 44 0 = (5, 0, 0, 0, 0) := by decide +kernel
theorem mi_44_1 : mI 44 1 = (3, 0, 1, 0, 0) := by decide +kernel
theorem mi_44_2 : mI 44 2 = (3, 0, 2, 0, 0) := by decide +kernel
theorem mi_44_3 : mI 44 3 = (26, 668, 179, 74, 0) := by decide +kernel
theorem mi_44_6 : mI 44 6 = (14, 26, 0, 32, 0) := by decide +kernel
theorem mi_44_9 : mI 44 9 = (5, 0, 0, 0, 0) := by decide +kernel
theorem mi_44_10 : mI 44 10 = (17, 299, 24, 10, 2) := by decide +kernel
theorem mi_44_13 : mI 44 13 = (3, 0, 2, 0, 0) := by decide +kernel
theorem mi_44_14 : mI 44 14 = (3, 0, 3, 0, 0) := by decide +kernel
theorem mi_44_15 : mI 44 15 = (26, 608, 117, 105, 0) := by decide +kernel
theorem mi_44_18 : mI 44 18 = (14, 14, 0, 32, 0) := by decide +kernel
theorem mi_44_21 : mI 44 21 = (3, 0, 4, 1, 0) := by decide +kernel
theorem mi_44_23 : mI 44 23 = (14, 9, 2, 32, 0) := by decide +kernel
theorem mi_44_26 : mI 44 26 = (3, 0, 4, 1, 0) := by decide +kernel
theorem mi_44_28 : mI 44 28 = (1, 1, 0, 0, 0) := by decide +kernel
theorem mi_44_29 : mI 44 29 = (15, 6, 5, 35, 0) := by decide +kernel
theorem mi_44_32 : mI 44 32 = (1, (-2), 1, 0, 0) := by decide +kernel
theorem mi_44_34 : mI 44 34 = (27, 0, 0, 0, 0) := by decide +kernel
theorem mi_44_35 : mI 44 35 = (3, 0, 1, 0, 0) := by decide +kernel
theorem mi_44_36 : mI 44 36 = (1, 6, 1, 0, 0) := by decide +kernel
theorem mi_44_38 : mI 44 38 = (10, 0, 2, 0, 0) := by decide +kernel
theorem mi_44_39 : mI 44 39 = (3, 0, 2, 0, 0) := by decide +kernel
theorem mi_44_40 : mI 44 40 = (10, 0, 0, 0, 0) := by decide +kernel
theorem mi_44_41 : mI 44 41 = (6, 0, 5, 1, 0) := by decide +kernel
theorem mi_44_43 : mI 44 43 = (5, 0, 0, 0, 0) := by decide +kernel
theorem mi_44_44 : mI 44 44 = (17, 299, 24, 10, 2) := by decide +kernel
theorem mi_44_47 : mI 44 47 = (17, 134, 268, 2, 12) := by decide +kernel
theorem mi_44_50 : mI 44 50 = (3, 0, 5, 1, 0) := by decide +kernel
theorem mi_44_52 : mI 44 52 = (26, 625, 133, 147, 1) := by decide +kernel
theorem mi_44_55 : mI 44 55 = (6, 0, 6, 1, 0) := by decide +kernel
theorem mi_44_57 : mI 44 57 = (5, 0, 0, 0, 0) := by decide +kernel
theorem mi_44_58 : mI 44 58 = (17, 299, 24, 10, 2) := by decide +kernel
theorem mi_44_61 : mI 44 61 = (17, 134, 268, 2, 12) := by decide +kernel
theorem mi_44_64 : mI 44 64 = (3, 0, 5, 1, 0) := by decide +kernel
theorem mi_44_66 : mI 44 66 = (3, 0, 4, 1, 0) := by decide +kernel
theorem mi_44_68 : mI 44 68 = (1, 1, 0, 0, 0) := by decide +kernel
theorem mi_44_69 : mI 44 69 = (15, 12, 1, 81, 0) := by decide +kernel
theorem mi_44_72 : mI 44 72 = (3, 0, 6, 1, 0) := by decide +kernel
theorem mi_44_74 : mI 44 74 = (1, 1, 0, 0, 0) := by decide +kernel
theorem mi_44_75 : mI 44 75 = (3, 0, 3, 0, 0) := by decide +kernel
theorem mi_44_76 : mI 44 76 = (10, 0, 8, 0, 0) := by decide +kernel
theorem mi_44_77 : mI 44 77 = (10, 0, 6, 0, 0) := by decide +kernel
theorem mi_44_78 : mI 44 78 = (16, 11, 0, 89, 0) := by decide +kernel
theorem mi_44_81 : mI 44 81 = (3, 0, 6, 1, 0) := by decide +kernel
theorem mi_44_83 : mI 44 83 = (1, 1, 0, 0, 0) := by decide +kernel
theorem mi_44_84 : mI 44 84 = (3, 0, 3, 0, 0) := by decide +kernel
theorem mi_44_85 : mI 44 85 = (10, 0, 8, 0, 0) := by decide +kernel
theorem mi_44_86 : mI 44 86 = (1, (-1), 0, 0, 0) := by decide +kernel
theorem mi_44_87 : mI 44 87 = (10, 0, 7, 0, 0) := by decide +kernel
theorem mi_44_88 : mI 44 88 = (10, 0, 5, 0, 0) := by decide +kernel
theorem mi_44_89 : mI 44 89 = (26, 879, 264, 148, 1) := by decide +kernel
theorem mi_44_92 : mI 44 92 = (5, 0, 0, 0, 0) := by decide +kernel
theorem mi_44_93 : mI 44 93 = (26, 528, 104, 73, 0) := by decide +kernel
theorem mi_44_96 : mI 44 96 = (3, 0, 6, 1, 0) := by decide +kernel
theorem mi_44_98 : mI 44 98 = (3, 0, 3, 0, 0) := by decide +kernel
theorem mi_44_99 : mI 44 99 = (10, 0, 9, 0, 0) := by decide +kernel
theorem mi_44_100 : mI 44 100 = (1, 1, 0, 0, 0) := by decide +kernel
theorem mi_44_101 : mI 44 101 = (10, 0, 5, 0, 0) := by decide +kernel
theorem mi_44_102 : mI 44 102 = (27, 0, 0, 0, 0) := by decide +kernel
theorem mi_69_0 : mI 69 0 = (3, 0, 1, 0, 0) := by decide +kernel
theorem mi_69_1 : mI 69 1 = (14, 21, 2, 22, 0) := by decide +kernel
theorem mi_69_4 : mI 69 4 = (3, 0, 1, 0, 0) := by decide +kernel
theorem mi_69_5 : mI 69 5 = (5, 0, 0, 0, 0) := by decide +kernel
theorem mi_69_6 : mI 69 6 = (17, 308, 80, 10, 11) := by decide +kernel
theorem mi_69_9 : mI 69 9 = (21, 0, 0, 0, 0) := by decide +kernel
theorem mi_69_10 : mI 69 10 = (15, 12, 3, 22, 0) := by decide +kernel
theorem mi_69_13 : mI 69 13 = (5, 0, 0, 0, 0) := by decide +kernel
theorem mi_69_14 : mI 69 14 = (17, 308, 80, 10, 11) := by decide +kernel
theorem mi_69_17 : mI 69 17 = (3, 0, 1, 0, 0) := by decide +kernel
theorem mi_69_18 : mI 69 18 = (19, 0, 3, 0, 0) := by decide +kernel
theorem mi_69_19 : mI 69 19 = (16, 4, 0, 23, 0) := by decide +kernel
theorem mi_69_22 : mI 69 22 = (31, 0, 0, 0, 0) := by decide +kernel
theorem mi_69_23 : mI 69 23 = (27, 0, 3, 0, 0) := by decide +kernel
theorem mi_74_0 : mI 74 0 = (5, 0, 0, 0, 0) := by decide +kernel
theorem mi_74_1 : mI 74 1 = (17, 299, 24, 10, 2) := by decide +kernel
theorem mi_74_4 : mI 74 4 = (3, 0, 1, 0, 0) := by decide +kernel
theorem mi_74_5 : mI 74 5 = (26, 607, 113, 102, 0) := by decide +kernel
theorem mi_74_8 : mI 74 8 = (14, 23, 0, 31, 0) := by decide +kernel
theorem mi_74_11 : mI 74 11 = (5, 0, 0, 0, 0) := by decide +kernel
theorem mi_74_12 : mI 74 12 = (17, 299, 24, 10, 2) := by decide +kernel
theorem mi_74_15 : mI 74 15 = (3, 0, 2, 0, 0) := by decide +kernel
theorem mi_74_16 : mI 74 16 = (26, 607, 113, 102, 0) := by decide +kernel
theorem mi_74_19 : mI 74 19 = (14, 12, 0, 31, 0) := by decide +kernel
theorem mi_74_22 : mI 74 22 = (3, 0, 1, 0, 0) := by decide +kernel
theorem mi_74_23 : mI 74 23 = (3, 0, 2, 0, 0) := by decide +kernel
theorem mi_74_24 : mI 74 24 = (15, 7, 0, 31, 0) := by decide +kernel
theorem mi_74_27 : mI 74 27 = (1, 1, 0, 0, 0) := by decide +kernel
theorem mi_74_28 : mI 74 28 = (16, 4, 0, 32, 0) := by decide +kernel
theorem mi_74_31 : mI 74 31 = (1, 0, 0, 0, 0) := by decide +kernel
theorem mi_74_32 : mI 74 32 = (27, 0, 0, 0, 0) := by decide +kernel
theorem mi_99_0 : mI 99 0 = (5, 0, 0, 0, 0) := by decide +kernel
theorem mi_99_1 : mI 99 1 = (1, 0, 0, 0, 0) := by decide +kernel
theorem mi_99_2 : mI 99 2 = (18, 83, 45, 2, 0) := by decide +kernel
theorem mi_99_5 : mI 99 5 = (5, 0, 0, 0, 0) := by decide +kernel
theorem mi_99_6 : mI 99 6 = (1, 0, 0, 0, 0) := by decide +kernel
theorem mi_99_7 : mI 99 7 = (18, 87, 49, 2, 1) := by decide +kernel
theorem mi_99_10 : mI 99 10 = (5, 0, 0, 0, 0) := by decide +kernel
theorem mi_99_11 : mI 99 11 = (1, 0, 0, 0, 0) := by decide +kernel
theorem mi_99_12 : mI 99 12 = (18, 91, 52, 2, 2) := by decide +kernel
theorem mi_99_15 : mI 99 15 = (5, 0, 0, 0, 0) := by decide +kernel
theorem mi_99_16 : mI 99 16 = (1, 0, 0, 0, 0) := by decide +kernel
theorem mi_99_17 : mI 99 17 = (18, 95, 55, 2, 3) := by decide +kernel
theorem mi_99_20 : mI 99 20 = (5, 0, 0, 0, 0) := by decide +kernel
theorem mi_99_21 : mI 99 21 = (1, 0, 0, 0, 0) := by decide +kernel
theorem mi_99_22 : mI 99 22 = (18, 103, 58, 2, 4) := by decide +kernel
theorem mi_99_25 : mI 99 25 = (5, 0, 0, 0, 0) := by decide +kernel
theorem mi_99_26 : mI 99 26 = (1, 0, 0, 0, 0) := by decide +kernel
theorem mi_99_27 : mI 99 27 = (18, 109, 61, 2, 5) := by decide +kernel
theorem mi_99_30 : mI 99 30 = (5, 0, 0, 0, 0) := by decide +kernel
theorem mi_99_31 : mI 99 31 = (17, 113, 9, 2, 6) := by decide +kernel
theorem mi_99_34 : mI 99 34 = (1, 0, 0, 0, 0) := by decide +kernel
theorem mi_99_35 : mI 99 35 = (26, 361, 64, 149, 1) := by decide +kernel
theorem mi_99_38 : mI 99 38 = (5, 0, 0, 0, 0) := by decide +kernel
theorem mi_99_39 : mI 99 39 = (17, 115, 15, 2, 7) := by decide +kernel
theorem mi_99_42 : mI 99 42 = (1, 0, 0, 0, 0) := by decide +kernel
theorem mi_99_43 : mI 99 43 = (26, 361, 64, 149, 1) := by decide +kernel
theorem mi_99_46 : mI 99 46 = (5, 0, 0, 0, 0) := by decide +kernel
theorem mi_99_47 : mI 99 47 = (17, 117, 18, 2, 8) := by decide +kernel
theorem mi_99_50 : mI 99 50 = (1, 0, 0, 0, 0) := by decide +kernel
theorem mi_99_51 : mI 99 51 = (26, 361, 64, 149, 1) := by decide +kernel
theorem mi_99_54 : mI 99 54 = (5, 0, 0, 0, 0) := by decide +kernel
theorem mi_99_55 : mI 99 55 = (17, 120, 21, 2, 9) := by decide +kernel
theorem mi_99_58 : mI 99 58 = (1, 0, 0, 0, 0) := by decide +kernel
theorem mi_99_59 : mI 99 59 = (26, 361, 64, 149, 1) := by decide +kernel
theorem mi_99_62 : mI 99 62 = (5, 0, 0, 0, 0) := by decide +kernel
theorem mi_99_63 : mI 99 63 = (17, 124, 24, 2, 10) := by decide +kernel
theorem mi_99_66 : mI 99 66 = (1, 0, 0, 0, 0) := by decide +kernel
theorem mi_99_67 : mI 99 67 = (26, 361, 64, 149, 1) := by decide +kernel
theorem mi_99_70 : mI 99 70 = (5, 0, 0, 0, 0) := by decide +kernel
theorem mi_99_71 : mI 99 71 = (17, 128, 27, 2, 11) := by decide +kernel
theorem mi_99_74 : mI 99 74 = (1, (-1), 0, 0, 0) := by decide +kernel
theorem mi_99_75 : mI 99 75 = (26, 361, 64, 149, 1) := by decide +kernel
theorem mi_99_78 : mI 99 78 = (5, 0, 0, 0, 0) := by decide +kernel
theorem mi_99_79 : mI 99 79 = (17, 131, 30, 2, 12) := by decide +kernel
theorem mi_99_82 : mI 99 82 = (1, 0, 0, 0, 0) := by decide +kernel
theorem mi_99_83 : mI 99 83 = (26, 361, 64, 149, 1) := by decide +kernel
theorem mi_99_86 : mI 99 86 = (5, 0, 0, 0, 0) := by decide +kernel
theorem mi_99_87 : mI 99 87 = (17, 135, 33, 2, 13) := by decide +kernel
theorem mi_99_90 : mI 99 90 = (1, 0, 0, 0, 0) := by decide +kernel
theorem mi_99_91 : mI 99 91 = (26, 361, 64, 149, 1) := by decide +kernel
theorem mi_99_94 : mI 99 94 = (5, 0, 0, 0, 0) := by decide +kernel
theorem mi_99_95 : mI 99 95 = (17, 138, 36, 2, 14) := by decide +kernel
theorem mi_99_98 : mI 99 98 = (1, 0, 0, 0, 0) := by decide +kernel
theorem mi_99_99 : mI 99 99 = (26, 361, 64, 149, 1) := by decide +kernel
theorem mi_99_102 : mI 99 102 = (5, 0, 0, 0, 0) := by decide +kernel
theorem mi_99_103 : mI 99 103 = (17, 141, 39, 2, 15) := by decide +kernel
theorem mi_99_106 : mI 99 106 = (1, 0, 0, 0, 0) := by decide +kernel
theorem mi_99_107 : mI 99 107 = (26, 361, 64, 149, 1) := by decide +kernel
theorem mi_99_110 : mI 99 110 = (5, 0, 0, 0, 0) := by decide +kernel
theorem mi_99_111 : mI 99 111 = (17, 144, 42, 2, 16) := by decide +kernel
theorem mi_99_114 : mI 99 114 = (1, 0, 0, 0, 0) := by decide +kernel
theorem mi_99_115 : mI 99 115 = (26, 361, 64, 149, 1) := by decide +kernel
theorem mi_99_118 : mI 99 118 = (27, 0, 2, 0, 0) := by decide +kernel
theorem mi_100_0 : mI 100 0 = (5, 0, 0, 0, 0) := by decide +kernel
theorem mi_100_1 : mI 100 1 = (5, 0, 1, 0, 0) := by decide +kernel
theorem mi_100_2 : mI 100 2 = (17, 83, 45, 2, 0) := by decide +kernel
theorem mi_100_5 : mI 100 5 = (18, 83, 45, 2, 0) := by decide +kernel
theorem mi_100_8 : mI 100 8 = (5, 0, 0, 0, 0) := by decide +kernel
theorem mi_100_9 : mI 100 9 = (5, 0, 1, 0, 0) := by decide +kernel
theorem mi_100_10 : mI 100 10 = (17, 87, 49, 2, 1) := by decide +kernel
theorem mi_100_13 : mI 100 13 = (18, 87, 49, 2, 1) := by decide +kernel
theorem mi_100_16 : mI 100 16 = (5, 0, 0, 0, 0) := by decide +kernel
theorem mi_100_17 : mI 100 17 = (5, 0, 1, 0, 0) := by decide +kernel
theorem mi_100_18 : mI 100 18 = (17, 91, 52, 2, 2) := by decide +kernel
theorem mi_100_21 : mI 100 21 = (18, 91, 52, 2, 2) := by decide +kernel
theorem mi_100_24 : mI 100 24 = (5, 0, 0, 0, 0) := by decide +kernel
theorem mi_100_25 : mI 100 25 = (5, 0, 1, 0, 0) := by decide +kernel
theorem mi_100_26 : mI 100 26 = (17, 95, 55, 2, 3) := by decide +kernel
theorem mi_100_29 : mI 100 29 = (18, 95, 55, 2, 3) := by decide +kernel
theorem mi_100_32 : mI 100 32 = (5, 0, 0, 0, 0) := by decide +kernel
theorem mi_100_33 : mI 100 33 = (5, 0, 1, 0, 0) := by decide +kernel
theorem mi_100_34 : mI 100 34 = (17, 103, 58, 2, 4) := by decide +kernel
theorem mi_100_37 : mI 100 37 = (18, 103, 58, 2, 4) := by decide +kernel
theorem mi_100_40 : mI 100 40 = (5, 0, 0, 0, 0) := by decide +kernel
theorem mi_100_41 : mI 100 41 = (5, 0, 1, 0, 0) := by decide +kernel
theorem mi_100_42 : mI 100 42 = (17, 109, 61, 2, 5) := by decide +kernel
theorem mi_100_45 : mI 100 45 = (18, 109, 61, 2, 5) := by decide +kernel
theorem mi_100_48 : mI 100 48 = (5, 0, 1, 0, 0) := by decide +kernel
theorem mi_100_49 : mI 100 49 = (17, 113, 9, 2, 6) := by decide +kernel
theorem mi_100_52 : mI 100 52 = (5, 0, 0, 0, 0) := by decide +kernel
theorem mi_100_53 : mI 100 53 = (17, 113, 9, 2, 6) := by decide +kernel
theorem mi_100_56 : mI 100 56 = (26, 525, 70, 150, 1) := by decide +kernel
theorem mi_100_59 : mI 100 59 = (5, 0, 1, 0, 0) := by decide +kernel
theorem mi_100_60 : mI 100 60 = (17, 115, 15, 2, 7) := by decide +kernel
theorem mi_100_63 : mI 100 63 = (5, 0, 0, 0, 0) := by decide +kernel
theorem mi_100_64 : mI 100 64 = (17, 115, 15, 2, 7) := by decide +kernel
theorem mi_100_67 : mI 100 67 = (26, 525, 70, 150, 1) := by decide +kernel
theorem mi_100_70 : mI 100 70 = (5, 0, 1, 0, 0) := by decide +kernel
theorem mi_100_71 : mI 100 71 = (17, 117, 18, 2, 8) := by decide +kernel
theorem mi_100_74 : mI 100 74 = (5, 0, 0, 0, 0) := by decide +kernel
theorem mi_100_75 : mI 100 75 = (17, 117, 18, 2, 8) := by decide +kernel
theorem mi_100_78 : mI 100 78 = (26, 525, 70, 150, 1) := by decide +kernel
theorem mi_100_81 : mI 100 81 = (5, 0, 1, 0, 0) := by decide +kernel
theorem mi_100_82 : mI 100 82 = (17, 120, 21, 2, 9) := by decide +kernel
theorem mi_100_85 : mI 100 85 = (5, 0, 0, 0, 0) := by decide +kernel
theorem mi_100_86 : mI 100 86 = (17, 120, 21, 2, 9) := by decide +kernel
theorem mi_100_89 : mI 100 89 = (26, 525, 70, 150, 1) := by decide +kernel
theorem mi_100_92 : mI 100 92 = (5, 0, 1, 0, 0) := by decide +kernel
theorem mi_100_93 : mI 100 93 = (17, 124, 24, 2, 10) := by decide +kernel
theorem mi_100_96 : mI 100 96 = (5, 0, 0, 0, 0) := by decide +kernel
theorem mi_100_97 : mI 100 97 = (17, 124, 24, 2, 10) := by decide +kernel
theorem mi_100_100 : mI 100 100 = (26, 525, 70, 150, 1) := by decide +kernel
theorem mi_100_103 : mI 100 103 = (5, 0, 1, 0, 0) := by decide +kernel
theorem mi_100_104 : mI 100 104 = (17, 128, 27, 2, 11) := by decide +kernel
theorem mi_100_107 : mI 100 107 = (5, 0, 0, 0, 0) := by decide +kernel
theorem mi_100_108 : mI 100 108 = (17, 128, 27, 2, 11) := by decide +kernel
theorem mi_100_111 : mI 100 111 = (26, 525, 70, 150, 1) := by decide +kernel
theorem mi_100_114 : mI 100 114 = (5, 0, 1, 0, 0) := by decide +kernel
theorem mi_100_115 : mI 100 115 = (17, 131, 30, 2, 12) := by decide +kernel
theorem mi_100_118 : mI 100 118 = (5, 0, 0, 0, 0) := by decide +kernel
theorem mi_100_119 : mI 100 119 = (17, 131, 30, 2, 12) := by decide +kernel
theorem mi_100_122 : mI 100 122 = (26, 525, 70, 150, 1) := by decide +kernel
theorem mi_100_125 : mI 100 125 = (5, 0, 1, 0, 0) := by decide +kernel
theorem mi_100_126 : mI 100 126 = (17, 135, 33, 2, 13) := by decide +kernel
theorem mi_100_129 : mI 100 129 = (5, 0, 0, 0, 0) := by decide +kernel
theorem mi_100_130 : mI 100 130 = (17, 135, 33, 2, 13) := by decide +kernel
theorem mi_100_133 : mI 100 133 = (26, 525, 70, 150, 1) := by decide +kernel
theorem mi_100_136 : mI 100 136 = (5, 0, 1, 0, 0) := by decide +kernel
theorem mi_100_137 : mI 100 137 = (17, 138, 36, 2, 14) := by decide +kernel
theorem mi_100_140 : mI 100 140 = (5, 0, 0, 0, 0) := by decide +kernel
theorem mi_100_141 : mI 100 141 = (17, 138, 36, 2, 14) := by decide +kernel
theorem mi_100_144 : mI 100 144 = (26, 525, 70, 150, 1) := by decide +kernel
theorem mi_100_147 : mI 100 147 = (5, 0, 1, 0, 0) := by decide +kernel
theorem mi_100_148 : mI 100 148 = (17, 141, 39, 2, 15) := by decide +kernel
theorem mi_100_151 : mI 100 151 = (5, 0, 0, 0, 0) := by decide +kernel
theorem mi_100_152 : mI 100 152 = (17, 141, 39, 2, 15) := by decide +kernel
theorem mi_100_155 : mI 100 155 = (26, 525, 70, 150, 1) := by decide +kernel
theorem mi_100_158 : mI 100 158 = (5, 0, 1, 0, 0) := by decide +kernel
theorem mi_100_159 : mI 100 159 = (17, 144, 42, 2, 16) := by decide +kernel
theorem mi_100_162 : mI 100 162 = (5, 0, 0, 0, 0) := by decide +kernel
theorem mi_100_163 : mI 100 163 = (17, 144, 42, 2, 16) := by decide +kernel
theorem mi_100_166 : mI 100 166 = (26, 525, 70, 150, 1) := by decide +kernel
theorem mi_100_169 : mI 100 169 = (27, 0, 2, 0, 0) := by decide +kernel
theorem mi_101_0 : mI 101 0 = (5, 0, 0, 0, 0) := by decide +kernel
theorem mi_101_1 : mI 101 1 = (17, 83, 45, 2, 0) := by decide +kernel
theorem mi_101_4 : mI 101 4 = (14, 7, 5, 11, 0) := by decide +kernel
theorem mi_101_7 : mI 101 7 = (1, 1, 0, 0, 0) := by decide +kernel
theorem mi_101_8 : mI 101 8 = (16, 4, 0, 12, 0) := by decide +kernel
theorem mi_101_11 : mI 101 11 = (1, 0, 0, 0, 0) := by decide +kernel
theorem mi_101_12 : mI 101 12 = (27, 0, 0, 0, 0) := by decide +kernel
theorem mi_102_0 : mI 102 0 = (3, 0, 1, 0, 0) := by decide +kernel
theorem mi_102_1 : mI 102 1 = (14, 15, 2, 16, 0) := by decide +kernel
theorem mi_102_4 : mI 102 4 = (3, 0, 1, 0, 0) := by decide +kernel
theorem mi_102_5 : mI 102 5 = (5, 0, 0, 0, 0) := by decide +kernel
theorem mi_102_6 : mI 102 6 = (17, 103, 58, 2, 4) := by decide +kernel
theorem mi_102_9 : mI 102 9 = (15, 7, 3, 16, 0) := by decide +kernel
theorem mi_102_12 : mI 102 12 = (1, 1, 0, 0, 0) := by decide +kernel
theorem mi_102_13 : mI 102 13 = (16, 4, 0, 17, 0) := by decide +kernel
theorem mi_102_16 : mI 102 16 = (1, 0, 0, 0, 0) := by decide +kernel
theorem mi_102_17 : mI 102 17 = (27, 0, 0, 0, 0) := by decide +kernel
theorem mi_103_0 : mI 103 0 = (3, 0, 1, 0, 0) := by decide +kernel
theorem mi_103_1 : mI 103 1 = (14, 15, 2, 16, 0) := by decide +kernel
theorem mi_103_4 : mI 103 4 = (3, 0, 1, 0, 0) := by decide +kernel
theorem mi_103_5 : mI 103 5 = (5, 0, 0, 0, 0) := by decide +kernel
theorem mi_103_6 : mI 103 6 = (17, 95, 55, 2, 3) := by decide +kernel
theorem mi_103_9 : mI 103 9 = (15, 7, 3, 16, 0) := by decide +kernel
theorem mi_103_12 : mI 103 12 = (1, 1, 0, 0, 0) := by decide +kernel
theorem mi_103_13 : mI 103 13 = (16, 4, 0, 17, 0) := by decide +kernel
theorem mi_103_16 : mI 103 16 = (1, 0, 0, 0, 0) := by decide +kernel
theorem mi_103_17 : mI 103 17 = (27, 0, 0, 0, 0) := by decide +kernel
theorem mi_104_0 : mI 104 0 = (3, 0, 1, 0, 0) := by decide +kernel
theorem mi_104_1 : mI 104 1 = (14, 15, 2, 16, 0) := by decide +kernel
theorem mi_104_4 : mI 104 4 = (3, 0, 1, 0, 0) := by decide +kernel
theorem mi_104_5 : mI 104 5 = (5, 0, 0, 0, 0) := by decide +kernel
theorem mi_104_6 : mI 104 6 = (17, 109, 61, 2, 5) := by decide +kernel
theorem mi_104_9 : mI 104 9 = (15, 7, 3, 16, 0) := by decide +kernel
theorem mi_104_12 : mI 104 12 = (1, 1, 0, 0, 0) := by decide +kernel
theorem mi_104_13 : mI 104 13 = (16, 4, 0, 17, 0) := by decide +kernel
theorem mi_104_16 : mI 104 16 = (1, 0, 0, 0, 0) := by decide +kernel
theorem mi_104_17 : mI 104 17 = (27, 0, 0, 0, 0) := by decide +kernel
theorem mi_105_0 : mI 105 0 = (5, 0, 0, 0, 0) := by decide +kernel
theorem mi_105_1 : mI 105 1 = (3, 0, 1, 0, 0) := by decide +kernel
theorem mi_105_2 : mI 105 2 = (26, 545, 74, 102, 0) := by decide +kernel
theorem mi_105_5 : mI 105 5 = (14, 20, 0, 25, 0) := by decide +kernel
theorem mi_105_8 : mI 105 8 = (3, 0, 2, 0, 0) := by decide +kernel
theorem mi_105_9 : mI 105 9 = (14, 16, 2, 25, 0) := by decide +kernel
theorem mi_105_12 : mI 105 12 = (3, 0, 2, 0, 0) := by decide +kernel
theorem mi_105_13 : mI 105 13 = (5, 0, 0, 0, 0) := by decide +kernel
theorem mi_105_14 : mI 105 14 = (3, 0, 1, 0, 0) := by decide +kernel
theorem mi_105_15 : mI 105 15 = (26, 567, 78, 106, 0) := by decide +kernel
theorem mi_105_18 : mI 105 18 = (15, 7, 3, 25, 0) := by decide +kernel
theorem mi_105_21 : mI 105 21 = (1, 1, 0, 0, 0) := by decide +kernel
theorem mi_105_22 : mI 105 22 = (16, 4, 0, 26, 0) := by decide +kernel
theorem mi_105_25 : mI 105 25 = (1, 0, 0, 0, 0) := by decide +kernel
theorem mi_105_26 : mI 105 26 = (27, 0, 0, 0, 0) := by decide +kernel
theorem mi_106_0 : mI 106 0 = (3, 0, 1, 0, 0) := by decide +kernel
theorem mi_106_1 : mI 106 1 = (14, 21, 2, 22, 0) := by decide +kernel
theorem mi_106_4 : mI 106 4 = (3, 0, 1, 0, 0) := by decide +kernel
theorem mi_106_5 : mI 106 5 = (5, 0, 0, 0, 0) := by decide +kernel
theorem mi_106_6 : mI 106 6 = (17, 113, 9, 2, 6) := by decide +kernel
theorem mi_106_9 : mI 106 9 = (21, 0, 0, 0, 0) := by decide +kernel
theorem mi_106_10 : mI 106 10 = (15, 12, 3, 22, 0) := by decide +kernel
theorem mi_106_13 : mI 106 13 = (5, 0, 0, 0, 0) := by decide +kernel
theorem mi_106_14 : mI 106 14 = (17, 113, 9, 2, 6) := by decide +kernel
theorem mi_106_17 : mI 106 17 = (3, 0, 1, 0, 0) := by decide +kernel
theorem mi_106_18 : mI 106 18 = (19, 0, 0, 0, 0) := by decide +kernel
theorem mi_106_19 : mI 106 19 = (16, 4, 0, 23, 0) := by decide +kernel
theorem mi_106_22 : mI 106 22 = (1, 0, 0, 0, 0) := by decide +kernel
theorem mi_106_23 : mI 106 23 = (27, 0, 0, 0, 0) := by decide +kernel
theorem mi_107_0 : mI 107 0 = (3, 0, 2, 0, 0) := by decide +kernel
theorem mi_107_1 : mI 107 1 = (14, 28, 2, 29, 0) := by decide +kernel
theorem mi_107_4 : mI 107 4 = (3, 0, 2, 0, 0) := by decide +kernel
theorem mi_107_5 : mI 107 5 = (5, 0, 0, 0, 0) := by decide +kernel
theorem mi_107_6 : mI 107 6 = (3, 0, 1, 0, 0) := by decide +kernel
theorem mi_107_7 : mI 107 7 = (26, 567, 78, 106, 0) := by decide +kernel
theorem mi_107_10 : mI 107 10 = (15, 19, 3, 29, 0) := by decide +kernel
theorem mi_107_13 : mI 107 13 = (5, 0, 0, 0, 0) := by decide +kernel
theorem mi_107_14 : mI 107 14 = (17, 115, 15, 2, 7) := by decide +kernel
theorem mi_107_17 : mI 107 17 = (3, 0, 1, 0, 0) := by decide +kernel
theorem mi_107_18 : mI 107 18 = (1, 6, 1, 0, 0) := by decide +kernel
theorem mi_107_20 : mI 107 20 = (10, 0, 2, 0, 0) := by decide +kernel
theorem mi_107_21 : mI 107 21 = (3, 0, 2, 0, 0) := by decide +kernel
theorem mi_107_22 : mI 107 22 = (10, 0, 0, 0, 0) := by decide +kernel
theorem mi_107_23 : mI 107 23 = (26, 520, 82, 147, 1) := by decide +kernel
theorem mi_107_26 : mI 107 26 = (16, 4, 0, 30, 0) := by decide +kernel
theorem mi_107_30 : mI 107 30 = (27, 0, 0, 0, 0) := by decide +kernel
theorem mi_110_0 : mI 110 0 = (5, 0, 0, 0, 0) := by decide +kernel
theorem mi_110_1 : mI 110 1 = (3, 0, 1, 0, 0) := by decide +kernel
theorem mi_110_2 : mI 110 2 = (26, 545, 74, 102, 0) := by decide +kernel
theorem mi_110_5 : mI 110 5 = (14, 27, 0, 32, 0) := by decide +kernel
theorem mi_110_8 : mI 110 8 = (5, 0, 0, 0, 0) := by decide +kernel
theorem mi_110_9 : mI 110 9 = (3, 0, 2, 0, 0) := by decide +kernel
theorem mi_110_10 : mI 110 10 = (26, 549, 86, 103, 0) := by decide +kernel
theorem mi_110_13 : mI 110 13 = (14, 19, 0, 32, 0) := by decide +kernel
theorem mi_110_16 : mI 110 16 = (5, 0, 0, 0, 0) := by decide +kernel
theorem mi_110_17 : mI 110 17 = (17, 128, 27, 2, 11) := by decide +kernel
theorem mi_110_20 : mI 110 20 = (3, 0, 1, 0, 0) := by decide +kernel
theorem mi_110_21 : mI 110 21 = (1, 24, 1, 0, 0) := by decide +kernel
theorem mi_110_23 : mI 110 23 = (10, 0, 2, 0, 0) := by decide +kernel
theorem mi_110_24 : mI 110 24 = (3, 0, 2, 0, 0) := by decide +kernel
theorem mi_110_25 : mI 110 25 = (10, 0, 0, 0, 0) := by decide +kernel
theorem mi_110_26 : mI 110 26 = (26, 520, 82, 147, 1) := by decide +kernel
theorem mi_110_29 : mI 110 29 = (16, 4, 0, 33, 0) := by decide +kernel
theorem mi_110_33 : mI 110 33 = (27, 0, 0, 0, 0) := by decide +kernel
theorem mi_111_0 : mI 111 0 = (1, 0, 0, 0, 0) := by decide +kernel
theorem mi_111_1 : mI 111 1 = (6, 0, 1, 0, 0) := by decide +kernel
theorem mi_111_2 : mI 111 2 = (3, 0, 1, 0, 0) := by decide +kernel
theorem mi_111_3 : mI 111 3 = (1, 6, 1, 0, 0) := by decide +kernel
theorem mi_111_5 : mI 111 5 = (15, 65, 3, 70, 0) := by decide +kernel
theorem mi_111_8 : mI 111 8 = (1, 0, 0, 0, 0) := by decide +kernel
theorem mi_111_9 : mI 111 9 = (6, 0, 2, 0, 0) := by decide +kernel
theorem mi_111_10 : mI 111 10 = (1, 0, 0, 0, 0) := by decide +kernel
theorem mi_111_11 : mI 111 11 = (6, 0, 3, 0, 0) := by decide +kernel
theorem mi_111_12 : mI 111 12 = (3, 0, 3, 0, 0) := by decide +kernel
theorem mi_111_13 : mI 111 13 = (1, 24, 1, 0, 0) := by decide +kernel
theorem mi_111_15 : mI 111 15 = (15, 49, 3, 64, 0) := by decide +kernel
theorem mi_111_18 : mI 111 18 = (3, 0, 1, 0, 0) := by decide +kernel
theorem mi_111_19 : mI 111 19 = (1, 24, 1, 0, 0) := by decide +kernel
theorem mi_111_21 : mI 111 21 = (10, 0, 2, 0, 0) := by decide +kernel
theorem mi_111_22 : mI 111 22 = (3, 0, 3, 0, 0) := by decide +kernel
theorem mi_111_23 : mI 111 23 = (10, 0, 0, 0, 0) := by decide +kernel
theorem mi_111_24 : mI 111 24 = (6, 0, 4, 1, 0) := by decide +kernel
theorem mi_111_26 : mI 111 26 = (5, 0, 0, 0, 0) := by decide +kernel
theorem mi_111_27 : mI 111 27 = (17, 128, 27, 2, 11) := by decide +kernel
theorem mi_111_30 : mI 111 30 = (3, 0, 4, 1, 0) := by decide +kernel
theorem mi_111_32 : mI 111 32 = (26, 520, 82, 147, 1) := by decide +kernel
theorem mi_111_35 : mI 111 35 = (14, 13, 2, 48, 0) := by decide +kernel
theorem mi_111_38 : mI 111 38 = (5, 0, 0, 0, 0) := by decide +kernel
theorem mi_111_39 : mI 111 39 = (17, 128, 27, 2, 11) := by decide +kernel
theorem mi_111_42 : mI 111 42 = (3, 0, 4, 1, 0) := by decide +kernel
theorem mi_111_44 : mI 111 44 = (26, 520, 82, 147, 1) := by decide +kernel
theorem mi_111_47 : mI 111 47 = (6, 0, 2, 0, 0) := by decide +kernel
theorem mi_111_48 : mI 111 48 = (5, 0, 0, 0, 0) := by decide +kernel
theorem mi_111_49 : mI 111 49 = (17, 128, 27, 2, 11) := by decide +kernel
theorem mi_111_52 : mI 111 52 = (3, 0, 4, 1, 0) := by decide +kernel
theorem mi_111_54 : mI 111 54 = (3, 0, 2, 0, 0) := by decide +kernel
theorem mi_111_55 : mI 111 55 = (26, 510, 89, 148, 1) := by decide +kernel
theorem mi_111_58 : mI 111 58 = (9, 1, 3, 0, 0) := by decide +kernel
theorem mi_111_61 : mI 111 61 = (16, (-49), 0, 12, 0) := by decide +kernel
theorem mi_111_64 : mI 111 64 = (9, 1, 1, 0, 0) := by decide +kernel
theorem mi_111_67 : mI 111 67 = (16, (-65), 0, 2, 0) := by decide +kernel
theorem mi_111_70 : mI 111 70 = (27, 0, 2, 0, 0) := by decide +kernel
theorem mi_112_0 : mI 112 0 = (5, 0, 0, 0, 0) := by decide +kernel
theorem mi_112_1 : mI 112 1 = (17, 109, 61, 2, 5) := by decide +kernel
theorem mi_112_4 : mI 112 4 = (1, 12, 1, 0, 0) := by decide +kernel
theorem mi_112_6 : mI 112 6 = (15, 62, 3, 68, 0) := by decide +kernel
theorem mi_112_9 : mI 112 9 = (5, 0, 0, 0, 0) := by decide +kernel
theorem mi_112_10 : mI 112 10 = (17, 135, 33, 2, 13) := by decide +kernel
theorem mi_112_13 : mI 112 13 = (5, 0, 0, 0, 0) := by decide +kernel
theorem mi_112_14 : mI 112 14 = (17, 109, 61, 2, 5) := by decide +kernel
theorem mi_112_17 : mI 112 17 = (3, 0, 1, 0, 0) := by decide +kernel
theorem mi_112_18 : mI 112 18 = (26, 510, 89, 148, 1) := by decide +kernel
theorem mi_112_21 : mI 112 21 = (5, 0, 0, 0, 0) := by decide +kernel
theorem mi_112_22 : mI 112 22 = (17, 138, 36, 2, 14) := by decide +kernel
theorem mi_112_25 : mI 112 25 = (5, 0, 0, 0, 0) := by decide +kernel
theorem mi_112_26 : mI 112 26 = (17, 109, 61, 2, 5) := by decide +kernel
theorem mi_112_29 : mI 112 29 = (3, 0, 2, 0, 0) := by decide +kernel
theorem mi_112_30 : mI 112 30 = (26, 510, 89, 148, 1) := by decide +kernel
theorem mi_112_33 : mI 112 33 = (5, 0, 0, 0, 0) := by decide +kernel
theorem mi_112_34 : mI 112 34 = (17, 141, 39, 2, 15) := by decide +kernel
theorem mi_112_37 : mI 112 37 = (5, 0, 0, 0, 0) := by decide +kernel
theorem mi_112_38 : mI 112 38 = (17, 109, 61, 2, 5) := by decide +kernel
theorem mi_112_41 : mI 112 41 = (3, 0, 3, 0, 0) := by decide +kernel
theorem mi_112_42 : mI 112 42 = (26, 510, 89, 148, 1) := by decide +kernel
theorem mi_112_45 : mI 112 45 = (5, 0, 0, 0, 0) := by decide +kernel
theorem mi_112_46 : mI 112 46 = (17, 144, 42, 2, 16) := by decide +kernel
theorem mi_112_49 : mI 112 49 = (5, 0, 0, 0, 0) := by decide +kernel
theorem mi_112_50 : mI 112 50 = (17, 109, 61, 2, 5) := by decide +kernel
theorem mi_112_53 : mI 112 53 = (3, 0, 4, 1, 0) := by decide +kernel
theorem mi_112_55 : mI 112 55 = (26, 510, 89, 148, 1) := by decide +kernel
theorem mi_112_58 : mI 112 58 = (5, 0, 0, 0, 0) := by decide +kernel
theorem mi_112_59 : mI 112 59 = (22, 0, 0, 0, 0) := by decide +kernel
theorem mi_112_60 : mI 112 60 = (17, 109, 61, 2, 5) := by decide +kernel
theorem mi_112_63 : mI 112 63 = (1, 1, 0, 0, 0) := by decide +kernel
theorem mi_112_64 : mI 112 64 = (10, 0, 0, 0, 0) := by decide +kernel
theorem mi_112_65 : mI 112 65 = (18, 109, 61, 2, 5) := by decide +kernel
theorem mi_112_68 : mI 112 68 = (27, 0, 2, 0, 0) := by decide +kernel
theorem mi_114_0 : mI 114 0 = (5, 0, 0, 0, 0) := by decide +kernel
theorem mi_114_1 : mI 114 1 = (3, 0, 1, 0, 0) := by decide +kernel
theorem mi_114_2 : mI 114 2 = (26, 567, 78, 106, 0) := by decide +kernel
theorem mi_114_5 : mI 114 5 = (5, 0, 0, 0, 0) := by decide +kernel
theorem mi_114_6 : mI 114 6 = (3, 0, 2, 0, 0) := by decide +kernel
theorem mi_114_7 : mI 114 7 = (26, 567, 78, 106, 0) := by decide +kernel
theorem mi_114_10 : mI 114 10 = (15, 5, 5, 15, 0) := by decide +kernel
theorem mi_114_13 : mI 114 13 = (1, 0, 0, 0, 0) := by decide +kernel
theorem mi_114_14 : mI 114 14 = (27, 0, 0, 0, 0) := by decide +kernel
theorem mi_114_15 : mI 114 15 = (1, 0, 0, 0, 0) := by decide +kernel
theorem mi_114_16 : mI 114 16 = (6, 0, 3, 0, 0) := by decide +kernel
theorem mi_114_17 : mI 114 17 = (3, 0, 3, 0, 0) := by decide +kernel
theorem mi_114_18 : mI 114 18 = (5, 0, 0, 0, 0) := by decide +kernel
theorem mi_114_19 : mI 114 19 = (3, 0, 1, 0, 0) := by decide +kernel
theorem mi_114_20 : mI 114 20 = (26, 567, 78, 106, 0) := by decide +kernel
theorem mi_114_23 : mI 114 23 = (15, 26, 3, 49, 0) := by decide +kernel
theorem mi_114_26 : mI 114 26 = (5, 0, 0, 0, 0) := by decide +kernel
theorem mi_114_27 : mI 114 27 = (3, 0, 1, 0, 0) := by decide +kernel
theorem mi_114_28 : mI 114 28 = (3, 0, 3, 0, 0) := by decide +kernel
theorem mi_114_29 : mI 114 29 = (26, 766, 93, 107, 0) := by decide +kernel
theorem mi_114_32 : mI 114 32 = (5, 0, 0, 0, 0) := by decide +kernel
theorem mi_114_33 : mI 114 33 = (3, 0, 2, 0, 0) := by decide +kernel
theorem mi_114_34 : mI 114 34 = (3, 0, 3, 0, 0) := by decide +kernel
theorem mi_114_35 : mI 114 35 = (26, 766, 93, 107, 0) := by decide +kernel
theorem mi_114_38 : mI 114 38 = (15, 5, 0, 43, 0) := by decide +kernel
theorem mi_114_41 : mI 114 41 = (1, 0, 0, 0, 0) := by decide +kernel
theorem mi_114_42 : mI 114 42 = (27, 0, 0, 0, 0) := by decide +kernel
theorem mi_114_43 : mI 114 43 = (9, 1, 3, 0, 0) := by decide +kernel
theorem mi_114_46 : mI 114 46 = (16, (-29), 0, 17, 0) := by decide +kernel
theorem mi_114_49 : mI 114 49 = (1, 1, 0, 0, 0) := by decide +kernel
theorem mi_114_50 : mI 114 50 = (27, 0, 0, 0, 0) := by decide +kernel
theorem mi_133_0 : mI 133 0 = (5, 0, 1, 0, 0) := by decide +kernel
theorem mi_133_1 : mI 133 1 = (26, 357, 22, 99, 0) := by decide +kernel
theorem mi_133_4 : mI 133 4 = (5, 0, 0, 0, 0) := by decide +kernel
theorem mi_133_5 : mI 133 5 = (1, 0, 0, 0, 0) := by decide +kernel
theorem mi_133_6 : mI 133 6 = (18, 66, 27, 5, 1) := by decide +kernel
theorem mi_133_9 : mI 133 9 = (5, 0, 0, 0, 0) := by decide +kernel
theorem mi_133_10 : mI 133 10 = (1, (-1), 0, 0, 0) := by decide +kernel
theorem mi_133_11 : mI 133 11 = (18, 68, 18, 5, 2) := by decide +kernel
theorem mi_133_14 : mI 133 14 = (5, 0, 0, 0, 0) := by decide +kernel
theorem mi_133_15 : mI 133 15 = (17, 64, 12, 5, 0) := by decide +kernel
theorem mi_133_18 : mI 133 18 = (26, 364, 30, 187, 0) := by decide +kernel
theorem mi_133_21 : mI 133 21 = (5, 0, 0, 0, 0) := by decide +kernel
theorem mi_133_22 : mI 133 22 = (17, 64, 12, 5, 0) := by decide +kernel
theorem mi_133_25 : mI 133 25 = (26, 368, 33, 188, 0) := by decide +kernel
theorem mi_133_28 : mI 133 28 = (1, 0, 0, 0, 0) := by decide +kernel
theorem mi_133_29 : mI 133 29 = (6, 0, 2, 0, 0) := by decide +kernel
theorem mi_133_30 : mI 133 30 = (3, 0, 2, 0, 0) := by decide +kernel
theorem mi_133_31 : mI 133 31 = (1, 1400, 2, 0, 0) := by decide +kernel
theorem mi_133_34 : mI 133 34 = (15, 52, 3, 86, 0) := by decide +kernel
theorem mi_133_37 : mI 133 37 = (5, 0, 0, 0, 0) := by decide +kernel
theorem mi_133_38 : mI 133 38 = (17, 66, 27, 5, 1) := by decide +kernel
theorem mi_133_41 : mI 133 41 = (14, 45, 1, 86, 0) := by decide +kernel
theorem mi_133_44 : mI 133 44 = (5, 0, 0, 0, 0) := by decide +kernel
theorem mi_133_45 : mI 133 45 = (17, 64, 12, 5, 0) := by decide +kernel
theorem mi_133_48 : mI 133 48 = (17, 43, 36, 9, 2) := by decide +kernel
theorem mi_133_51 : mI 133 51 = (14, 35, 0, 86, 0) := by decide +kernel
theorem mi_133_54 : mI 133 54 = (5, 0, 0, 0, 0) := by decide +kernel
theorem mi_133_55 : mI 133 55 = (5, 0, 1, 0, 0) := by decide +kernel
theorem mi_133_56 : mI 133 56 = (26, 385, 39, 134, 0) := by decide +kernel
theorem mi_133_59 : mI 133 59 = (5, 0, 0, 0, 0) := by decide +kernel
theorem mi_133_60 : mI 133 60 = (26, 512, 43, 145, 0) := by decide +kernel
theorem mi_133_63 : mI 133 63 = (5, 0, 1, 0, 0) := by decide +kernel
theorem mi_133_64 : mI 133 64 = (22, 0, 0, 0, 0) := by decide +kernel
theorem mi_133_65 : mI 133 65 = (17, 84, 46, 2, 0) := by decide +kernel
theorem mi_133_68 : mI 133 68 = (1, 1, 0, 0, 0) := by decide +kernel
theorem mi_133_69 : mI 133 69 = (10, 0, 0, 0, 0) := by decide +kernel
theorem mi_133_70 : mI 133 70 = (18, 84, 46, 2, 0) := by decide +kernel
theorem mi_133_73 : mI 133 73 = (5, 0, 0, 0, 0) := by decide +kernel
theorem mi_133_74 : mI 133 74 = (17, 64, 12, 5, 0) := by decide +kernel
theorem mi_133_77 : mI 133 77 = (26, 368, 33, 188, 0) := by decide +kernel
theorem mi_133_80 : mI 133 80 = (9, 1, 2, 0, 0) := by decide +kernel
theorem mi_133_83 : mI 133 83 = (16, (-53), 0, 30, 0) := by decide +kernel
theorem mi_133_86 : mI 133 86 = (5, 0, 1, 0, 0) := by decide +kernel
theorem mi_133_87 : mI 133 87 = (26, 516, 49, 111, 0) := by decide +kernel
theorem mi_133_90 : mI 133 90 = (27, 0, 2, 0, 0) := by decide +kernel
theorem mi_134_0 : mI 134 0 = (5, 0, 1, 0, 0) := by decide +kernel
theorem mi_134_1 : mI 134 1 = (17, 84, 46, 2, 0) := by decide +kernel
theorem mi_134_4 : mI 134 4 = (14, 11, 1, 15, 0) := by decide +kernel
theorem mi_134_7 : mI 134 7 = (5, 0, 0, 0, 0) := by decide +kernel
theorem mi_134_8 : mI 134 8 = (5, 0, 1, 0, 0) := by decide +kernel
theorem mi_134_9 : mI 134 9 = (26, 389, 52, 135, 0) := by decide +kernel
theorem mi_134_12 : mI 134 12 = (16, 233, 0, 245, 0) := by decide +kernel
theorem mi_134_15 : mI 134 15 = (5, 0, 0, 0, 0) := by decide +kernel
theorem mi_134_16 : mI 134 16 = (17, 64, 12, 5, 0) := by decide +kernel
theorem mi_134_19 : mI 134 19 = (35, 0, 55, 0, 0) := by decide +kernel
theorem mi_134_21 : mI 134 21 = (26, 394, 57, 191, 0) := by decide +kernel
theorem mi_134_24 : mI 134 24 = (14, 11, 0, 35, 0) := by decide +kernel
theorem mi_134_27 : mI 134 27 = (5, 0, 0, 0, 0) := by decide +kernel
theorem mi_134_28 : mI 134 28 = (5, 0, 1, 0, 0) := by decide +kernel
theorem mi_134_29 : mI 134 29 = (26, 466, 61, 136, 0) := by decide +kernel
theorem mi_134_32 : mI 134 32 = (16, 213, 0, 245, 0) := by decide +kernel
theorem mi_134_35 : mI 134 35 = (5, 0, 0, 0, 0) := by decide +kernel
theorem mi_134_36 : mI 134 36 = (17, 64, 12, 5, 0) := by decide +kernel
theorem mi_134_39 : mI 134 39 = (35, 0, 64, 1, 0) := by decide +kernel
theorem mi_134_41 : mI 134 41 = (26, 394, 57, 191, 0) := by decide +kernel
theorem mi_134_44 : mI 134 44 = (14, 33, 0, 77, 0) := by decide +kernel
theorem mi_134_47 : mI 134 47 = (5, 0, 0, 0, 0) := by decide +kernel
theorem mi_134_48 : mI 134 48 = (5, 0, 1, 0, 0) := by decide +kernel
theorem mi_134_49 : mI 134 49 = (26, 474, 66, 140, 0) := by decide +kernel
theorem mi_134_52 : mI 134 52 = (6, 0, 2, 0, 0) := by decide +kernel
theorem mi_134_53 : mI 134 53 = (5, 0, 1, 0, 0) := by decide +kernel
theorem mi_134_54 : mI 134 54 = (17, 118, 70, 2, 8) := by decide +kernel
theorem mi_134_57 : mI 134 57 = (3, 0, 2, 0, 0) := by decide +kernel
theorem mi_134_58 : mI 134 58 = (5, 0, 0, 0, 0) := by decide +kernel
theorem mi_134_59 : mI 134 59 = (1, 1, 0, 0, 0) := by decide +kernel
theorem mi_134_60 : mI 134 60 = (1, 4, 0, 0, 0) := by decide +kernel
theorem mi_134_61 : mI 134 61 = (26, 455, 74, 141, 0) := by decide +kernel
theorem mi_134_64 : mI 134 64 = (26, 470, 78, 148, 1) := by decide +kernel
theorem mi_134_67 : mI 134 67 = (5, 0, 0, 0, 0) := by decide +kernel
theorem mi_134_68 : mI 134 68 = (17, 64, 12, 5, 0) := by decide +kernel
theorem mi_134_71 : mI 134 71 = (26, 368, 33, 188, 0) := by decide +kernel
theorem mi_134_74 : mI 134 74 = (16, 171, 0, 245, 0) := by decide +kernel
theorem mi_134_77 : mI 134 77 = (5, 0, 0, 0, 0) := by decide +kernel
theorem mi_134_78 : mI 134 78 = (17, 64, 12, 5, 0) := by decide +kernel
theorem mi_134_81 : mI 134 81 = (35, 0, 84, 2, 0) := by decide +kernel
theorem mi_134_83 : mI 134 83 = (26, 394, 57, 191, 0) := by decide +kernel
theorem mi_134_86 : mI 134 86 = (14, 34, 0, 120, 0) := by decide +kernel
theorem mi_134_89 : mI 134 89 = (5, 0, 0, 0, 0) := by decide +kernel
theorem mi_134_90 : mI 134 90 = (5, 0, 1, 0, 0) := by decide +kernel
theorem mi_134_91 : mI 134 91 = (26, 474, 66, 140, 0) := by decide +kernel
theorem mi_134_94 : mI 134 94 = (6, 0, 2, 0, 0) := by decide +kernel
theorem mi_134_95 : mI 134 95 = (5, 0, 1, 0, 0) := by decide +kernel
theorem mi_134_96 : mI 134 96 = (17, 121, 86, 2, 9) := by decide +kernel
theorem mi_134_99 : mI 134 99 = (3, 0, 2, 0, 0) := by decide +kernel
theorem mi_134_100 : mI 134 100 = (5, 0, 0, 0, 0) := by decide +kernel
theorem mi_134_101 : mI 134 101 = (1, 0, 0, 0, 0) := by decide +kernel
theorem mi_134_102 : mI 134 102 = (1, 100, 1, 0, 0) := by decide +kernel
theorem mi_134_104 : mI 134 104 = (26, 455, 74, 141, 0) := by decide +kernel
theorem mi_134_107 : mI 134 107 = (26, 470, 78, 148, 1) := by decide +kernel
theorem mi_134_110 : mI 134 110 = (5, 0, 0, 0, 0) := by decide +kernel
theorem mi_134_111 : mI 134 111 = (17, 64, 12, 5, 0) := by decide +kernel
theorem mi_134_114 : mI 134 114 = (26, 368, 33, 188, 0) := by decide +kernel
theorem mi_134_117 : mI 134 117 = (16, 128, 0, 245, 0) := by decide +kernel
theorem mi_134_120 : mI 134 120 = (5, 0, 0, 0, 0) := by decide +kernel
theorem mi_134_121 : mI 134 121 = (17, 64, 12, 5, 0) := by decide +kernel
theorem mi_134_124 : mI 134 124 = (35, 0, 89, 3, 0) := by decide +kernel
theorem mi_134_126 : mI 134 126 = (26, 394, 57, 191, 0) := by decide +kernel
theorem mi_134_129 : mI 134 129 = (14, 11, 0, 140, 0) := by decide +kernel
theorem mi_134_132 : mI 134 132 = (5, 0, 0, 0, 0) := by decide +kernel
theorem mi_134_133 : mI 134 133 = (5, 0, 1, 0, 0) := by decide +kernel
theorem mi_134_134 : mI 134 134 = (26, 480, 91, 137, 0) := by decide +kernel
theorem mi_134_137 : mI 134 137 = (16, 108, 0, 245, 0) := by decide +kernel
theorem mi_134_140 : mI 134 140 = (5, 0, 0, 0, 0) := by decide +kernel
theorem mi_134_141 : mI 134 141 = (17, 64, 12, 5, 0) := by decide +kernel
theorem mi_134_144 : mI 134 144 = (35, 0, 94, 4, 0) := by decide +kernel
theorem mi_134_146 : mI 134 146 = (26, 394, 57, 191, 0) := by decide +kernel
theorem mi_134_149 : mI 134 149 = (14, 11, 0, 160, 0) := by decide +kernel
theorem mi_134_152 : mI 134 152 = (5, 0, 0, 0, 0) := by decide +kernel
theorem mi_134_153 : mI 134 153 = (5, 0, 1, 0, 0) := by decide +kernel
theorem mi_134_154 : mI 134 154 = (26, 486, 96, 138, 0) := by decide +kernel
theorem mi_134_157 : mI 134 157 = (16, 88, 0, 245, 0) := by decide +kernel
theorem mi_134_160 : mI 134 160 = (5, 0, 0, 0, 0) := by decide +kernel
theorem mi_134_161 : mI 134 161 = (17, 64, 12, 5, 0) := by decide +kernel
theorem mi_134_164 : mI 134 164 = (35, 0, 99, 5, 0) := by decide +kernel
theorem mi_134_166 : mI 134 166 = (26, 394, 57, 191, 0) := by decide +kernel
theorem mi_134_169 : mI 134 169 = (14, 11, 0, 180, 0) := by decide +kernel
theorem mi_134_172 : mI 134 172 = (5, 0, 0, 0, 0) := by decide +kernel
theorem mi_134_173 : mI 134 173 = (5, 0, 1, 0, 0) := by decide +kernel
theorem mi_134_174 : mI 134 174 = (26, 502, 101, 139, 0) := by decide +kernel
theorem mi_134_177 : mI 134 177 = (16, 68, 0, 245, 0) := by decide +kernel
theorem mi_134_180 : mI 134 180 = (5, 0, 0, 0, 0) := by decide +kernel
theorem mi_134_181 : mI 134 181 = (17, 64, 12, 5, 0) := by decide +kernel
theorem mi_134_184 : mI 134 184 = (35, 0, 104, 6, 0) := by decide +kernel
theorem mi_134_186 : mI 134 186 = (26, 394, 57, 191, 0) := by decide +kernel
theorem mi_134_189 : mI 134 189 = (14, 51, 0, 240, 0) := by decide +kernel
theorem mi_134_192 : mI 134 192 = (5, 0, 0, 0, 0) := by decide +kernel
theorem mi_134_193 : mI 134 193 = (5, 0, 1, 0, 0) := by decide +kernel
theorem mi_134_194 : mI 134 194 = (26, 474, 66, 140, 0) := by decide +kernel
theorem mi_134_197 : mI 134 197 = (6, 0, 2, 0, 0) := by decide +kernel
theorem mi_134_198 : mI 134 198 = (5, 0, 0, 0, 0) := by decide +kernel
theorem mi_134_199 : mI 134 199 = (5, 0, 1, 0, 0) := by decide +kernel
theorem mi_134_200 : mI 134 200 = (26, 474, 66, 140, 0) := by decide +kernel
theorem mi_134_203 : mI 134 203 = (6, 0, 3, 0, 0) := by decide +kernel
theorem mi_134_204 : mI 134 204 = (5, 0, 0, 0, 0) := by decide +kernel
theorem mi_134_205 : mI 134 205 = (3, 0, 2, 0, 0) := by decide +kernel
theorem mi_134_206 : mI 134 206 = (3, 0, 3, 0, 0) := by decide +kernel
theorem mi_134_207 : mI 134 207 = (26, 490, 106, 142, 0) := by decide +kernel
theorem mi_134_210 : mI 134 210 = (5, 0, 1, 0, 0) := by decide +kernel
theorem mi_134_211 : mI 134 211 = (17, 125, 110, 2, 10) := by decide +kernel
theorem mi_134_214 : mI 134 214 = (3, 0, 3, 0, 0) := by decide +kernel
theorem mi_134_215 : mI 134 215 = (5, 0, 1, 0, 0) := by decide +kernel
theorem mi_134_216 : mI 134 216 = (17, 125, 110, 2, 10) := by decide +kernel
theorem mi_134_219 : mI 134 219 = (3, 0, 3, 0, 0) := by decide +kernel
theorem mi_134_220 : mI 134 220 = (26, 498, 113, 147, 1) := by decide +kernel
theorem mi_134_223 : mI 134 223 = (1, 1, 0, 0, 0) := by decide +kernel
theorem mi_134_224 : mI 134 224 = (3, 0, 2, 0, 0) := by decide +kernel
theorem mi_134_225 : mI 134 225 = (10, 0, 8, 0, 0) := by decide +kernel
theorem mi_134_226 : mI 134 226 = (10, 0, 6, 0, 0) := by decide +kernel
theorem mi_134_227 : mI 134 227 = (26, 470, 78, 148, 1) := by decide +kernel
theorem mi_134_230 : mI 134 230 = (5, 0, 0, 0, 0) := by decide +kernel
theorem mi_134_231 : mI 134 231 = (17, 64, 12, 5, 0) := by decide +kernel
theorem mi_134_234 : mI 134 234 = (26, 368, 33, 188, 0) := by decide +kernel
theorem mi_134_237 : mI 134 237 = (16, 8, 0, 245, 0) := by decide +kernel
theorem mi_134_240 : mI 134 240 = (5, 0, 0, 0, 0) := by decide +kernel
theorem mi_134_241 : mI 134 241 = (1, 1, 0, 0, 0) := by decide +kernel
theorem mi_134_242 : mI 134 242 = (26, 446, 117, 146, 0) := by decide +kernel
theorem mi_134_245 : mI 134 245 = (27, 0, 2, 0, 0) := by decide +kernel
theorem mi_135_0 : mI 135 0 = (5, 0, 0, 0, 0) := by decide +kernel
theorem mi_135_1 : mI 135 1 = (17, 64, 12, 5, 0) := by decide +kernel
theorem mi_135_4 : mI 135 4 = (35, 0, 121, 7, 0) := by decide +kernel
theorem mi_135_6 : mI 135 6 = (26, 394, 57, 191, 0) := by decide +kernel
theorem mi_135_9 : mI 135 9 = (14, 8, 1, 17, 0) := by decide +kernel
theorem mi_135_12 : mI 135 12 = (5, 0, 0, 0, 0) := by decide +kernel
theorem mi_135_13 : mI 135 13 = (1, 1, 0, 0, 0) := by decide +kernel
theorem mi_135_14 : mI 135 14 = (26, 446, 117, 146, 0) := by decide +kernel
theorem mi_135_17 : mI 135 17 = (5, 0, 0, 0, 0) := by decide +kernel
theorem mi_135_18 : mI 135 18 = (35, 0, 123, 8, 0) := by decide +kernel
theorem mi_135_20 : mI 135 20 = (26, 451, 125, 144, 0) := by decide +kernel
theorem mi_135_23 : mI 135 23 = (5, 0, 1, 0, 0) := by decide +kernel
theorem mi_135_24 : mI 135 24 = (5, 0, 0, 0, 0) := by decide +kernel
theorem mi_135_25 : mI 135 25 = (1, 2, 0, 0, 0) := by decide +kernel
theorem mi_135_26 : mI 135 26 = (1, 9, 1, 0, 0) := by decide +kernel
theorem mi_135_28 : mI 135 28 = (26, 455, 74, 141, 0) := by decide +kernel
theorem mi_135_31 : mI 135 31 = (18, 88, 129, 2, 1) := by decide +kernel
theorem mi_135_34 : mI 135 34 = (5, 0, 0, 0, 0) := by decide +kernel
theorem mi_135_35 : mI 135 35 = (35, 0, 131, 9, 0) := by decide +kernel
theorem mi_135_37 : mI 135 37 = (26, 451, 125, 144, 0) := by decide +kernel
theorem mi_135_40 : mI 135 40 = (5, 0, 1, 0, 0) := by decide +kernel
theorem mi_135_41 : mI 135 41 = (5, 0, 0, 0, 0) := by decide +kernel
theorem mi_135_42 : mI 135 42 = (1, 1, 0, 0, 0) := by decide +kernel
theorem mi_135_43 : mI 135 43 = (1, 4, 0, 0, 0) := by decide +kernel
theorem mi_135_44 : mI 135 44 = (26, 455, 74, 141, 0) := by decide +kernel
theorem mi_135_47 : mI 135 47 = (18, 92, 133, 2, 2) := by decide +kernel
theorem mi_135_50 : mI 135 50 = (5, 0, 0, 0, 0) := by decide +kernel
theorem mi_135_51 : mI 135 51 = (35, 0, 135, 10, 0) := by decide +kernel
theorem mi_135_53 : mI 135 53 = (26, 451, 125, 144, 0) := by decide +kernel
theorem mi_135_56 : mI 135 56 = (5, 0, 1, 0, 0) := by decide +kernel
theorem mi_135_57 : mI 135 57 = (5, 0, 0, 0, 0) := by decide +kernel
theorem mi_135_58 : mI 135 58 = (1, 1, 0, 0, 0) := by decide +kernel
theorem mi_135_59 : mI 135 59 = (1, 24, 1, 0, 0) := by decide +kernel
theorem mi_135_61 : mI 135 61 = (26, 455, 74, 141, 0) := by decide +kernel
theorem mi_135_64 : mI 135 64 = (18, 98, 137, 2, 3) := by decide +kernel
theorem mi_135_67 : mI 135 67 = (5, 0, 0, 0, 0) := by decide +kernel
theorem mi_135_68 : mI 135 68 = (17, 64, 12, 5, 0) := by decide +kernel
theorem mi_135_71 : mI 135 71 = (26, 368, 33, 188, 0) := by decide +kernel
theorem mi_135_74 : mI 135 74 = (27, 0, 2, 0, 0) := by decide +kernel
theorem mi_136_0 : mI 136 0 = (5, 0, 1, 0, 0) := by decide +kernel
theorem mi_136_1 : mI 136 1 = (17, 105, 139, 2, 4) := by decide +kernel
theorem mi_136_4 : mI 136 4 = (1, 6, 1, 0, 0) := by decide +kernel
theorem mi_136_6 : mI 136 6 = (15, 9, 2, 15, 0) := by decide +kernel
theorem mi_136_9 : mI 136 9 = (5, 0, 0, 0, 0) := by decide +kernel
theorem mi_136_10 : mI 136 10 = (1, 3, 0, 0, 0) := by decide +kernel
theorem mi_136_11 : mI 136 11 = (26, 446, 117, 146, 0) := by decide +kernel
theorem mi_136_14 : mI 136 14 = (27, 0, 2, 0, 0) := by decide +kernel
theorem mi_136_15 : mI 136 15 = (5, 0, 1, 0, 0) := by decide +kernel
theorem mi_136_16 : mI 136 16 = (17, 105, 139, 2, 4) := by decide +kernel
theorem mi_136_19 : mI 136 19 = (6, 0, 2, 0, 0) := by decide +kernel
theorem mi_136_20 : mI 136 20 = (5, 0, 1, 0, 0) := by decide +kernel
theorem mi_136_21 : mI 136 21 = (22, 0, 0, 0, 0) := by decide +kernel
theorem mi_136_22 : mI 136 22 = (17, 105, 139, 2, 4) := by decide +kernel
theorem mi_136_25 : mI 136 25 = (1, 1, 0, 0, 0) := by decide +kernel
theorem mi_136_26 : mI 136 26 = (10, 0, 0, 0, 0) := by decide +kernel
theorem mi_136_27 : mI 136 27 = (18, 105, 139, 2, 4) := by decide +kernel
theorem mi_136_30 : mI 136 30 = (5, 0, 1, 0, 0) := by decide +kernel
theorem mi_136_31 : mI 136 31 = (17, 118, 70, 2, 8) := by decide +kernel
theorem mi_136_34 : mI 136 34 = (3, 0, 2, 0, 0) := by decide +kernel
theorem mi_136_35 : mI 136 35 = (1, 1, 0, 0, 0) := by decide +kernel
theorem mi_136_36 : mI 136 36 = (26, 470, 78, 148, 1) := by decide +kernel
theorem mi_136_39 : mI 136 39 = (1, 0, 0, 0, 0) := by decide +kernel
theorem mi_136_40 : mI 136 40 = (6, 0, 3, 0, 0) := by decide +kernel
theorem mi_136_41 : mI 136 41 = (3, 0, 3, 0, 0) := by decide +kernel
theorem mi_136_42 : mI 136 42 = (1, 6, 1, 0, 0) := by decide +kernel
theorem mi_136_44 : mI 136 44 = (15, 89, 4, 133, 0) := by decide +kernel
theorem mi_136_47 : mI 136 47 = (5, 0, 0, 0, 0) := by decide +kernel
theorem mi_136_48 : mI 136 48 = (17, 66, 27, 5, 1) := by decide +kernel
theorem mi_136_51 : mI 136 51 = (14, 82, 1, 133, 0) := by decide +kernel
theorem mi_136_54 : mI 136 54 = (5, 0, 0, 0, 0) := by decide +kernel
theorem mi_136_55 : mI 136 55 = (17, 64, 12, 5, 0) := by decide +kernel
theorem mi_136_58 : mI 136 58 = (26, 368, 33, 188, 0) := by decide +kernel
theorem mi_136_61 : mI 136 61 = (3, 0, 3, 0, 0) := by decide +kernel
theorem mi_136_62 : mI 136 62 = (14, 15, 5, 77, 0) := by decide +kernel
theorem mi_136_65 : mI 136 65 = (5, 0, 0, 0, 0) := by decide +kernel
theorem mi_136_66 : mI 136 66 = (17, 64, 12, 5, 0) := by decide +kernel
theorem mi_136_69 : mI 136 69 = (17, 43, 36, 9, 2) := by decide +kernel
theorem mi_136_72 : mI 136 72 = (1, 3, 0, 0, 0) := by decide +kernel
theorem mi_136_73 : mI 136 73 = (15, 4, 1, 77, 0) := by decide +kernel
theorem mi_136_76 : mI 136 76 = (27, 0, 2, 0, 0) := by decide +kernel
theorem mi_136_77 : mI 136 77 = (5, 0, 0, 0, 0) := by decide +kernel
theorem mi_136_78 : mI 136 78 = (1, 0, 0, 0, 0) := by decide +kernel
theorem mi_136_79 : mI 136 79 = (5, 0, 1, 0, 0) := by decide +kernel
theorem mi_136_80 : mI 136 80 = (17, 88, 129, 2, 1) := by decide +kernel
theorem mi_136_83 : mI 136 83 = (1, 1, 0, 0, 0) := by decide +kernel
theorem mi_136_84 : mI 136 84 = (10, 0, 1, 0, 0) := by decide +kernel
theorem mi_136_85 : mI 136 85 = (26, 459, 142, 143, 0) := by decide +kernel
theorem mi_136_88 : mI 136 88 = (6, 0, 4, 1, 0) := by decide +kernel
theorem mi_136_90 : mI 136 90 = (3, 0, 3, 0, 0) := by decide +kernel
theorem mi_136_91 : mI 136 91 = (1, 6, 1, 0, 0) := by decide +kernel
theorem mi_136_93 : mI 136 93 = (15, 8, 1, 101, 0) := by decide +kernel
theorem mi_136_96 : mI 136 96 = (5, 0, 0, 0, 0) := by decide +kernel
theorem mi_136_97 : mI 136 97 = (1, 3, 0, 0, 0) := by decide +kernel
theorem mi_136_98 : mI 136 98 = (26, 446, 117, 146, 0) := by decide +kernel
theorem mi_136_101 : mI 136 101 = (5, 0, 1, 0, 0) := by decide +kernel
theorem mi_136_102 : mI 136 102 = (17, 116, 145, 2, 7) := by decide +kernel
theorem mi_136_105 : mI 136 105 = (3, 0, 2, 0, 0) := by decide +kernel
theorem mi_136_106 : mI 136 106 = (1, 6, 1, 0, 0) := by decide +kernel
theorem mi_136_108 : mI 136 108 = (10, 0, 2, 0, 0) := by decide +kernel
theorem mi_136_109 : mI 136 109 = (3, 0, 3, 0, 0) := by decide +kernel
theorem mi_136_110 : mI 136 110 = (10, 0, 0, 0, 0) := by decide +kernel
theorem mi_136_111 : mI 136 111 = (3, 0, 4, 1, 0) := by decide +kernel
theorem mi_136_113 : mI 136 113 = (26, 470, 78, 148, 1) := by decide +kernel
theorem mi_136_116 : mI 136 116 = (5, 0, 1, 0, 0) := by decide +kernel
theorem mi_136_117 : mI 136 117 = (17, 114, 148, 2, 6) := by decide +kernel
theorem mi_136_120 : mI 136 120 = (3, 0, 2, 0, 0) := by decide +kernel
theorem mi_136_121 : mI 136 121 = (3, 0, 3, 0, 0) := by decide +kernel
theorem mi_136_122 : mI 136 122 = (1, 1, 0, 0, 0) := by decide +kernel
theorem mi_136_123 : mI 136 123 = (10, 0, 0, 0, 0) := by decide +kernel
theorem mi_136_124 : mI 136 124 = (26, 470, 78, 148, 1) := by decide +kernel
theorem mi_136_127 : mI 136 127 = (9, 1, 3, 0, 0) := by decide +kernel
theorem mi_136_130 : mI 136 130 = (16, (-89), 0, 41, 0) := by decide +kernel
theorem mi_136_133 : mI 136 133 = (27, 0, 2, 0, 0) := by decide +kernel
theorem mi_137_0 : mI 137 0 = (5, 0, 0, 0, 0) := by decide +kernel
theorem mi_137_1 : mI 137 1 = (5, 0, 1, 0, 0) := by decide +kernel
theorem mi_137_2 : mI 137 2 = (26, 474, 66, 140, 0) := by decide +kernel
theorem mi_137_5 : mI 137 5 = (6, 0, 2, 0, 0) := by decide +kernel
theorem mi_137_6 : mI 137 6 = (5, 0, 0, 0, 0) := by decide +kernel
theorem mi_137_7 : mI 137 7 = (1, 0, 0, 0, 0) := by decide +kernel
theorem mi_137_8 : mI 137 8 = (5, 0, 1, 0, 0) := by decide +kernel
theorem mi_137_9 : mI 137 9 = (17, 92, 133, 2, 2) := by decide +kernel
theorem mi_137_12 : mI 137 12 = (1, 1, 0, 0, 0) := by decide +kernel
theorem mi_137_13 : mI 137 13 = (10, 0, 1, 0, 0) := by decide +kernel
theorem mi_137_14 : mI 137 14 = (26, 455, 74, 141, 0) := by decide +kernel
theorem mi_137_17 : mI 137 17 = (6, 0, 3, 0, 0) := by decide +kernel
theorem mi_137_18 : mI 137 18 = (5, 0, 0, 0, 0) := by decide +kernel
theorem mi_137_19 : mI 137 19 = (35, 0, 151, 11, 0) := by decide +kernel
theorem mi_137_21 : mI 137 21 = (26, 451, 125, 144, 0) := by decide +kernel
theorem mi_137_24 : mI 137 24 = (5, 0, 0, 0, 0) := by decide +kernel
theorem mi_137_25 : mI 137 25 = (1, 0, 0, 0, 0) := by decide +kernel
theorem mi_137_26 : mI 137 26 = (5, 0, 1, 0, 0) := by decide +kernel
theorem mi_137_27 : mI 137 27 = (17, 98, 137, 2, 3) := by decide +kernel
theorem mi_137_30 : mI 137 30 = (1, 1, 0, 0, 0) := by decide +kernel
theorem mi_137_31 : mI 137 31 = (10, 0, 1, 0, 0) := by decide +kernel
theorem mi_137_32 : mI 137 32 = (26, 455, 74, 141, 0) := by decide +kernel
theorem mi_137_35 : mI 137 35 = (6, 0, 4, 1, 0) := by decide +kernel
theorem mi_137_37 : mI 137 37 = (5, 0, 1, 0, 0) := by decide +kernel
theorem mi_137_38 : mI 137 38 = (17, 129, 152, 2, 11) := by decide +kernel
theorem mi_137_41 : mI 137 41 = (3, 0, 2, 0, 0) := by decide +kernel
theorem mi_137_42 : mI 137 42 = (1, 24, 1, 0, 0) := by decide +kernel
theorem mi_137_44 : mI 137 44 = (10, 0, 2, 0, 0) := by decide +kernel
theorem mi_137_45 : mI 137 45 = (3, 0, 4, 1, 0) := by decide +kernel
theorem mi_137_47 : mI 137 47 = (10, 0, 0, 0, 0) := by decide +kernel
theorem mi_137_48 : mI 137 48 = (3, 0, 3, 0, 0) := by decide +kernel
theorem mi_137_49 : mI 137 49 = (26, 470, 78, 148, 1) := by decide +kernel
theorem mi_137_52 : mI 137 52 = (5, 0, 0, 0, 0) := by decide +kernel
theorem mi_137_53 : mI 137 53 = (17, 64, 12, 5, 0) := by decide +kernel
theorem mi_137_56 : mI 137 56 = (26, 368, 33, 188, 0) := by decide +kernel
theorem mi_137_59 : mI 137 59 = (27, 0, 2, 0, 0) := by decide +kernel
theorem mi_138_0 : mI 138 0 = (5, 0, 0, 0, 0) := by decide +kernel
theorem mi_138_1 : mI 138 1 = (5, 0, 1, 0, 0) := by decide +kernel
theorem mi_138_2 : mI 138 2 = (26, 474, 66, 140, 0) := by decide +kernel
theorem mi_138_5 : mI 138 5 = (6, 0, 2, 0, 0) := by decide +kernel
theorem mi_138_6 : mI 138 6 = (5, 0, 0, 0, 0) := by decide +kernel
theorem mi_138_7 : mI 138 7 = (5, 0, 1, 0, 0) := by decide +kernel
theorem mi_138_8 : mI 138 8 = (26, 474, 66, 140, 0) := by decide +kernel
theorem mi_138_11 : mI 138 11 = (6, 0, 3, 0, 0) := by decide +kernel
theorem mi_138_12 : mI 138 12 = (5, 0, 0, 0, 0) := by decide +kernel
theorem mi_138_13 : mI 138 13 = (3, 0, 2, 0, 0) := by decide +kernel
theorem mi_138_14 : mI 138 14 = (3, 0, 3, 0, 0) := by decide +kernel
theorem mi_138_15 : mI 138 15 = (26, 490, 106, 142, 0) := by decide +kernel
theorem mi_138_18 : mI 138 18 = (5, 0, 0, 0, 0) := by decide +kernel
theorem mi_138_19 : mI 138 19 = (1, 0, 0, 0, 0) := by decide +kernel
theorem mi_138_20 : mI 138 20 = (5, 0, 1, 0, 0) := by decide +kernel
theorem mi_138_21 : mI 138 21 = (3, 0, 3, 0, 0) := by decide +kernel
theorem mi_138_22 : mI 138 22 = (26, 494, 155, 106, 0) := by decide +kernel
theorem mi_138_25 : mI 138 25 = (1, 1, 0, 0, 0) := by decide +kernel
theorem mi_138_26 : mI 138 26 = (10, 0, 1, 0, 0) := by decide +kernel
theorem mi_138_27 : mI 138 27 = (26, 455, 74, 141, 0) := by decide +kernel
theorem mi_138_30 : mI 138 30 = (6, 0, 4, 1, 0) := by decide +kernel
theorem mi_138_32 : mI 138 32 = (3, 0, 2, 0, 0) := by decide +kernel
theorem mi_138_33 : mI 138 33 = (1, 6, 1, 0, 0) := by decide +kernel
theorem mi_138_35 : mI 138 35 = (10, 0, 2, 0, 0) := by decide +kernel
theorem mi_138_36 : mI 138 36 = (3, 0, 3, 0, 0) := by decide +kernel
theorem mi_138_37 : mI 138 37 = (10, 0, 0, 0, 0) := by decide +kernel
theorem mi_138_38 : mI 138 38 = (6, 0, 5, 1, 0) := by decide +kernel
theorem mi_138_40 : mI 138 40 = (5, 0, 1, 0, 0) := by decide +kernel
theorem mi_138_41 : mI 138 41 = (17, 133, 159, 2, 12) := by decide +kernel
theorem mi_138_44 : mI 138 44 = (3, 0, 5, 1, 0) := by decide +kernel
theorem mi_138_46 : mI 138 46 = (5, 0, 1, 0, 0) := by decide +kernel
theorem mi_138_47 : mI 138 47 = (17, 133, 159, 2, 12) := by decide +kernel
theorem mi_138_50 : mI 138 50 = (3, 0, 5, 1, 0) := by decide +kernel
theorem mi_138_52 : mI 138 52 = (26, 498, 113, 147, 1) := by decide +kernel
theorem mi_138_55 : mI 138 55 = (1, 1, 0, 0, 0) := by decide +kernel
theorem mi_138_56 : mI 138 56 = (3, 0, 4, 1, 0) := by decide +kernel
theorem mi_138_58 : mI 138 58 = (10, 0, 8, 0, 0) := by decide +kernel
theorem mi_138_59 : mI 138 59 = (10, 0, 6, 0, 0) := by decide +kernel
theorem mi_138_60 : mI 138 60 = (26, 470, 78, 148, 1) := by decide +kernel
theorem mi_138_63 : mI 138 63 = (5, 0, 0, 0, 0) := by decide +kernel
theorem mi_138_64 : mI 138 64 = (17, 64, 12, 5, 0) := by decide +kernel
theorem mi_138_67 : mI 138 67 = (26, 368, 33, 188, 0) := by decide +kernel
theorem mi_138_70 : mI 138 70 = (27, 0, 2, 0, 0) := by decide +kernel
theorem mi_139_0 : mI 139 0 = (5, 0, 1, 0, 0) := by decide +kernel
theorem mi_139_1 : mI 139 1 = (17, 111, 162, 2, 5) := by decide +kernel
theorem mi_139_4 : mI 139 4 = (1, 12, 1, 0, 0) := by decide +kernel
theorem mi_139_6 : mI 139 6 = (15, 9, 2, 15, 0) := by decide +kernel
theorem mi_139_9 : mI 139 9 = (5, 0, 0, 0, 0) := by decide +kernel
theorem mi_139_10 : mI 139 10 = (1, 3, 0, 0, 0) := by decide +kernel
theorem mi_139_11 : mI 139 11 = (26, 446, 117, 146, 0) := by decide +kernel
theorem mi_139_14 : mI 139 14 = (27, 0, 2, 0, 0) := by decide +kernel
theorem mi_139_15 : mI 139 15 = (5, 0, 0, 0, 0) := by decide +kernel
theorem mi_139_16 : mI 139 16 = (5, 0, 1, 0, 0) := by decide +kernel
theorem mi_139_17 : mI 139 17 = (26, 474, 66, 140, 0) := by decide +kernel
theorem mi_139_20 : mI 139 20 = (6, 0, 2, 0, 0) := by decide +kernel
theorem mi_139_21 : mI 139 21 = (5, 0, 0, 0, 0) := by decide +kernel
theorem mi_139_22 : mI 139 22 = (5, 0, 1, 0, 0) := by decide +kernel
theorem mi_139_23 : mI 139 23 = (26, 474, 66, 140, 0) := by decide +kernel
theorem mi_139_26 : mI 139 26 = (6, 0, 3, 0, 0) := by decide +kernel
theorem mi_139_27 : mI 139 27 = (5, 0, 0, 0, 0) := by decide +kernel
theorem mi_139_28 : mI 139 28 = (1, 0, 0, 0, 0) := by decide +kernel
theorem mi_139_29 : mI 139 29 = (5, 0, 1, 0, 0) := by decide +kernel
theorem mi_139_30 : mI 139 30 = (3, 0, 3, 0, 0) := by decide +kernel
theorem mi_139_31 : mI 139 31 = (26, 494, 155, 106, 0) := by decide +kernel
theorem mi_139_34 : mI 139 34 = (1, 1, 0, 0, 0) := by decide +kernel
theorem mi_139_35 : mI 139 35 = (10, 0, 1, 0, 0) := by decide +kernel
theorem mi_139_36 : mI 139 36 = (26, 455, 74, 141, 0) := by decide +kernel
theorem mi_139_39 : mI 139 39 = (6, 0, 4, 1, 0) := by decide +kernel
theorem mi_139_41 : mI 139 41 = (5, 0, 0, 0, 0) := by decide +kernel
theorem mi_139_42 : mI 139 42 = (35, 0, 151, 11, 0) := by decide +kernel
theorem mi_139_44 : mI 139 44 = (26, 451, 125, 144, 0) := by decide +kernel
theorem mi_139_47 : mI 139 47 = (5, 0, 0, 0, 0) := by decide +kernel
theorem mi_139_48 : mI 139 48 = (1, 0, 0, 0, 0) := by decide +kernel
theorem mi_139_49 : mI 139 49 = (5, 0, 1, 0, 0) := by decide +kernel
theorem mi_139_50 : mI 139 50 = (17, 98, 137, 2, 3) := by decide +kernel
theorem mi_139_53 : mI 139 53 = (1, 1, 0, 0, 0) := by decide +kernel
theorem mi_139_54 : mI 139 54 = (10, 0, 1, 0, 0) := by decide +kernel
theorem mi_139_55 : mI 139 55 = (26, 455, 74, 141, 0) := by decide +kernel
theorem mi_139_58 : mI 139 58 = (6, 0, 5, 1, 0) := by decide +kernel
theorem mi_139_60 : mI 139 60 = (5, 0, 1, 0, 0) := by decide +kernel
theorem mi_139_61 : mI 139 61 = (3, 0, 2, 0, 0) := by decide +kernel
theorem mi_139_62 : mI 139 62 = (3, 0, 3, 0, 0) := by decide +kernel
theorem mi_139_63 : mI 139 63 = (3, 0, 4, 1, 0) := by decide +kernel
theorem mi_139_65 : mI 139 65 = (3, 0, 5, 1, 0) := by decide +kernel
theorem mi_139_67 : mI 139 67 = (26, 506, 165, 112, 0) := by decide +kernel
theorem mi_139_70 : mI 139 70 = (5, 0, 0, 0, 0) := by decide +kernel
theorem mi_139_71 : mI 139 71 = (17, 64, 12, 5, 0) := by decide +kernel
theorem mi_139_74 : mI 139 74 = (26, 368, 33, 188, 0) := by decide +kernel
theorem mi_139_77 : mI 139 77 = (27, 0, 2, 0, 0) := by decide +kernel
theorem mi_140_0 : mI 140 0 = (5, 0, 0, 0, 0) := by decide +kernel
theorem mi_140_1 : mI 140 1 = (17, 64, 12, 5, 0) := by decide +kernel
theorem mi_140_4 : mI 140 4 = (26, 368, 33, 188, 0) := by decide +kernel
theorem mi_140_7 : mI 140 7 = (5, 0, 0, 0, 0) := by decide +kernel
theorem mi_140_8 : mI 140 8 = (1, 0, 0, 0, 0) := by decide +kernel
theorem mi_140_9 : mI 140 9 = (5, 0, 1, 0, 0) := by decide +kernel
theorem mi_140_10 : mI 140 10 = (17, 105, 139, 2, 4) := by decide +kernel
theorem mi_140_13 : mI 140 13 = (1, 1, 0, 0, 0) := by decide +kernel
theorem mi_140_14 : mI 140 14 = (10, 0, 1, 0, 0) := by decide +kernel
theorem mi_140_15 : mI 140 15 = (26, 459, 142, 143, 0) := by decide +kernel
theorem mi_140_18 : mI 140 18 = (27, 0, 0, 0, 0) := by decide +kernel
theorem mi_141_0 : mI 141 0 = (5, 0, 0, 0, 0) := by decide +kernel
theorem mi_141_1 : mI 141 1 = (17, 64, 12, 5, 0) := by decide +kernel
theorem mi_141_4 : mI 141 4 = (26, 368, 33, 188, 0) := by decide +kernel
theorem mi_141_7 : mI 141 7 = (5, 0, 0, 0, 0) := by decide +kernel
theorem mi_141_8 : mI 141 8 = (3, 0, 1, 0, 0) := by decide +kernel
theorem mi_141_9 : mI 141 9 = (3, 0, 2, 0, 0) := by decide +kernel
theorem mi_141_10 : mI 141 10 = (26, 459, 142, 143, 0) := by decide +kernel
theorem mi_141_13 : mI 141 13 = (27, 0, 0, 0, 0) := by decide +kernel
theorem mi_142_0 : mI 142 0 = (3, 0, 1, 0, 0) := by decide +kernel
theorem mi_142_1 : mI 142 1 = (3, 0, 2, 0, 0) := by decide +kernel
theorem mi_142_2 : mI 142 2 = (15, 8, 1, 10, 0) := by decide +kernel
theorem mi_142_5 : mI 142 5 = (5, 0, 0, 0, 0) := by decide +kernel
theorem mi_142_6 : mI 142 6 = (1, 2, 0, 0, 0) := by decide +kernel
theorem mi_142_7 : mI 142 7 = (26, 446, 117, 146, 0) := by decide +kernel
theorem mi_142_10 : mI 142 10 = (27, 0, 2, 0, 0) := by decide +kernel
theorem mi_143_0 : mI 143 0 = (5, 0, 0, 0, 0) := by decide +kernel
theorem mi_143_1 : mI 143 1 = (17, 64, 12, 5, 0) := by decide +kernel
theorem mi_143_4 : mI 143 4 = (17, 43, 36, 9, 2) := by decide +kernel
theorem mi_143_7 : mI 143 7 = (1, 2, 0, 0, 0) := by decide +kernel
theorem mi_143_8 : mI 143 8 = (15, 11, 0, 19, 0) := by decide +kernel
theorem mi_143_11 : mI 143 11 = (5, 0, 0, 0, 0) := by decide +kernel
theorem mi_143_12 : mI 143 12 = (1, 1, 0, 0, 0) := by decide +kernel
theorem mi_143_13 : mI 143 13 = (26, 446, 117, 146, 0) := by decide +kernel
theorem mi_143_16 : mI 143 16 = (16, 30, 0, 46, 0) := by decide +kernel
theorem mi_143_19 : mI 143 19 = (5, 0, 0, 0, 0) := by decide +kernel
theorem mi_143_20 : mI 143 20 = (17, 64, 12, 5, 0) := by decide +kernel
theorem mi_143_23 : mI 143 23 = (17, 49, 169, 9, 5) := by decide +kernel
theorem mi_143_26 : mI 143 26 = (3, 0, 1, 0, 0) := by decide +kernel
theorem mi_143_27 : mI 143 27 = (15, 14, 2, 41, 0) := by decide +kernel
theorem mi_143_30 : mI 143 30 = (5, 0, 0, 0, 0) := by decide +kernel
theorem mi_143_31 : mI 143 31 = (17, 64, 12, 5, 0) := by decide +kernel
theorem mi_143_34 : mI 143 34 = (17, 49, 169, 9, 5) := by decide +kernel
theorem mi_143_37 : mI 143 37 = (3, 0, 2, 0, 0) := by decide +kernel
theorem mi_143_38 : mI 143 38 = (15, 8, 5, 46, 0) := by decide +kernel
theorem mi_143_41 : mI 143 41 = (5, 0, 0, 0, 0) := by decide +kernel
theorem mi_143_42 : mI 143 42 = (1, 2, 0, 0, 0) := by decide +kernel
theorem mi_143_43 : mI 143 43 = (26, 446, 117, 146, 0) := by decide +kernel
theorem mi_143_46 : mI 143 46 = (5, 0, 0, 0, 0) := by decide +kernel
theorem mi_143_47 : mI 143 47 = (17, 66, 27, 5, 1) := by decide +kernel
theorem mi_143_50 : mI 143 50 = (14, 13, 1, 63, 0) := by decide +kernel
theorem mi_143_53 : mI 143 53 = (5, 0, 0, 0, 0) := by decide +kernel
theorem mi_143_54 : mI 143 54 = (17, 64, 12, 5, 0) := by decide +kernel
theorem mi_143_57 : mI 143 57 = (17, 49, 169, 9, 5) := by decide +kernel
theorem mi_143_60 : mI 143 60 = (16, 4, 0, 64, 0) := by decide +kernel
theorem mi_143_63 : mI 143 63 = (1, 0, 0, 0, 0) := by decide +kernel
theorem mi_143_64 : mI 143 64 = (27, 0, 0, 0, 0) := by decide +kernel
theorem mi_144_0 : mI 144 0 = (5, 0, 0, 0, 0) := by decide +kernel
theorem mi_144_1 : mI 144 1 = (17, 64, 12, 5, 0) := by decide +kernel
theorem mi_144_4 : mI 144 4 = (26, 368, 33, 188, 0) := by decide +kernel
theorem mi_144_7 : mI 144 7 = (5, 0, 0, 0, 0) := by decide +kernel
theorem mi_144_8 : mI 144 8 = (17, 64, 12, 5, 0) := by decide +kernel
theorem mi_144_11 : mI 144 11 = (5, 0, 1, 0, 0) := by decide +kernel
theorem mi_144_12 : mI 144 12 = (26, 394, 57, 191, 0) := by decide +kernel
theorem mi_144_15 : mI 144 15 = (14, 8, 1, 23, 0) := by decide +kernel
theorem mi_144_18 : mI 144 18 = (5, 0, 0, 0, 0) := by decide +kernel
theorem mi_144_19 : mI 144 19 = (1, 1, 0, 0, 0) := by decide +kernel
theorem mi_144_20 : mI 144 20 = (26, 446, 117, 146, 0) := by decide +kernel
theorem mi_144_23 : mI 144 23 = (27, 0, 2, 0, 0) := by decide +kernel
theorem mi_145_0 : mI 145 0 = (5, 0, 0, 0, 0) := by decide +kernel
theorem mi_145_1 : mI 145 1 = (17, 64, 12, 5, 0) := by decide +kernel
theorem mi_145_4 : mI 145 4 = (17, 43, 36, 9, 2) := by decide +kernel
theorem mi_145_7 : mI 145 7 = (1, 3, 0, 0, 0) := by decide +kernel
theorem mi_145_8 : mI 145 8 = (15, 8, 0, 16, 0) := by decide +kernel
theorem mi_145_11 : mI 145 11 = (5, 0, 0, 0, 0) := by decide +kernel
theorem mi_145_12 : mI 145 12 = (1, 1, 0, 0, 0) := by decide +kernel
theorem mi_145_13 : mI 145 13 = (26, 446, 117, 146, 0) := by decide +kernel
theorem mi_145_16 : mI 145 16 = (27, 0, 2, 0, 0) := by decide +kernel
theorem mi_146_0 : mI 146 0 = (5, 0, 0, 0, 0) := by decide +kernel
theorem mi_146_1 : mI 146 1 = (17, 66, 27, 5, 1) := by decide +kernel
theorem mi_146_4 : mI 146 4 = (14, 19, 1, 23, 0) := by decide +kernel
theorem mi_146_7 : mI 146 7 = (5, 0, 0, 0, 0) := by decide +kernel
theorem mi_146_8 : mI 146 8 = (3, 0, 1, 0, 0) := by decide +kernel
theorem mi_146_9 : mI 146 9 = (18, 66, 27, 5, 1) := by decide +kernel
theorem mi_146_12 : mI 146 12 = (5, 0, 0, 0, 0) := by decide +kernel
theorem mi_146_13 : mI 146 13 = (5, 0, 0, 0, 0) := by decide +kernel
theorem mi_146_14 : mI 146 14 = (17, 64, 12, 5, 0) := by decide +kernel
theorem mi_146_17 : mI 146 17 = (17, 46, 172, 9, 3) := by decide +kernel
theorem mi_146_20 : mI 146 20 = (18, 68, 18, 5, 2) := by decide +kernel
theorem mi_146_23 : mI 146 23 = (27, 0, 2, 0, 0) := by decide +kernel
theorem mi_149_0 : mI 149 0 = (1, 0, 0, 0, 0) := by decide +kernel
theorem mi_149_1 : mI 149 1 = (6, 0, 2, 0, 0) := by decide +kernel
theorem mi_149_2 : mI 149 2 = (3, 0, 2, 0, 0) := by decide +kernel
theorem mi_149_3 : mI 149 3 = (5, 0, 0, 0, 0) := by decide +kernel
theorem mi_149_4 : mI 149 4 = (21, 0, 0, 0, 0) := by decide +kernel
theorem mi_149_5 : mI 149 5 = (15, 13, 3, 18, 0) := by decide +kernel
theorem mi_149_8 : mI 149 8 = (5, 0, 0, 0, 0) := by decide +kernel
theorem mi_149_9 : mI 149 9 = (3, 0, 2, 0, 0) := by decide +kernel
theorem mi_149_10 : mI 149 10 = (3, 0, 1, 0, 0) := by decide +kernel
theorem mi_149_11 : mI 149 11 = (20, 0, 0, 0, 0) := by decide +kernel
theorem mi_149_12 : mI 149 12 = (9, 1, 2, 0, 0) := by decide +kernel
theorem mi_149_15 : mI 149 15 = (16, (-13), 0, 2, 0) := by decide +kernel
theorem mi_149_18 : mI 149 18 = (27, 0, 2, 0, 0) := by decide +kernel
theorem mi_150_0 : mI 150 0 = (1, 0, 0, 0, 0) := by decide +kernel
theorem mi_150_1 : mI 150 1 = (6, 0, 2, 0, 0) := by decide +kernel
theorem mi_150_2 : mI 150 2 = (3, 0, 2, 0, 0) := by decide +kernel
theorem mi_150_3 : mI 150 3 = (5, 0, 0, 0, 0) := by decide +kernel
theorem mi_150_4 : mI 150 4 = (21, 0, 0, 0, 0) := by decide +kernel
theorem mi_150_5 : mI 150 5 = (15, 21, 3, 26, 0) := by decide +kernel
theorem mi_150_8 : mI 150 8 = (3, 0, 2, 0, 0) := by decide +kernel
theorem mi_150_9 : mI 150 9 = (5, 0, 1, 0, 0) := by decide +kernel
theorem mi_150_10 : mI 150 10 = (21, 0, 0, 0, 0) := by decide +kernel
theorem mi_150_11 : mI 150 11 = (15, 15, 3, 26, 0) := by decide +kernel
theorem mi_150_14 : mI 150 14 = (5, 0, 1, 0, 0) := by decide +kernel
theorem mi_150_15 : mI 150 15 = (3, 0, 2, 0, 0) := by decide +kernel
theorem mi_150_16 : mI 150 16 = (5, 0, 0, 0, 0) := by decide +kernel
theorem mi_150_17 : mI 150 17 = (3, 0, 2, 0, 0) := by decide +kernel
theorem mi_150_18 : mI 150 18 = (19, 0, 0, 0, 0) := by decide +kernel
theorem mi_150_19 : mI 150 19 = (20, 0, 0, 0, 0) := by decide +kernel
theorem mi_150_20 : mI 150 20 = (9, 1, 2, 0, 0) := by decide +kernel
theorem mi_150_23 : mI 150 23 = (16, (-21), 0, 2, 0) := by decide +kernel
theorem mi_150_26 : mI 150 26 = (27, 0, 2, 0, 0) := by decide +kernel
theorem mi_198_0 : mI 198 0 = (5, 0, 0, 0, 0) := by decide +kernel
theorem mi_198_1 : mI 198 1 = (17, 1207, 9, 11, 1) := by decide +kernel
theorem mi_198_4 : mI 198 4 = (1, 5, 0, 0, 0) := by decide +kernel
theorem mi_198_5 : mI 198 5 = (19, 0, 0, 0, 0) := by decide +kernel
theorem mi_198_6 : mI 198 6 = (14, 7, 5, 13, 0) := by decide +kernel
theorem mi_198_9 : mI 198 9 = (1, 1, 0, 0, 0) := by decide +kernel
theorem mi_198_10 : mI 198 10 = (16, 4, 0, 14, 0) := by decide +kernel
theorem mi_198_13 : mI 198 13 = (1, 0, 0, 0, 0) := by decide +kernel
theorem mi_198_14 : mI 198 14 = (27, 0, 0, 0, 0) := by decide +kernel
theorem mi_199_0 : mI 199 0 = (3, 0, 1, 0, 0) := by decide +kernel
theorem mi_199_1 : mI 199 1 = (12, 0, 1, 0, 0) := by decide +kernel
theorem mi_199_2 : mI 199 2 = (2, 0, 0, 0, 0) := by decide +kernel
theorem mi_199_3 : mI 199 3 = (5, 0, 0, 0, 0) := by decide +kernel
theorem mi_199_4 : mI 199 4 = (17, 1207, 9, 11, 1) := by decide +kernel
theorem mi_199_7 : mI 199 7 = (1, 3, 0, 0, 0) := by decide +kernel
theorem mi_199_8 : mI 199 8 = (19, 0, 0, 0, 0) := by decide +kernel
theorem mi_199_9 : mI 199 9 = (1, 1, 0, 0, 0) := by decide +kernel
theorem mi_199_10 : mI 199 10 = (10, 0, 1, 0, 0) := by decide +kernel
theorem mi_199_11 : mI 199 11 = (12, 0, 1, 0, 0) := by decide +kernel
theorem mi_199_12 : mI 199 12 = (26, 1321, 85, 193, 1) := by decide +kernel
theorem mi_199_15 : mI 199 15 = (27, 0, 0, 0, 0) := by decide +kernel
theorem mi_200_0 : mI 200 0 = (5, 0, 0, 0, 0) := by decide +kernel
theorem mi_200_1 : mI 200 1 = (3, 0, 1, 0, 0) := by decide +kernel
theorem mi_200_2 : mI 200 2 = (26, 1448, 89, 199, 0) := by decide +kernel
theorem mi_200_5 : mI 200 5 = (14, 20, 0, 25, 0) := by decide +kernel
theorem mi_200_8 : mI 200 8 = (5, 0, 0, 0, 0) := by decide +kernel
theorem mi_200_9 : mI 200 9 = (3, 0, 2, 0, 0) := by decide +kernel
theorem mi_200_10 : mI 200 10 = (26, 1448, 89, 199, 0) := by decide +kernel
theorem mi_200_13 : mI 200 13 = (14, 12, 0, 25, 0) := by decide +kernel
theorem mi_200_16 : mI 200 16 = (3, 0, 1, 0, 0) := by decide +kernel
theorem mi_200_17 : mI 200 17 = (3, 0, 2, 0, 0) := by decide +kernel
theorem mi_200_18 : mI 200 18 = (15, 7, 0, 25, 0) := by decide +kernel
theorem mi_200_21 : mI 200 21 = (1, 1, 0, 0, 0) := by decide +kernel
theorem mi_200_22 : mI 200 22 = (16, 4, 0, 26, 0) := by decide +kernel
theorem mi_200_25 : mI 200 25 = (1, 0, 0, 0, 0) := by decide +kernel
theorem mi_200_26 : mI 200 26 = (27, 0, 0, 0, 0) := by decide +kernel
theorem mi_201_0 : mI 201 0 = (3, 0, 1, 0, 0) := by decide +kernel
theorem mi_201_1 : mI 201 1 = (12, 0, 1, 0, 0) := by decide +kernel
theorem mi_201_2 : mI 201 2 = (2, 0, 0, 0, 0) := by decide +kernel
theorem mi_201_3 : mI 201 3 = (5, 0, 0, 0, 0) := by decide +kernel
theorem mi_201_4 : mI 201 4 = (17, 1207, 9, 11, 1) := by decide +kernel
theorem mi_201_7 : mI 201 7 = (1, 2, 0, 0, 0) := by decide +kernel
theorem mi_201_8 : mI 201 8 = (19, 0, 0, 0, 0) := by decide +kernel
theorem mi_201_9 : mI 201 9 = (1, 1, 0, 0, 0) := by decide +kernel
theorem mi_201_10 : mI 201 10 = (10, 0, 1, 0, 0) := by decide +kernel
theorem mi_201_11 : mI 201 11 = (12, 0, 1, 0, 0) := by decide +kernel
theorem mi_201_12 : mI 201 12 = (26, 1321, 85, 193, 1) := by decide +kernel
theorem mi_201_15 : mI 201 15 = (27, 0, 0, 0, 0) := by decide +kernel
theorem mi_202_0 : mI 202 0 = (3, 0, 1, 0, 0) := by decide +kernel
theorem mi_202_1 : mI 202 1 = (12, 0, 1, 0, 0) := by decide +kernel
theorem mi_202_2 : mI 202 2 = (2, 0, 0, 0, 0) := by decide +kernel
theorem mi_202_3 : mI 202 3 = (5, 0, 0, 0, 0) := by decide +kernel
theorem mi_202_4 : mI 202 4 = (17, 1207, 9, 11, 1) := by decide +kernel
theorem mi_202_7 : mI 202 7 = (1, 4, 0, 0, 0) := by decide +kernel
theorem mi_202_8 : mI 202 8 = (19, 0, 0, 0, 0) := by decide +kernel
theorem mi_202_9 : mI 202 9 = (1, 1, 0, 0, 0) := by decide +kernel
theorem mi_202_10 : mI 202 10 = (10, 0, 1, 0, 0) := by decide +kernel
theorem mi_202_11 : mI 202 11 = (12, 0, 1, 0, 0) := by decide +kernel
theorem mi_202_12 : mI 202 12 = (26, 1321, 85, 193, 1) := by decide +kernel
theorem mi_202_15 : mI 202 15 = (27, 0, 0, 0, 0) := by decide +kernel
theorem mi_204_0 : mI 204 0 = (5, 0, 0, 0, 0) := by decide +kernel
theorem mi_204_1 : mI 204 1 = (17, 1207, 9, 11, 1) := by decide +kernel
theorem mi_204_4 : mI 204 4 = (1, 6, 1, 0, 0) := by decide +kernel
theorem mi_204_6 : mI 204 6 = (1, 7, 1, 0, 0) := by decide +kernel
theorem mi_204_8 : mI 204 8 = (3, 0, 1, 0, 0) := by decide +kernel
theorem mi_204_9 : mI 204 9 = (10, 0, 2, 0, 0) := by decide +kernel
theorem mi_204_10 : mI 204 10 = (10, 0, 0, 0, 0) := by decide +kernel
theorem mi_204_11 : mI 204 11 = (19, 0, 0, 0, 0) := by decide +kernel
theorem mi_204_12 : mI 204 12 = (27, 0, 0, 0, 0) := by decide +kernel
theorem mi_205_0 : mI 205 0 = (5, 0, 0, 0, 0) := by decide +kernel
theorem mi_205_1 : mI 205 1 = (17, 1207, 9, 11, 1) := by decide +kernel
theorem mi_205_4 : mI 205 4 = (1, 6, 1, 0, 0) := by decide +kernel
theorem mi_205_6 : mI 205 6 = (1, 7, 1, 0, 0) := by decide +kernel
theorem mi_205_8 : mI 205 8 = (3, 0, 1, 0, 0) := by decide +kernel
theorem mi_205_9 : mI 205 9 = (10, 0, 2, 0, 0) := by decide +kernel
theorem mi_205_10 : mI 205 10 = (10, 0, 0, 0, 0) := by decide +kernel
theorem mi_205_11 : mI 205 11 = (1, 1, 0, 0, 0) := by decide +kernel
theorem mi_205_12 : mI 205 12 = (10, 0, 0, 0, 0) := by decide +kernel
theorem mi_205_13 : mI 205 13 = (3, 0, 2, 0, 0) := by decide +kernel
theorem mi_205_14 : mI 205 14 = (10, 0, 0, 0, 0) := by decide +kernel
theorem mi_205_15 : mI 205 15 = (19, 0, 0, 0, 0) := by decide +kernel
theorem mi_205_16 : mI 205 16 = (27, 0, 0, 0, 0) := by decide +kernel
theorem mi_207_0 : mI 207 0 = (5, 0, 0, 0, 0) := by decide +kernel
theorem mi_207_1 : mI 207 1 = (17, 1207, 9, 11, 1) := by decide +kernel
theorem mi_207_4 : mI 207 4 = (1, 102, 1, 0, 0) := by decide +kernel
theorem mi_207_6 : mI 207 6 = (1, 24, 1, 0, 0) := by decide +kernel
theorem mi_207_8 : mI 207 8 = (3, 0, 1, 0, 0) := by decide +kernel
theorem mi_207_9 : mI 207 9 = (10, 0, 2, 0, 0) := by decide +kernel
theorem mi_207_10 : mI 207 10 = (10, 0, 0, 0, 0) := by decide +kernel
theorem mi_207_11 : mI 207 11 = (3, 0, 2, 0, 0) := by decide +kernel
theorem mi_207_12 : mI 207 12 = (10, 0, 0, 0, 0) := by decide +kernel
theorem mi_207_13 : mI 207 13 = (19, 0, 0, 0, 0) := by decide +kernel
theorem mi_207_14 : mI 207 14 = (27, 0, 0, 0, 0) := by decide +kernel
theorem mi_208_0 : mI 208 0 = (5, 0, 0, 0, 0) := by decide +kernel
theorem mi_208_1 : mI 208 1 = (17, 1207, 9, 11, 1) := by decide +kernel
theorem mi_208_4 : mI 208 4 = (1, 246, 2, 0, 0) := by decide +kernel
theorem mi_208_7 : mI 208 7 = (1, 4, 0, 0, 0) := by decide +kernel
theorem mi_208_8 : mI 208 8 = (3, 0, 1, 0, 0) := by decide +kernel
theorem mi_208_9 : mI 208 9 = (10, 0, 2, 0, 0) := by decide +kernel
theorem mi_208_10 : mI 208 10 = (10, 0, 0, 0, 0) := by decide +kernel
theorem mi_208_11 : mI 208 11 = (3, 0, 2, 0, 0) := by decide +kernel
theorem mi_208_12 : mI 208 12 = (10, 0, 0, 0, 0) := by decide +kernel
theorem mi_208_13 : mI 208 13 = (19, 0, 0, 0, 0) := by decide +kernel
theorem mi_208_14 : mI 208 14 = (27, 0, 0, 0, 0) := by decide +kernel
theorem mi_221_0 : mI 221 0 = (3, 0, 1, 0, 0) := by decide +kernel
theorem mi_221_1 : mI 221 1 = (14, 10, 1, 11, 0) := by decide +kernel
theorem mi_221_4 : mI 221 4 = (5, 0, 0, 0, 0) := by decide +kernel
theorem mi_221_5 : mI 221 5 = (17, 1218, 133, 11, 12) := by decide +kernel
theorem mi_221_8 : mI 221 8 = (16, 16, 0, 24, 0) := by decide +kernel
theorem mi_221_11 : mI 221 11 = (3, 0, 1, 0, 0) := by decide +kernel
theorem mi_221_12 : mI 221 12 = (1, 1, 0, 0, 0) := by decide +kernel
theorem mi_221_13 : mI 221 13 = (15, 10, 1, 23, 0) := by decide +kernel
theorem mi_221_16 : mI 221 16 = (5, 0, 0, 0, 0) := by decide +kernel
theorem mi_221_17 : mI 221 17 = (17, 1219, 27, 11, 13) := by decide +kernel
theorem mi_221_20 : mI 221 20 = (16, 4, 0, 24, 0) := by decide +kernel
theorem mi_221_23 : mI 221 23 = (1, (-1), 0, 0, 0) := by decide +kernel
theorem mi_221_24 : mI 221 24 = (27, 0, 0, 0, 0) := by decide +kernel
theorem mi_243_0 : mI 243 0 = (5, 0, 0, 0, 0) := by decide +kernel
theorem mi_243_1 : mI 243 1 = (3, 0, 1, 0, 0) := by decide +kernel
theorem mi_243_2 : mI 243 2 = (26, 1448, 89, 199, 0) := by decide +kernel
theorem mi_243_5 : mI 243 5 = (14, 8, 1, 13, 0) := by decide +kernel
theorem mi_243_8 : mI 243 8 = (1, (-2), 1, 0, 0) := by decide +kernel
theorem mi_243_10 : mI 243 10 = (16, 30, 0, 40, 0) := by decide +kernel
theorem mi_243_13 : mI 243 13 = (3, 0, 2, 0, 0) := by decide +kernel
theorem mi_243_14 : mI 243 14 = (12, 0, 1, 0, 0) := by decide +kernel
theorem mi_243_15 : mI 243 15 = (2, 0, 0, 0, 0) := by decide +kernel
theorem mi_243_16 : mI 243 16 = (5, 0, 0, 0, 0) := by decide +kernel
theorem mi_243_17 : mI 243 17 = (3, 0, 1, 0, 0) := by decide +kernel
theorem mi_243_18 : mI 243 18 = (26, 1452, 93, 204, 0) := by decide +kernel
theorem mi_243_21 : mI 243 21 = (1, 1, 0, 0, 0) := by decide +kernel
theorem mi_243_22 : mI 243 22 = (10, 0, 1, 0, 0) := by decide +kernel
theorem mi_243_23 : mI 243 23 = (12, 0, 1, 0, 0) := by decide +kernel
theorem mi_243_24 : mI 243 24 = (26, 1321, 85, 193, 1) := by decide +kernel
theorem mi_243_27 : mI 243 27 = (14, 12, 0, 39, 0) := by decide +kernel
theorem mi_243_30 : mI 243 30 = (5, 0, 0, 0, 0) := by decide +kernel
theorem mi_243_31 : mI 243 31 = (3, 0, 1, 0, 0) := by decide +kernel
theorem mi_243_32 : mI 243 32 = (3, 0, 2, 0, 0) := by decide +kernel
theorem mi_243_33 : mI 243 33 = (26, 1456, 290, 205, 0) := by decide +kernel
theorem mi_243_36 : mI 243 36 = (16, 4, 0, 40, 0) := by decide +kernel
theorem mi_243_39 : mI 243 39 = (1, (-1), 0, 0, 0) := by decide +kernel
theorem mi_243_40 : mI 243 40 = (27, 0, 0, 0, 0) := by decide +kernel
theorem mi_244_0 : mI 244 0 = (5, 0, 0, 0, 0) := by decide +kernel
theorem mi_244_1 : mI 244 1 = (3, 0, 1, 0, 0) := by decide +kernel
theorem mi_244_2 : mI 244 2 = (26, 1448, 89, 199, 0) := by decide +kernel
theorem mi_244_5 : mI 244 5 = (14, 11, 0, 16, 0) := by decide +kernel
theorem mi_244_8 : mI 244 8 = (5, 0, 0, 0, 0) := by decide +kernel
theorem mi_244_9 : mI 244 9 = (3, 0, 1, 0, 0) := by decide +kernel
theorem mi_244_10 : mI 244 10 = (26, 1452, 93, 204, 0) := by decide +kernel
theorem mi_244_13 : mI 244 13 = (16, 5, 0, 18, 0) := by decide +kernel
theorem mi_244_16 : mI 244 16 = (1, (-2), 1, 0, 0) := by decide +kernel
theorem mi_244_18 : mI 244 18 = (27, 0, 0, 0, 0) := by decide +kernel
theorem mi_245_0 : mI 245 0 = (5, 0, 0, 0, 0) := by decide +kernel
theorem mi_245_1 : mI 245 1 = (3, 0, 1, 0, 0) := by decide +kernel
theorem mi_245_2 : mI 245 2 = (26, 1448, 89, 199, 0) := by decide +kernel
theorem mi_245_5 : mI 245 5 = (14, 15, 0, 20, 0) := by decide +kernel
theorem mi_245_8 : mI 245 8 = (3, 0, 2, 0, 0) := by decide +kernel
theorem mi_245_9 : mI 245 9 = (12, 0, 1, 0, 0) := by decide +kernel
theorem mi_245_10 : mI 245 10 = (2, 0, 0, 0, 0) := by decide +kernel
theorem mi_245_11 : mI 245 11 = (2, 2, 1, 83, 1320) := by decide +kernel
theorem mi_245_14 : mI 245 14 = (26, 1321, 85, 193, 1) := by decide +kernel
theorem mi_245_17 : mI 245 17 = (14, 6, 1, 23, 0) := by decide +kernel
theorem mi_245_20 : mI 245 20 = (1, (-2), 1, 0, 0) := by decide +kernel
theorem mi_245_22 : mI 245 22 = (27, 0, 0, 0, 0) := by decide +kernel
theorem mi_245_23 : mI 245 23 = (5, 0, 0, 0, 0) := by decide +kernel
theorem mi_245_24 : mI 245 24 = (17, 1207, 9, 11, 1) := by decide +kernel
theorem mi_245_27 : mI 245 27 = (3, 0, 2, 0, 0) := by decide +kernel
theorem mi_245_28 : mI 245 28 = (14, 8, 1, 36, 0) := by decide +kernel
theorem mi_245_31 : mI 245 31 = (1, 48, 1, 0, 0) := by decide +kernel
theorem mi_245_33 : mI 245 33 = (16, 15, 0, 48, 0) := by decide +kernel
theorem mi_245_36 : mI 245 36 = (3, 0, 2, 0, 0) := by decide +kernel
theorem mi_245_37 : mI 245 37 = (1, 1, 0, 0, 0) := by decide +kernel
theorem mi_245_38 : mI 245 38 = (15, 8, 1, 46, 0) := by decide +kernel
theorem mi_245_41 : mI 245 41 = (1, 54, 1, 0, 0) := by decide +kernel
theorem mi_245_43 : mI 245 43 = (16, 5, 0, 48, 0) := by decide +kernel
theorem mi_245_46 : mI 245 46 = (1, 60, 1, 0, 0) := by decide +kernel
theorem mi_245_48 : mI 245 48 = (3, 0, 1, 0, 0) := by decide +kernel
theorem mi_245_49 : mI 245 49 = (10, 0, 0, 0, 0) := by decide +kernel
theorem mi_245_50 : mI 245 50 = (19, 0, 0, 0, 0) := by decide +kernel
theorem mi_245_51 : mI 245 51 = (27, 0, 0, 0, 0) := by decide +kernel
theorem mi_246_0 : mI 246 0 = (5, 0, 0, 0, 0) := by decide +kernel
theorem mi_246_1 : mI 246 1 = (3, 0, 1, 0, 0) := by decide +kernel
theorem mi_246_2 : mI 246 2 = (26, 1448, 89, 199, 0) := by decide +kernel
theorem mi_246_5 : mI 246 5 = (14, 20, 0, 25, 0) := by decide +kernel
theorem mi_246_8 : mI 246 8 = (5, 0, 0, 0, 0) := by decide +kernel
theorem mi_246_9 : mI 246 9 = (3, 0, 2, 0, 0) := by decide +kernel
theorem mi_246_10 : mI 246 10 = (26, 1472, 293, 201, 0) := by decide +kernel
theorem mi_246_13 : mI 246 13 = (14, 12, 0, 25, 0) := by decide +kernel
theorem mi_246_16 : mI 246 16 = (5, 0, 0, 0, 0) := by decide +kernel
theorem mi_246_17 : mI 246 17 = (3, 0, 1, 0, 0) := by decide +kernel
theorem mi_246_18 : mI 246 18 = (3, 0, 2, 0, 0) := by decide +kernel
theorem mi_246_19 : mI 246 19 = (26, 1476, 267, 207, 0) := by decide +kernel
theorem mi_246_22 : mI 246 22 = (16, 5, 0, 27, 0) := by decide +kernel
theorem mi_246_25 : mI 246 25 = (1, (-2), 1, 0, 0) := by decide +kernel
theorem mi_246_27 : mI 246 27 = (27, 0, 0, 0, 0) := by decide +kernel
theorem mi_247_0 : mI 247 0 = (5, 0, 0, 0, 0) := by decide +kernel
theorem mi_247_1 : mI 247 1 = (3, 0, 1, 0, 0) := by decide +kernel
theorem mi_247_2 : mI 247 2 = (26, 1484, 296, 202, 0) := by decide +kernel
theorem mi_247_5 : mI 247 5 = (14, 24, 0, 29, 0) := by decide +kernel
theorem mi_247_8 : mI 247 8 = (3, 0, 2, 0, 0) := by decide +kernel
theorem mi_247_9 : mI 247 9 = (12, 0, 1, 0, 0) := by decide +kernel
theorem mi_247_10 : mI 247 10 = (2, 0, 0, 0, 0) := by decide +kernel
theorem mi_247_11 : mI 247 11 = (2, 3, 1, 299, 1488) := by decide +kernel
theorem mi_247_14 : mI 247 14 = (26, 1321, 85, 193, 1) := by decide +kernel
theorem mi_247_17 : mI 247 17 = (14, 12, 0, 29, 0) := by decide +kernel
theorem mi_247_20 : mI 247 20 = (5, 0, 0, 0, 0) := by decide +kernel
theorem mi_247_21 : mI 247 21 = (3, 0, 1, 0, 0) := by decide +kernel
theorem mi_247_22 : mI 247 22 = (3, 0, 2, 0, 0) := by decide +kernel
theorem mi_247_23 : mI 247 23 = (26, 1489, 258, 208, 0) := by decide +kernel
theorem mi_247_26 : mI 247 26 = (16, 5, 0, 31, 0) := by decide +kernel
theorem mi_247_29 : mI 247 29 = (1, (-2), 1, 0, 0) := by decide +kernel
theorem mi_247_31 : mI 247 31 = (27, 0, 0, 0, 0) := by decide +kernel
theorem mi_264_0 : mI 264 0 = (5, 0, 0, 0, 0) := by decide +kernel
theorem mi_264_1 : mI 264 1 = (3, 0, 1, 0, 0) := by decide +kernel
theorem mi_264_2 : mI 264 2 = (3, 0, 3, 0, 0) := by decide +kernel
theorem mi_264_3 : mI 264 3 = (26, 1476, 267, 207, 0) := by decide +kernel
theorem mi_264_6 : mI 264 6 = (5, 0, 0, 0, 0) := by decide +kernel
theorem mi_264_7 : mI 264 7 = (3, 0, 2, 0, 0) := by decide +kernel
theorem mi_264_8 : mI 264 8 = (3, 0, 3, 0, 0) := by decide +kernel
theorem mi_264_9 : mI 264 9 = (26, 1476, 267, 207, 0) := by decide +kernel
theorem mi_264_12 : mI 264 12 = (15, 7, 1, 19, 0) := by decide +kernel
theorem mi_264_15 : mI 264 15 = (1, 1, 0, 0, 0) := by decide +kernel
theorem mi_264_16 : mI 264 16 = (16, 4, 0, 20, 0) := by decide +kernel
theorem mi_264_19 : mI 264 19 = (1, 0, 0, 0, 0) := by decide +kernel
theorem mi_264_20 : mI 264 20 = (27, 0, 0, 0, 0) := by decide +kernel
theorem mi_270_0 : mI 270 0 = (5, 0, 0, 0, 0) := by decide +kernel
theorem mi_270_1 : mI 270 1 = (3, 0, 1, 0, 0) := by decide +kernel
theorem mi_270_2 : mI 270 2 = (3, 0, 2, 0, 0) := by decide +kernel
theorem mi_270_3 : mI 270 3 = (26, 1553, 304, 200, 0) := by decide +kernel
theorem mi_270_6 : mI 270 6 = (14, 6, 1, 12, 0) := by decide +kernel
theorem mi_270_9 : mI 270 9 = (1, (-2), 1, 0, 0) := by decide +kernel
theorem mi_270_11 : mI 270 11 = (27, 0, 0, 0, 0) := by decide +kernel
theorem mi_270_12 : mI 270 12 = (1, 0, 0, 0, 0) := by decide +kernel
theorem mi_270_13 : mI 270 13 = (6, 0, 3, 0, 0) := by decide +kernel
theorem mi_270_14 : mI 270 14 = (1, 0, 0, 0, 0) := by decide +kernel
theorem mi_270_15 : mI 270 15 = (6, 0, 4, 1, 0) := by decide +kernel
theorem mi_270_17 : mI 270 17 = (3, 0, 4, 1, 0) := by decide +kernel
theorem mi_270_19 : mI 270 19 = (5, 0, 0, 0, 0) := by decide +kernel
theorem mi_270_20 : mI 270 20 = (17, 1207, 9, 11, 1) := by decide +kernel
theorem mi_270_23 : mI 270 23 = (1, 2, 0, 0, 0) := by decide +kernel
theorem mi_270_24 : mI 270 24 = (19, 0, 0, 0, 0) := by decide +kernel
theorem mi_270_25 : mI 270 25 = (15, 31, 3, 56, 0) := by decide +kernel
theorem mi_270_28 : mI 270 28 = (3, 0, 3, 0, 0) := by decide +kernel
theorem mi_270_29 : mI 270 29 = (5, 0, 0, 0, 0) := by decide +kernel
theorem mi_270_30 : mI 270 30 = (3, 0, 1, 0, 0) := by decide +kernel
theorem mi_270_31 : mI 270 31 = (3, 0, 2, 0, 0) := by decide +kernel
theorem mi_270_32 : mI 270 32 = (3, 0, 4, 1, 0) := by decide +kernel
theorem mi_270_34 : mI 270 34 = (26, 1613, 323, 264, 0) := by decide +kernel
theorem mi_270_37 : mI 270 37 = (14, 10, 0, 47, 0) := by decide +kernel
theorem mi_270_40 : mI 270 40 = (1, 1, 0, 0, 0) := by decide +kernel
theorem mi_270_41 : mI 270 41 = (3, 0, 4, 1, 0) := by decide +kernel
theorem mi_270_43 : mI 270 43 = (10, 0, 8, 0, 0) := by decide +kernel
theorem mi_270_44 : mI 270 44 = (16, 4, 0, 48, 0) := by decide +kernel
theorem mi_270_47 : mI 270 47 = (1, 0, 0, 0, 0) := by decide +kernel
theorem mi_270_48 : mI 270 48 = (10, 0, 6, 0, 0) := by decide +kernel
theorem mi_270_49 : mI 270 49 = (6, 0, 3, 0, 0) := by decide +kernel
theorem mi_270_50 : mI 270 50 = (9, 1, 4, 0, 0) := by decide +kernel
theorem mi_270_53 : mI 270 53 = (16, (-36), 0, 17, 0) := by decide +kernel
theorem mi_270_56 : mI 270 56 = (3, 0, 3, 0, 0) := by decide +kernel
theorem mi_270_57 : mI 270 57 = (27, 0, 0, 0, 0) := by decide +kernel
theorem mi_272_0 : mI 272 0 = (5, 0, 0, 0, 0) := by decide +kernel
theorem mi_272_1 : mI 272 1 = (3, 0, 1, 0, 0) := by decide +kernel
theorem mi_272_2 : mI 272 2 = (26, 1452, 93, 204, 0) := by decide +kernel
theorem mi_272_5 : mI 272 5 = (5, 0, 0, 0, 0) := by decide +kernel
theorem mi_272_6 : mI 272 6 = (3, 0, 2, 0, 0) := by decide +kernel
theorem mi_272_7 : mI 272 7 = (26, 1452, 93, 204, 0) := by decide +kernel
theorem mi_272_10 : mI 272 10 = (15, 5, 5, 15, 0) := by decide +kernel
theorem mi_272_13 : mI 272 13 = (1, 0, 0, 0, 0) := by decide +kernel
theorem mi_272_14 : mI 272 14 = (27, 0, 0, 0, 0) := by decide +kernel
theorem mi_272_15 : mI 272 15 = (1, 0, 0, 0, 0) := by decide +kernel
theorem mi_272_16 : mI 272 16 = (6, 0, 3, 0, 0) := by decide +kernel
theorem mi_272_17 : mI 272 17 = (3, 0, 3, 0, 0) := by decide +kernel
theorem mi_272_18 : mI 272 18 = (5, 0, 0, 0, 0) := by decide +kernel
theorem mi_272_19 : mI 272 19 = (3, 0, 1, 0, 0) := by decide +kernel
theorem mi_272_20 : mI 272 20 = (26, 1452, 93, 204, 0) := by decide +kernel
theorem mi_272_23 : mI 272 23 = (15, 26, 3, 49, 0) := by decide +kernel
theorem mi_272_26 : mI 272 26 = (5, 0, 0, 0, 0) := by decide +kernel
theorem mi_272_27 : mI 272 27 = (3, 0, 1, 0, 0) := by decide +kernel
theorem mi_272_28 : mI 272 28 = (3, 0, 3, 0, 0) := by decide +kernel
theorem mi_272_29 : mI 272 29 = (26, 1456, 290, 205, 0) := by decide +kernel
theorem mi_272_32 : mI 272 32 = (5, 0, 0, 0, 0) := by decide +kernel
theorem mi_272_33 : mI 272 33 = (3, 0, 2, 0, 0) := by decide +kernel
theorem mi_272_34 : mI 272 34 = (3, 0, 3, 0, 0) := by decide +kernel
theorem mi_272_35 : mI 272 35 = (26, 1456, 290, 205, 0) := by decide +kernel
theorem mi_272_38 : mI 272 38 = (15, 5, 0, 43, 0) := by decide +kernel
theorem mi_272_41 : mI 272 41 = (1, 0, 0, 0, 0) := by decide +kernel
theorem mi_272_42 : mI 272 42 = (27, 0, 0, 0, 0) := by decide +kernel
theorem mi_272_43 : mI 272 43 = (9, 1, 3, 0, 0) := by decide +kernel
theorem mi_272_46 : mI 272 46 = (16, (-29), 0, 17, 0) := by decide +kernel
theorem mi_272_49 : mI 272 49 = (1, 1, 0, 0, 0) := by decide +kernel
theorem mi_272_50 : mI 272 50 = (27, 0, 0, 0, 0) := by decide +kernel
theorem mi_273_0 : mI 273 0 = (5, 0, 0, 0, 0) := by decide +kernel
theorem mi_273_1 : mI 273 1 = (3, 0, 1, 0, 0) := by decide +kernel
theorem mi_273_2 : mI 273 2 = (26, 1448, 89, 199, 0) := by decide +kernel
theorem mi_273_5 : mI 273 5 = (14, 6, 1, 11, 0) := by decide +kernel
theorem mi_273_8 : mI 273 8 = (1, (-2), 1, 0, 0) := by decide +kernel
theorem mi_273_10 : mI 273 10 = (27, 0, 0, 0, 0) := by decide +kernel
theorem mi_273_11 : mI 273 11 = (1, 0, 0, 0, 0) := by decide +kernel
theorem mi_273_12 : mI 273 12 = (6, 0, 2, 0, 0) := by decide +kernel
theorem mi_273_13 : mI 273 13 = (1, 0, 0, 0, 0) := by decide +kernel
theorem mi_273_14 : mI 273 14 = (6, 0, 3, 0, 0) := by decide +kernel
theorem mi_273_15 : mI 273 15 = (3, 0, 3, 0, 0) := by decide +kernel
theorem mi_273_16 : mI 273 16 = (5, 0, 0, 0, 0) := by decide +kernel
theorem mi_273_17 : mI 273 17 = (17, 1207, 9, 11, 1) := by decide +kernel
theorem mi_273_20 : mI 273 20 = (1, 3, 0, 0, 0) := by decide +kernel
theorem mi_273_21 : mI 273 21 = (19, 0, 0, 0, 0) := by decide +kernel
theorem mi_273_22 : mI 273 22 = (15, 28, 3, 50, 0) := by decide +kernel
theorem mi_273_25 : mI 273 25 = (3, 0, 2, 0, 0) := by decide +kernel
theorem mi_273_26 : mI 273 26 = (5, 0, 0, 0, 0) := by decide +kernel
theorem mi_273_27 : mI 273 27 = (3, 0, 3, 0, 0) := by decide +kernel
theorem mi_273_28 : mI 273 28 = (3, 0, 1, 0, 0) := by decide +kernel
theorem mi_273_29 : mI 273 29 = (26, 1641, 329, 272, 0) := by decide +kernel
theorem mi_273_32 : mI 273 32 = (14, 9, 0, 41, 0) := by decide +kernel
theorem mi_273_35 : mI 273 35 = (1, 1, 0, 0, 0) := by decide +kernel
theorem mi_273_36 : mI 273 36 = (3, 0, 3, 0, 0) := by decide +kernel
theorem mi_273_37 : mI 273 37 = (10, 0, 8, 0, 0) := by decide +kernel
theorem mi_273_38 : mI 273 38 = (16, 4, 0, 42, 0) := by decide +kernel
theorem mi_273_41 : mI 273 41 = (1, 0, 0, 0, 0) := by decide +kernel
theorem mi_273_42 : mI 273 42 = (10, 0, 6, 0, 0) := by decide +kernel
theorem mi_273_43 : mI 273 43 = (6, 0, 2, 0, 0) := by decide +kernel
theorem mi_273_44 : mI 273 44 = (9, 1, 3, 0, 0) := by decide +kernel
theorem mi_273_47 : mI 273 47 = (16, (-32), 0, 15, 0) := by decide +kernel
theorem mi_273_50 : mI 273 50 = (3, 0, 2, 0, 0) := by decide +kernel
theorem mi_273_51 : mI 273 51 = (27, 0, 0, 0, 0) := by decide +kernel
theorem mi_274_0 : mI 274 0 = (5, 0, 0, 0, 0) := by decide +kernel
theorem mi_274_1 : mI 274 1 = (3, 0, 1, 0, 0) := by decide +kernel
theorem mi_274_2 : mI 274 2 = (26, 1448, 89, 199, 0) := by decide +kernel
theorem mi_274_5 : mI 274 5 = (14, 6, 1, 11, 0) := by decide +kernel
theorem mi_274_8 : mI 274 8 = (1, (-2), 1, 0, 0) := by decide +kernel
theorem mi_274_10 : mI 274 10 = (27, 0, 0, 0, 0) := by decide +kernel
theorem mi_274_11 : mI 274 11 = (1, 0, 0, 0, 0) := by decide +kernel
theorem mi_274_12 : mI 274 12 = (6, 0, 2, 0, 0) := by decide +kernel
theorem mi_274_13 : mI 274 13 = (1, 0, 0, 0, 0) := by decide +kernel
theorem mi_274_14 : mI 274 14 = (6, 0, 3, 0, 0) := by decide +kernel
theorem mi_274_15 : mI 274 15 = (3, 0, 3, 0, 0) := by decide +kernel
theorem mi_274_16 : mI 274 16 = (5, 0, 0, 0, 0) := by decide +kernel
theorem mi_274_17 : mI 274 17 = (17, 1207, 9, 11, 1) := by decide +kernel
theorem mi_274_20 : mI 274 20 = (1, 3, 0, 0, 0) := by decide +kernel
theorem mi_274_21 : mI 274 21 = (19, 0, 0, 0, 0) := by decide +kernel
theorem mi_274_22 : mI 274 22 = (15, 46, 3, 68, 0) := by decide +kernel
theorem mi_274_25 : mI 274 25 = (3, 0, 2, 0, 0) := by decide +kernel
theorem mi_274_26 : mI 274 26 = (3, 0, 3, 0, 0) := by decide +kernel
theorem mi_274_27 : mI 274 27 = (3, 0, 1, 0, 0) := by decide +kernel
theorem mi_274_28 : mI 274 28 = (15, 31, 0, 59, 0) := by decide +kernel
theorem mi_274_31 : mI 274 31 = (5, 0, 0, 0, 0) := by decide +kernel
theorem mi_274_32 : mI 274 32 = (3, 0, 3, 0, 0) := by decide +kernel
theorem mi_274_33 : mI 274 33 = (26, 1452, 93, 204, 0) := by decide +kernel
theorem mi_274_36 : mI 274 36 = (5, 0, 0, 0, 0) := by decide +kernel
theorem mi_274_37 : mI 274 37 = (3, 0, 1, 0, 0) := by decide +kernel
theorem mi_274_38 : mI 274 38 = (26, 1452, 93, 204, 0) := by decide +kernel
theorem mi_274_41 : mI 274 41 = (15, 18, 1, 59, 0) := by decide +kernel
theorem mi_274_44 : mI 274 44 = (5, 0, 0, 0, 0) := by decide +kernel
theorem mi_274_45 : mI 274 45 = (3, 0, 3, 0, 0) := by decide +kernel
theorem mi_274_46 : mI 274 46 = (3, 0, 1, 0, 0) := by decide +kernel
theorem mi_274_47 : mI 274 47 = (26, 1641, 329, 272, 0) := by decide +kernel
theorem mi_274_50 : mI 274 50 = (14, 9, 0, 59, 0) := by decide +kernel
theorem mi_274_53 : mI 274 53 = (1, 1, 0, 0, 0) := by decide +kernel
theorem mi_274_54 : mI 274 54 = (3, 0, 3, 0, 0) := by decide +kernel
theorem mi_274_55 : mI 274 55 = (10, 0, 8, 0, 0) := by decide +kernel
theorem mi_274_56 : mI 274 56 = (16, 4, 0, 60, 0) := by decide +kernel
theorem mi_274_59 : mI 274 59 = (1, 0, 0, 0, 0) := by decide +kernel
theorem mi_274_60 : mI 274 60 = (10, 0, 6, 0, 0) := by decide +kernel
theorem mi_274_61 : mI 274 61 = (6, 0, 2, 0, 0) := by decide +kernel
theorem mi_274_62 : mI 274 62 = (9, 1, 3, 0, 0) := by decide +kernel
theorem mi_274_65 : mI 274 65 = (16, (-50), 0, 15, 0) := by decide +kernel
theorem mi_274_68 : mI 274 68 = (3, 0, 2, 0, 0) := by decide +kernel
theorem mi_274_69 : mI 274 69 = (27, 0, 0, 0, 0) := by decide +kernel
theorem mi_275_0 : mI 275 0 = (5, 0, 0, 0, 0) := by decide +kernel
theorem mi_275_1 : mI 275 1 = (3, 0, 1, 0, 0) := by decide +kernel
theorem mi_275_2 : mI 275 2 = (26, 1448, 89, 199, 0) := by decide +kernel
theorem mi_275_5 : mI 275 5 = (14, 6, 1, 11, 0) := by decide +kernel
theorem mi_275_8 : mI 275 8 = (1, (-2), 1, 0, 0) := by decide +kernel
theorem mi_275_10 : mI 275 10 = (27, 0, 0, 0, 0) := by decide +kernel
theorem mi_275_11 : mI 275 11 = (1, 0, 0, 0, 0) := by decide +kernel
theorem mi_275_12 : mI 275 12 = (6, 0, 2, 0, 0) := by decide +kernel
theorem mi_275_13 : mI 275 13 = (1, 0, 0, 0, 0) := by decide +kernel
theorem mi_275_14 : mI 275 14 = (6, 0, 3, 0, 0) := by decide +kernel
theorem mi_275_15 : mI 275 15 = (3, 0, 3, 0, 0) := by decide +kernel
theorem mi_275_16 : mI 275 16 = (5, 0, 0, 0, 0) := by decide +kernel
theorem mi_275_17 : mI 275 17 = (17, 1207, 9, 11, 1) := by decide +kernel
theorem mi_275_20 : mI 275 20 = (1, 3, 0, 0, 0) := by decide +kernel
theorem mi_275_21 : mI 275 21 = (19, 0, 0, 0, 0) := by decide +kernel
theorem mi_275_22 : mI 275 22 = (15, 42, 3, 64, 0) := by decide +kernel
theorem mi_275_25 : mI 275 25 = (3, 0, 2, 0, 0) := by decide +kernel
theorem mi_275_26 : mI 275 26 = (3, 0, 3, 0, 0) := by decide +kernel
theorem mi_275_27 : mI 275 27 = (3, 0, 1, 0, 0) := by decide +kernel
theorem mi_275_28 : mI 275 28 = (15, 27, 0, 55, 0) := by decide +kernel
theorem mi_275_31 : mI 275 31 = (5, 0, 0, 0, 0) := by decide +kernel
theorem mi_275_32 : mI 275 32 = (3, 0, 3, 0, 0) := by decide +kernel
theorem mi_275_33 : mI 275 33 = (3, 0, 1, 0, 0) := by decide +kernel
theorem mi_275_34 : mI 275 34 = (26, 1641, 329, 272, 0) := by decide +kernel
theorem mi_275_37 : mI 275 37 = (14, 12, 1, 49, 0) := by decide +kernel
theorem mi_275_40 : mI 275 40 = (5, 0, 0, 0, 0) := by decide +kernel
theorem mi_275_41 : mI 275 41 = (3, 0, 1, 0, 0) := by decide +kernel
theorem mi_275_42 : mI 275 42 = (3, 0, 3, 0, 0) := by decide +kernel
theorem mi_275_43 : mI 275 43 = (26, 1641, 329, 272, 0) := by decide +kernel
theorem mi_275_46 : mI 275 46 = (14, 9, 0, 55, 0) := by decide +kernel
theorem mi_275_49 : mI 275 49 = (1, 1, 0, 0, 0) := by decide +kernel
theorem mi_275_50 : mI 275 50 = (3, 0, 3, 0, 0) := by decide +kernel
theorem mi_275_51 : mI 275 51 = (10, 0, 8, 0, 0) := by decide +kernel
theorem mi_275_52 : mI 275 52 = (16, 4, 0, 56, 0) := by decide +kernel
theorem mi_275_55 : mI 275 55 = (1, 0, 0, 0, 0) := by decide +kernel
theorem mi_275_56 : mI 275 56 = (10, 0, 6, 0, 0) := by decide +kernel
theorem mi_275_57 : mI 275 57 = (6, 0, 2, 0, 0) := by decide +kernel
theorem mi_275_58 : mI 275 58 = (9, 1, 3, 0, 0) := by decide +kernel
theorem mi_275_61 : mI 275 61 = (16, (-46), 0, 15, 0) := by decide +kernel
theorem mi_275_64 : mI 275 64 = (3, 0, 2, 0, 0) := by decide +kernel
theorem mi_275_65 : mI 275 65 = (27, 0, 0, 0, 0) := by decide +kernel
theorem mi_291_0 : mI 291 0 = (5, 0, 0, 0, 0) := by decide +kernel
theorem mi_291_1 : mI 291 1 = (3, 0, 1, 0, 0) := by decide +kernel
theorem mi_291_2 : mI 291 2 = (26, 1448, 89, 199, 0) := by decide +kernel
theorem mi_291_5 : mI 291 5 = (14, 37, 0, 42, 0) := by decide +kernel
theorem mi_291_8 : mI 291 8 = (5, 0, 0, 0, 0) := by decide +kernel
theorem mi_291_9 : mI 291 9 = (3, 0, 2, 0, 0) := by decide +kernel
theorem mi_291_10 : mI 291 10 = (26, 1448, 89, 199, 0) := by decide +kernel
theorem mi_291_13 : mI 291 13 = (14, 29, 0, 42, 0) := by decide +kernel
theorem mi_291_16 : mI 291 16 = (3, 0, 3, 0, 0) := by decide +kernel
theorem mi_291_17 : mI 291 17 = (12, 0, 1, 0, 0) := by decide +kernel
theorem mi_291_18 : mI 291 18 = (2, 0, 0, 0, 0) := by decide +kernel
theorem mi_291_19 : mI 291 19 = (5, 0, 0, 0, 0) := by decide +kernel
theorem mi_291_20 : mI 291 20 = (3, 0, 2, 0, 0) := by decide +kernel
theorem mi_291_21 : mI 291 21 = (26, 1452, 93, 204, 0) := by decide +kernel
theorem mi_291_24 : mI 291 24 = (1, 1, 0, 0, 0) := by decide +kernel
theorem mi_291_25 : mI 291 25 = (10, 0, 1, 0, 0) := by decide +kernel
theorem mi_291_26 : mI 291 26 = (12, 0, 1, 0, 0) := by decide +kernel
theorem mi_291_27 : mI 291 27 = (26, 1321, 85, 193, 1) := by decide +kernel
theorem mi_291_30 : mI 291 30 = (14, 12, 0, 42, 0) := by decide +kernel
theorem mi_291_33 : mI 291 33 = (5, 0, 0, 0, 0) := by decide +kernel
theorem mi_291_34 : mI 291 34 = (3, 0, 4, 1, 0) := by decide +kernel
theorem mi_291_36 : mI 291 36 = (26, 1472, 293, 201, 0) := by decide +kernel
theorem mi_291_39 : mI 291 39 = (14, 6, 1, 45, 0) := by decide +kernel
theorem mi_291_42 : mI 291 42 = (1, (-2), 1, 0, 0) := by decide +kernel
theorem mi_291_44 : mI 291 44 = (27, 0, 0, 0, 0) := by decide +kernel
theorem mi_291_45 : mI 291 45 = (5, 0, 0, 0, 0) := by decide +kernel
theorem mi_291_46 : mI 291 46 = (17, 1207, 9, 11, 1) := by decide +kernel
theorem mi_291_49 : mI 291 49 = (1, 4, 0, 0, 0) := by decide +kernel
theorem mi_291_50 : mI 291 50 = (19, 0, 0, 0, 0) := by decide +kernel
theorem mi_291_51 : mI 291 51 = (1, 12, 1, 0, 0) := by decide +kernel
theorem mi_291_53 : mI 291 53 = (15, 6, 1, 59, 0) := by decide +kernel
theorem mi_291_56 : mI 291 56 = (1, (-3), 1, 0, 0) := by decide +kernel
theorem mi_291_58 : mI 291 58 = (27, 0, 0, 0, 0) := by decide +kernel
theorem mi_291_59 : mI 291 59 = (1, 246, 2, 0, 0) := by decide +kernel
theorem mi_291_62 : mI 291 62 = (1, 4, 0, 0, 0) := by decide +kernel
theorem mi_291_63 : mI 291 63 = (5, 0, 0, 0, 0) := by decide +kernel
theorem mi_291_64 : mI 291 64 = (17, 1207, 9, 11, 1) := by decide +kernel
theorem mi_291_67 : mI 291 67 = (1, 4, 0, 0, 0) := by decide +kernel
theorem mi_291_68 : mI 291 68 = (19, 0, 0, 0, 0) := by decide +kernel
theorem mi_291_69 : mI 291 69 = (10, 0, 2, 0, 0) := by decide +kernel
theorem mi_291_70 : mI 291 70 = (10, 0, 0, 0, 0) := by decide +kernel
theorem mi_291_71 : mI 291 71 = (6, 0, 5, 1, 0) := by decide +kernel
theorem mi_291_73 : mI 291 73 = (5, 0, 0, 0, 0) := by decide +kernel
theorem mi_291_74 : mI 291 74 = (17, 1207, 9, 11, 1) := by decide +kernel
theorem mi_291_77 : mI 291 77 = (3, 0, 5, 1, 0) := by decide +kernel
theorem mi_291_79 : mI 291 79 = (1, 0, 0, 0, 0) := by decide +kernel
theorem mi_291_80 : mI 291 80 = (10, 0, 0, 0, 0) := by decide +kernel
theorem mi_291_81 : mI 291 81 = (3, 0, 1, 0, 0) := by decide +kernel
theorem mi_291_82 : mI 291 82 = (20, 0, 0, 0, 0) := by decide +kernel
theorem mi_291_83 : mI 291 83 = (5, 0, 0, 0, 0) := by decide +kernel
theorem mi_291_84 : mI 291 84 = (17, 1207, 9, 11, 1) := by decide +kernel
theorem mi_291_87 : mI 291 87 = (3, 0, 5, 1, 0) := by decide +kernel
theorem mi_291_89 : mI 291 89 = (1, 1, 0, 0, 0) := by decide +kernel
theorem mi_291_90 : mI 291 90 = (10, 0, 0, 0, 0) := by decide +kernel
theorem mi_291_91 : mI 291 91 = (3, 0, 2, 0, 0) := by decide +kernel
theorem mi_291_92 : mI 291 92 = (20, 0, 0, 0, 0) := by decide +kernel
theorem mi_291_93 : mI 291 93 = (5, 0, 0, 0, 0) := by decide +kernel
theorem mi_291_94 : mI 291 94 = (17, 1207, 9, 11, 1) := by decide +kernel
theorem mi_291_97 : mI 291 97 = (3, 0, 5, 1, 0) := by decide +kernel
theorem mi_291_99 : mI 291 99 = (1, 2, 0, 0, 0) := by decide +kernel
theorem mi_291_100 : mI 291 100 = (10, 0, 0, 0, 0) := by decide +kernel
theorem mi_291_101 : mI 291 101 = (3, 0, 3, 0, 0) := by decide +kernel
theorem mi_291_102 : mI 291 102 = (20, 0, 0, 0, 0) := by decide +kernel
theorem mi_291_103 : mI 291 103 = (5, 0, 0, 0, 0) := by decide +kernel
theorem mi_291_104 : mI 291 104 = (17, 1207, 9, 11, 1) := by decide +kernel
theorem mi_291_107 : mI 291 107 = (3, 0, 5, 1, 0) := by decide +kernel
theorem mi_291_109 : mI 291 109 = (1, 3, 0, 0, 0) := by decide +kernel
theorem mi_291_110 : mI 291 110 = (10, 0, 0, 0, 0) := by decide +kernel
theorem mi_291_111 : mI 291 111 = (3, 0, 4, 1, 0) := by decide +kernel
theorem mi_291_113 : mI 291 113 = (20, 0, 0, 0, 0) := by decide +kernel
theorem mi_291_114 : mI 291 114 = (5, 0, 0, 0, 0) := by decide +kernel
theorem mi_291_115 : mI 291 115 = (17, 1207, 9, 11, 1) := by decide +kernel
theorem mi_291_118 : mI 291 118 = (1, 4, 0, 0, 0) := by decide +kernel
theorem mi_291_119 : mI 291 119 = (22, 0, 1, 0, 0) := by decide +kernel
theorem mi_291_120 : mI 291 120 = (19, 0, 0, 0, 0) := by decide +kernel
theorem mi_291_121 : mI 291 121 = (1, 1, 0, 0, 0) := by decide +kernel
theorem mi_291_122 : mI 291 122 = (10, 0, 0, 0, 0) := by decide +kernel
theorem mi_291_123 : mI 291 123 = (20, 0, 0, 0, 0) := by decide +kernel
theorem mi_291_124 : mI 291 124 = (5, 0, 0, 0, 0) := by decide +kernel
theorem mi_291_125 : mI 291 125 = (17, 1207, 9, 11, 1) := by decide +kernel
theorem mi_291_128 : mI 291 128 = (1, 4, 0, 0, 0) := by decide +kernel
theorem mi_291_129 : mI 291 129 = (19, 0, 0, 0, 0) := by decide +kernel
theorem mi_291_130 : mI 291 130 = (1, 1, 0, 0, 0) := by decide +kernel
theorem mi_291_131 : mI 291 131 = (10, 0, 1, 0, 0) := by decide +kernel
theorem mi_291_132 : mI 291 132 = (27, 0, 0, 0, 0) := by decide +kernel
theorem mi_292_0 : mI 292 0 = (5, 0, 0, 0, 0) := by decide +kernel
theorem mi_292_1 : mI 292 1 = (26, 1689, 350, 198, 0) := by decide +kernel
theorem mi_292_4 : mI 292 4 = (14, 6, 1, 10, 0) := by decide +kernel
theorem mi_292_7 : mI 292 7 = (1, (-2), 1, 0, 0) := by decide +kernel
theorem mi_292_9 : mI 292 9 = (27, 0, 0, 0, 0) := by decide +kernel
theorem mi_292_10 : mI 292 10 = (5, 0, 0, 0, 0) := by decide +kernel
theorem mi_292_11 : mI 292 11 = (17, 1207, 9, 11, 1) := by decide +kernel
theorem mi_292_14 : mI 292 14 = (1, 4, 0, 0, 0) := by decide +kernel
theorem mi_292_15 : mI 292 15 = (19, 0, 0, 0, 0) := by decide +kernel
theorem mi_292_16 : mI 292 16 = (14, 6, 1, 22, 0) := by decide +kernel
theorem mi_292_19 : mI 292 19 = (1, (-5), 1, 0, 0) := by decide +kernel
theorem mi_292_21 : mI 292 21 = (27, 0, 0, 0, 0) := by decide +kernel
theorem mi_292_22 : mI 292 22 = (5, 0, 0, 0, 0) := by decide +kernel
theorem mi_292_23 : mI 292 23 = (17, 1207, 9, 11, 1) := by decide +kernel
theorem mi_292_26 : mI 292 26 = (1, 4, 0, 0, 0) := by decide +kernel
theorem mi_292_27 : mI 292 27 = (22, 0, 1, 0, 0) := by decide +kernel
theorem mi_292_28 : mI 292 28 = (19, 0, 0, 0, 0) := by decide +kernel
theorem mi_292_29 : mI 292 29 = (1, 1, 0, 0, 0) := by decide +kernel
theorem mi_292_30 : mI 292 30 = (10, 0, 1, 0, 0) := by decide +kernel
theorem mi_292_31 : mI 292 31 = (20, 0, 0, 0, 0) := by decide +kernel
theorem mi_292_32 : mI 292 32 = (5, 0, 0, 0, 0) := by decide +kernel
theorem mi_292_33 : mI 292 33 = (17, 1207, 9, 11, 1) := by decide +kernel
theorem mi_292_36 : mI 292 36 = (1, 4, 0, 0, 0) := by decide +kernel
theorem mi_292_37 : mI 292 37 = (19, 0, 0, 0, 0) := by decide +kernel
theorem mi_292_38 : mI 292 38 = (27, 0, 0, 0, 0) := by decide +kernel
theorem mi_293_0 : mI 293 0 = (5, 0, 0, 0, 0) := by decide +kernel
theorem mi_293_1 : mI 293 1 = (3, 0, 1, 0, 0) := by decide +kernel
theorem mi_293_2 : mI 293 2 = (26, 1448, 89, 199, 0) := by decide +kernel
theorem mi_293_5 : mI 293 5 = (14, 29, 0, 34, 0) := by decide +kernel
theorem mi_293_8 : mI 293 8 = (3, 0, 2, 0, 0) := by decide +kernel
theorem mi_293_9 : mI 293 9 = (12, 0, 1, 0, 0) := by decide +kernel
theorem mi_293_10 : mI 293 10 = (2, 0, 0, 0, 0) := by decide +kernel
theorem mi_293_11 : mI 293 11 = (5, 0, 0, 0, 0) := by decide +kernel
theorem mi_293_12 : mI 293 12 = (17, 1207, 9, 11, 1) := by decide +kernel
theorem mi_293_15 : mI 293 15 = (1, 1, 0, 0, 0) := by decide +kernel
theorem mi_293_16 : mI 293 16 = (19, 0, 0, 0, 0) := by decide +kernel
theorem mi_293_17 : mI 293 17 = (1, 1, 0, 0, 0) := by decide +kernel
theorem mi_293_18 : mI 293 18 = (10, 0, 1, 0, 0) := by decide +kernel
theorem mi_293_19 : mI 293 19 = (12, 0, 1, 0, 0) := by decide +kernel
theorem mi_293_20 : mI 293 20 = (26, 1321, 85, 193, 1) := by decide +kernel
theorem mi_293_23 : mI 293 23 = (14, 11, 0, 34, 0) := by decide +kernel
theorem mi_293_26 : mI 293 26 = (5, 0, 0, 0, 0) := by decide +kernel
theorem mi_293_27 : mI 293 27 = (3, 0, 3, 0, 0) := by decide +kernel
theorem mi_293_28 : mI 293 28 = (26, 1472, 293, 201, 0) := by decide +kernel
theorem mi_293_31 : mI 293 31 = (14, 6, 1, 37, 0) := by decide +kernel
theorem mi_293_34 : mI 293 34 = (1, (-2), 1, 0, 0) := by decide +kernel
theorem mi_293_36 : mI 293 36 = (27, 0, 0, 0, 0) := by decide +kernel
theorem mi_293_37 : mI 293 37 = (5, 0, 0, 0, 0) := by decide +kernel
theorem mi_293_38 : mI 293 38 = (3, 0, 1, 0, 0) := by decide +kernel
theorem mi_293_39 : mI 293 39 = (3, 0, 3, 0, 0) := by decide +kernel
theorem mi_293_40 : mI 293 40 = (26, 1476, 267, 207, 0) := by decide +kernel
theorem mi_293_43 : mI 293 43 = (6, 0, 4, 1, 0) := by decide +kernel
theorem mi_293_45 : mI 293 45 = (5, 0, 0, 0, 0) := by decide +kernel
theorem mi_293_46 : mI 293 46 = (17, 1207, 9, 11, 1) := by decide +kernel
theorem mi_293_49 : mI 293 49 = (1, 102, 1, 0, 0) := by decide +kernel
theorem mi_293_51 : mI 293 51 = (1, 24, 1, 0, 0) := by decide +kernel
theorem mi_293_53 : mI 293 53 = (3, 0, 1, 0, 0) := by decide +kernel
theorem mi_293_54 : mI 293 54 = (10, 0, 2, 0, 0) := by decide +kernel
theorem mi_293_55 : mI 293 55 = (10, 0, 0, 0, 0) := by decide +kernel
theorem mi_293_56 : mI 293 56 = (3, 0, 3, 0, 0) := by decide +kernel
theorem mi_293_57 : mI 293 57 = (10, 0, 0, 0, 0) := by decide +kernel
theorem mi_293_58 : mI 293 58 = (3, 0, 2, 0, 0) := by decide +kernel
theorem mi_293_59 : mI 293 59 = (20, 0, 0, 0, 0) := by decide +kernel
theorem mi_293_60 : mI 293 60 = (3, 0, 4, 1, 0) := by decide +kernel
theorem mi_293_62 : mI 293 62 = (27, 0, 0, 0, 0) := by decide +kernel
theorem mi_294_0 : mI 294 0 = (5, 0, 0, 0, 0) := by decide +kernel
theorem mi_294_1 : mI 294 1 = (3, 0, 1, 0, 0) := by decide +kernel
theorem mi_294_2 : mI 294 2 = (3, 0, 2, 0, 0) := by decide +kernel
theorem mi_294_3 : mI 294 3 = (26, 1553, 304, 200, 0) := by decide +kernel
theorem mi_294_6 : mI 294 6 = (14, 31, 0, 37, 0) := by decide +kernel
theorem mi_294_9 : mI 294 9 = (3, 0, 3, 0, 0) := by decide +kernel
theorem mi_294_10 : mI 294 10 = (12, 0, 1, 0, 0) := by decide +kernel
theorem mi_294_11 : mI 294 11 = (2, 0, 0, 0, 0) := by decide +kernel
theorem mi_294_12 : mI 294 12 = (5, 0, 0, 0, 0) := by decide +kernel
theorem mi_294_13 : mI 294 13 = (3, 0, 2, 0, 0) := by decide +kernel
theorem mi_294_14 : mI 294 14 = (26, 1452, 93, 204, 0) := by decide +kernel
theorem mi_294_17 : mI 294 17 = (1, 1, 0, 0, 0) := by decide +kernel
theorem mi_294_18 : mI 294 18 = (10, 0, 1, 0, 0) := by decide +kernel
theorem mi_294_19 : mI 294 19 = (12, 0, 1, 0, 0) := by decide +kernel
theorem mi_294_20 : mI 294 20 = (26, 1321, 85, 193, 1) := by decide +kernel
theorem mi_294_23 : mI 294 23 = (14, 14, 0, 37, 0) := by decide +kernel
theorem mi_294_26 : mI 294 26 = (3, 0, 4, 1, 0) := by decide +kernel
theorem mi_294_28 : mI 294 28 = (12, 0, 1, 0, 0) := by decide +kernel
theorem mi_294_29 : mI 294 29 = (2, 0, 0, 0, 0) := by decide +kernel
theorem mi_294_30 : mI 294 30 = (2, 1, 0, 0, 0) := by decide +kernel
theorem mi_294_31 : mI 294 31 = (26, 1321, 85, 193, 1) := by decide +kernel
theorem mi_294_34 : mI 294 34 = (14, 6, 1, 40, 0) := by decide +kernel
theorem mi_294_37 : mI 294 37 = (1, (-2), 1, 0, 0) := by decide +kernel
theorem mi_294_39 : mI 294 39 = (27, 0, 0, 0, 0) := by decide +kernel
theorem mi_294_40 : mI 294 40 = (1, 66, 1, 0, 0) := by decide +kernel
theorem mi_294_42 : mI 294 42 = (1, 6, 1, 0, 0) := by decide +kernel
theorem mi_294_44 : mI 294 44 = (3, 0, 1, 0, 0) := by decide +kernel
theorem mi_294_45 : mI 294 45 = (10, 0, 2, 0, 0) := by decide +kernel
theorem mi_294_46 : mI 294 46 = (10, 0, 0, 0, 0) := by decide +kernel
theorem mi_294_47 : mI 294 47 = (3, 0, 2, 0, 0) := by decide +kernel
theorem mi_294_48 : mI 294 48 = (10, 0, 0, 0, 0) := by decide +kernel
theorem mi_294_49 : mI 294 49 = (6, 0, 5, 1, 0) := by decide +kernel
theorem mi_294_51 : mI 294 51 = (5, 0, 0, 0, 0) := by decide +kernel
theorem mi_294_52 : mI 294 52 = (17, 1207, 9, 11, 1) := by decide +kernel
theorem mi_294_55 : mI 294 55 = (3, 0, 5, 1, 0) := by decide +kernel
theorem mi_294_57 : mI 294 57 = (19, 0, 0, 0, 0) := by decide +kernel
theorem mi_294_58 : mI 294 58 = (3, 0, 3, 0, 0) := by decide +kernel
theorem mi_294_59 : mI 294 59 = (26, 1517, 255, 195, 1) := by decide +kernel
theorem mi_294_62 : mI 294 62 = (6, 0, 6, 1, 0) := by decide +kernel
theorem mi_294_64 : mI 294 64 = (5, 0, 0, 0, 0) := by decide +kernel
theorem mi_294_65 : mI 294 65 = (17, 1207, 9, 11, 1) := by decide +kernel
theorem mi_294_68 : mI 294 68 = (3, 0, 5, 1, 0) := by decide +kernel
theorem mi_294_70 : mI 294 70 = (5, 0, 0, 0, 0) := by decide +kernel
theorem mi_294_71 : mI 294 71 = (17, 1207, 9, 11, 1) := by decide +kernel
theorem mi_294_74 : mI 294 74 = (3, 0, 5, 1, 0) := by decide +kernel
theorem mi_294_76 : mI 294 76 = (19, 0, 0, 0, 0) := by decide +kernel
theorem mi_294_77 : mI 294 77 = (1, 1, 0, 0, 0) := by decide +kernel
theorem mi_294_78 : mI 294 78 = (3, 0, 3, 0, 0) := by decide +kernel
theorem mi_294_79 : mI 294 79 = (10, 0, 8, 0, 0) := by decide +kernel
theorem mi_294_80 : mI 294 80 = (1, (-1), 0, 0, 0) := by decide +kernel
theorem mi_294_81 : mI 294 81 = (10, 0, 7, 0, 0) := by decide +kernel
theorem mi_294_82 : mI 294 82 = (10, 0, 5, 0, 0) := by decide +kernel
theorem mi_294_83 : mI 294 83 = (3, 0, 4, 1, 0) := by decide +kernel
theorem mi_294_85 : mI 294 85 = (3, 0, 3, 0, 0) := by decide +kernel
theorem mi_294_86 : mI 294 86 = (10, 0, 8, 0, 0) := by decide +kernel
theorem mi_294_87 : mI 294 87 = (10, 0, 6, 0, 0) := by decide +kernel
theorem mi_294_88 : mI 294 88 = (20, 0, 0, 0, 0) := by decide +kernel
theorem mi_294_89 : mI 294 89 = (3, 0, 6, 1, 0) := by decide +kernel
theorem mi_294_91 : mI 294 91 = (27, 0, 0, 0, 0) := by decide +kernel
section XRA
variable {l : Launch} {D : va_G} {tys : List (ClassId × FieldType)} {A : Nat → Prop} {ad : Nat → Nat} {ws : va_W} {k d : Nat} {post : Option Value → va_W → Prop} {pc : Nat} {lv : List (Nat × Value)} {st : List Value} {a : Int} {x y z : Nat}
theorem ib0 {a b : Int} : ibF 0 (Int32.ofInt a) (Int32.ofInt b) = Int32.ofInt (a + b) := by show Int32.ofInt a + Int32.ofInt b = _; rw [← Int32.ofInt_add]
theorem ib1 {a b : Int} : ibF 1 (Int32.ofInt a) (Int32.ofInt b) = Int32.ofInt (a - b) := by show Int32.ofInt a - Int32.ofInt b = _; rw [← Int32.ofInt_sub]
theorem ib2 {a b : Int} : ibF 2 (Int32.ofInt a) (Int32.ofInt b) = Int32.ofInt (a * b) := by show Int32.ofInt a * Int32.ofInt b = _; rw [← Int32.ofInt_mul]
theorem ia2 {a b : Int} : Int32.ofInt a + Int32.ofInt b = Int32.ofInt (a + b) := by rw [← Int32.ofInt_add]
/-- an int of 32 bits -/
noncomputable abbrev I32 (v : Int) : Prop := -2147483648 ≤ v ∧ v ≤ 2147483647
theorem V_zeq {u : Int} (hi : mI k pc = (14, a, 0, y, z)) (b : I32 u) (kt : u = 0 → V l D tys A k d 0 0 post 0 0 y lv st ws) (kf : u ≠ 0 → V l D tys A k d 0 0 post 0 0 (pc + 3) lv st ws) : V l D tys A k d 0 0 post 0 0 pc lv (.int (Int32.ofInt u) :: st) ws := by
  have h : cdP 0 (Int32.ofInt u) 0 ↔ cdZ 0 (u - 0) := cdP_iff (b := 0) b.1 b.2 (by omega) (by omega)
  exact V_if hi (fun q => kt (by have : u - 0 = 0 := h.mp q; omega)) (fun q => kf (fun e => q (h.mpr (show u - 0 = 0 by omega))))
theorem V_zne {u : Int} (hi : mI k pc = (14, a, 1, y, z)) (b : I32 u) (kt : u ≠ 0 → V l D tys A k d 0 0 post 0 0 y lv st ws) (kf : u = 0 → V l D tys A k d 0 0 post 0 0 (pc + 3) lv st ws) : V l D tys A k d 0 0 post 0 0 pc lv (.int (Int32.ofInt u) :: st) ws := by
  have h : cdP 1 (Int32.ofInt u) 0 ↔ cdZ 1 (u - 0) := cdP_iff (b := 0) b.1 b.2 (by omega) (by omega)
  exact V_if hi (fun q => kt (by have : u - 0 ≠ 0 := h.mp q; omega)) (fun q => kf (by by_cases e : u = 0; exact e; exact absurd (h.mpr (show u - 0 ≠ 0 by omega)) q))
theorem V_zlt {u : Int} (hi : mI k pc = (14, a, 2, y, z)) (b : I32 u) (kt : u < 0 → V l D tys A k d 0 0 post 0 0 y lv st ws) (kf : 0 ≤ u → V l D tys A k d 0 0 post 0 0 (pc + 3) lv st ws) : V l D tys A k d 0 0 post 0 0 pc lv (.int (Int32.ofInt u) :: st) ws := by
  have h : cdP 2 (Int32.ofInt u) 0 ↔ cdZ 2 (u - 0) := cdP_iff (b := 0) b.1 b.2 (by omega) (by omega)
  exact V_if hi (fun q => kt (by have : u - 0 < 0 := h.mp q; omega)) (fun q => kf (by by_cases e : 0 ≤ u; exact e; exact absurd (h.mpr (show u - 0 < 0 by omega)) q))
theorem V_zle {u : Int} (hi : mI k pc = (14, a, 5, y, z)) (b : I32 u) (kt : u ≤ 0 → V l D tys A k d 0 0 post 0 0 y lv st ws) (kf : 0 < u → V l D tys A k d 0 0 post 0 0 (pc + 3) lv st ws) : V l D tys A k d 0 0 post 0 0 pc lv (.int (Int32.ofInt u) :: st) ws := by
  have h : cdP 5 (Int32.ofInt u) 0 ↔ cdZ 5 (u - 0) := cdP_iff (b := 0) b.1 b.2 (by omega) (by omega)
  exact V_if hi (fun q => kt (by have : u - 0 ≤ 0 := h.mp q; omega)) (fun q => kf (by by_cases e : 0 < u; exact e; exact absurd (h.mpr (show u - 0 ≤ 0 by omega)) q))
theorem V_ceq {u v : Int} (hi : mI k pc = (15, a, 0, y, z)) (b : I32 u) (c : I32 v) (kt : u = v → V l D tys A k d 0 0 post 0 0 y lv st ws) (kf : u ≠ v → V l D tys A k d 0 0 post 0 0 (pc + 3) lv st ws) : V l D tys A k d 0 0 post 0 0 pc lv (.int (Int32.ofInt v) :: .int (Int32.ofInt u) :: st) ws := by
  have h : cdP 0 (Int32.ofInt u) (Int32.ofInt v) ↔ cdZ 0 (u - v) := cdP_iff b.1 b.2 c.1 c.2
  exact V_icmp hi (fun q => kt (by have : u - v = 0 := h.mp q; omega)) (fun q => kf (fun e => q (h.mpr (show u - v = 0 by omega))))
theorem V_cne {u v : Int} (hi : mI k pc = (15, a, 1, y, z)) (b : I32 u) (c : I32 v) (kt : u ≠ v → V l D tys A k d 0 0 post 0 0 y lv st ws) (kf : u = v → V l D tys A k d 0 0 post 0 0 (pc + 3) lv st ws) : V l D tys A k d 0 0 post 0 0 pc lv (.int (Int32.ofInt v) :: .int (Int32.ofInt u) :: st) ws := by
  have h : cdP 1 (Int32.ofInt u) (Int32.ofInt v) ↔ cdZ 1 (u - v) := cdP_iff b.1 b.2 c.1 c.2
  exact V_icmp hi (fun q => kt (by have : u - v ≠ 0 := h.mp q; omega)) (fun q => kf (by by_cases e : u = v; exact e; exact absurd (h.mpr (show u - v ≠ 0 by omega)) q))
theorem V_clt {u v : Int} (hi : mI k pc = (15, a, 2, y, z)) (b : I32 u) (c : I32 v) (kt : u < v → V l D tys A k d 0 0 post 0 0 y lv st ws) (kf : v ≤ u → V l D tys A k d 0 0 post 0 0 (pc + 3) lv st ws) : V l D tys A k d 0 0 post 0 0 pc lv (.int (Int32.ofInt v) :: .int (Int32.ofInt u) :: st) ws := by
  have h : cdP 2 (Int32.ofInt u) (Int32.ofInt v) ↔ cdZ 2 (u - v) := cdP_iff b.1 b.2 c.1 c.2
  exact V_icmp hi (fun q => kt (by have : u - v < 0 := h.mp q; omega)) (fun q => kf (by by_cases e : v ≤ u; exact e; exact absurd (h.mpr (show u - v < 0 by omega)) q))
theorem V_cge {u v : Int} (hi : mI k pc = (15, a, 3, y, z)) (b : I32 u) (c : I32 v) (kt : v ≤ u → V l D tys A k d 0 0 post 0 0 y lv st ws) (kf : u < v → V l D tys A k d 0 0 post 0 0 (pc + 3) lv st ws) : V l D tys A k d 0 0 post 0 0 pc lv (.int (Int32.ofInt v) :: .int (Int32.ofInt u) :: st) ws := by
  have h : cdP 3 (Int32.ofInt u) (Int32.ofInt v) ↔ cdZ 3 (u - v) := cdP_iff b.1 b.2 c.1 c.2
  exact V_icmp hi (fun q => kt (by have : 0 ≤ u - v := h.mp q; omega)) (fun q => kf (by by_cases e : u < v; exact e; exact absurd (h.mpr (show 0 ≤ u - v by omega)) q))
theorem V_cgt {u v : Int} (hi : mI k pc = (15, a, 4, y, z)) (b : I32 u) (c : I32 v) (kt : v < u → V l D tys A k d 0 0 post 0 0 y lv st ws) (kf : u ≤ v → V l D tys A k d 0 0 post 0 0 (pc + 3) lv st ws) : V l D tys A k d 0 0 post 0 0 pc lv (.int (Int32.ofInt v) :: .int (Int32.ofInt u) :: st) ws := by
  have h : cdP 4 (Int32.ofInt u) (Int32.ofInt v) ↔ cdZ 4 (u - v) := cdP_iff b.1 b.2 c.1 c.2
  exact V_icmp hi (fun q => kt (by have : 0 < u - v := h.mp q; omega)) (fun q => kf (by by_cases e : u ≤ v; exact e; exact absurd (h.mpr (show 0 < u - v by omega)) q))
theorem V_cle {u v : Int} (hi : mI k pc = (15, a, 5, y, z)) (b : I32 u) (c : I32 v) (kt : u ≤ v → V l D tys A k d 0 0 post 0 0 y lv st ws) (kf : v < u → V l D tys A k d 0 0 post 0 0 (pc + 3) lv st ws) : V l D tys A k d 0 0 post 0 0 pc lv (.int (Int32.ofInt v) :: .int (Int32.ofInt u) :: st) ws := by
  have h : cdP 5 (Int32.ofInt u) (Int32.ofInt v) ↔ cdZ 5 (u - v) := cdP_iff b.1 b.2 c.1 c.2
  exact V_icmp hi (fun q => kt (by have : u - v ≤ 0 := h.mp q; omega)) (fun q => kf (by by_cases e : v < u; exact e; exact absurd (h.mpr (show u - v ≤ 0 by omega)) q))
theorem V_beq {b : Bool} (hi : mI k pc = (14, a, 0, y, z)) (kt : b = false → V l D tys A k d 0 0 post 0 0 y lv st ws) (kf : b = true → V l D tys A k d 0 0 post 0 0 (pc + 3) lv st ws) : V l D tys A k d 0 0 post 0 0 pc lv (.int (bI b) :: st) ws := by
  cases b
  · exact V_if hi (fun _ => kt rfl) (fun q => absurd (show (0 : Int32) = 0 from rfl) q)
  · exact V_if hi (fun q => absurd (show (1 : Int32) = 0 from q) (by decide)) (fun _ => kf rfl)
theorem V_bne {b : Bool} (hi : mI k pc = (14, a, 1, y, z)) (kt : b = true → V l D tys A k d 0 0 post 0 0 y lv st ws) (kf : b = false → V l D tys A k d 0 0 post 0 0 (pc + 3) lv st ws) : V l D tys A k d 0 0 post 0 0 pc lv (.int (bI b) :: st) ws := by
  cases b
  · exact V_if hi (fun q => absurd (show (0 : Int32) = 0 from rfl) q) (fun _ => kf rfl)
  · exact V_if hi (fun _ => kt rfl) (fun q => absurd (show (1 : Int32) ≠ 0 by decide) q)
/-- an object of the graph; a place of it that holds an int, a cell -/
noncomputable def gO (c ci nf : Nat) : Prop := ∃ s, GG[c]? = some ((0, ci, nf), s)
noncomputable def gOf (c ci nf i : Nat) (lo hi : Int) : Prop := ∃ s, GG[c]? = some ((0, ci, nf), s) ∧ segAt s i = some (0, lo, hi)
noncomputable def gOr (c ci nf i q : Nat) : Prop := ∃ s, GG[c]? = some ((0, ci, nf), s) ∧ segAt s i = some (2, ((q : Nat) : Int), ((q : Nat) : Int))
theorem V_gO {c ci nf i : Nat} {v : Value} (hi : mI k pc = (17, a, x, ci, i)) (hg : gO c ci nf) (hG : GOK ad tys GG ws) (hx : rd ws c i = some v) (kk : V l D tys A k d 0 0 post 0 0 (pc + 3) lv (v :: st) ws) : V l D tys A k d 0 0 post 0 0 pc lv (.ref (ad c) :: st) ws := by
  obtain ⟨s, e⟩ := hg
  exact V_getO hi hG e hx kk
theorem V_gR {c ci nf i q : Nat} (hi : mI k pc = (17, a, x, ci, i)) (hr : gOr c ci nf i q) (h2 : i < nf) (hG : GOK ad tys GG ws) (kk : V l D tys A k d 0 0 post 0 0 (pc + 3) lv (.ref (ad q) :: st) ws) : V l D tys A k d 0 0 post 0 0 pc lv (.ref (ad c) :: st) ws := by
  obtain ⟨s, e, hs⟩ := hr
  exact V_getO hi hG e (rrO e hs h2 hG) kk
theorem V_pO {c ci nf i : Nat} {lo hi : Int} {v : Int32} (hi0 : mI k pc = (18, a, x, ci, i)) (hs : gOf c ci nf i lo hi) (hn2 : i < nf) (hty : clTy ci i = .int) (hn : nfin ci i = true) (hG : GOK ad tys GG ws) (h1 : lo ≤ v.toInt) (h2 : v.toInt ≤ hi) (kk : ∀ w : va_W, GOK ad tys GG w → Upd1 ws w c i (.int v) → V l D tys A k d 0 0 post 0 0 (pc + 3) lv st w) : V l D tys A k d 0 0 post 0 0 pc lv (.int v :: .ref (ad c) :: st) ws := by
  obtain ⟨s, e, hs⟩ := hs
  exact V_putO hi0 hG e hs hn2 hty hn h1 h2 kk
theorem V_cO {c ci nf d' : Nat} {As : List Value} {post' : Option Value → va_W → Prop} (hi : mI k pc = (26, a, x, y, 0)) (hy : y < 352) (hk : mKind y = 0) (hci : mCi y = ci) (hcn : ci < 99) (hg : gO c ci nf) (hG : GOK ad tys GG ws) (hc : CT l D tys A y d' 0 0 (.ref (ad c) :: As) ws post') (hd : d' < d) (hn : As.length = mN y) (hst : (st.map fun v => v.category).sum ≤ 8) (kk : ∀ (r : Option Value) (ws' : va_W), post' r ws' → V l D tys A k d 0 0 post 0 0 (pc + 3) lv (r.toList ++ st) ws') : V l D tys A k d 0 0 post 0 0 pc lv (As.reverse ++ .ref (ad c) :: st) ws := by
  obtain ⟨s, e⟩ := hg
  exact V_callO hi hy hk hci hcn e hG hc hd hn hst kk
theorem celO {c ci nf j : Nat} {lo hi : Int} (hG : GOK ad tys GG ws) (hs : gOf c ci nf j lo hi) (hj : j < nf) : ∃ z : Int, rd ws c j = some (.int (Int32.ofInt z)) ∧ lo ≤ z ∧ z ≤ hi := by
  obtain ⟨s, hg, hs⟩ := hs
  obtain ⟨e, a1, a2, a3⟩ := hG c _ hg
  obtain ⟨fs, rfl, hl⟩ := a2
  have hv : fs[j]? = some fs[j] := List.getElem?_eq_getElem (by omega)
  obtain ⟨sp, q1, q2⟩ := a3 j _ hv
  rw [hs] at q1
  cases q1
  obtain ⟨z, z1, z2, z3⟩ := q2
  exact ⟨z, by rw [rd_at a1]; show fs[j]? = _; rw [hv, z1], z2, z3⟩
theorem g1o : gO 1 5 3 := ⟨_, rfl⟩
theorem g2o : gO 2 9 6 := ⟨_, rfl⟩
theorem g16o : gO 16 2 17 := ⟨_, rfl⟩
theorem g1r : gOr 1 5 3 0 2 := ⟨_, rfl, by decide +kernel⟩
theorem g1f1 : gOf 1 5 3 1 0 3 := ⟨_, rfl, by decide +kernel⟩
theorem g1f2 : gOf 1 5 3 2 (-1) 1401 := ⟨_, rfl, by decide +kernel⟩
theorem g16f0 : gOf 16 2 17 0 (-2147483648) 2147483647 := ⟨_, rfl, by decide +kernel⟩
theorem g16f1 : gOf 16 2 17 1 0 9 := ⟨_, rfl, by decide +kernel⟩
theorem g16f2 : gOf 16 2 17 2 0 4 := ⟨_, rfl, by decide +kernel⟩
theorem g16f3 : gOf 16 2 17 3 0 24 := ⟨_, rfl, by decide +kernel⟩
theorem g16f4 : gOf 16 2 17 4 0 6 := ⟨_, rfl, by decide +kernel⟩
theorem g16f5 : gOf 16 2 17 5 0 12 := ⟨_, rfl, by decide +kernel⟩
theorem g16r6 : gOr 16 2 17 6 17 := ⟨_, rfl, by decide +kernel⟩
theorem g16r7 : gOr 16 2 17 7 18 := ⟨_, rfl, by decide +kernel⟩
theorem g16r8 : gOr 16 2 17 8 19 := ⟨_, rfl, by decide +kernel⟩
theorem g16r9 : gOr 16 2 17 9 20 := ⟨_, rfl, by decide +kernel⟩
theorem g16r10 : gOr 16 2 17 10 21 := ⟨_, rfl, by decide +kernel⟩
theorem g16r11 : gOr 16 2 17 11 22 := ⟨_, rfl, by decide +kernel⟩
theorem g16r12 : gOr 16 2 17 12 23 := ⟨_, rfl, by decide +kernel⟩
theorem g16r13 : gOr 16 2 17 13 24 := ⟨_, rfl, by decide +kernel⟩
theorem g16r14 : gOr 16 2 17 14 25 := ⟨_, rfl, by decide +kernel⟩
theorem g16r15 : gOr 16 2 17 15 26 := ⟨_, rfl, by decide +kernel⟩
theorem g16r16 : gOr 16 2 17 16 27 := ⟨_, rfl, by decide +kernel⟩
theorem g2f2 : gOf 2 9 6 2 0 4 := ⟨_, rfl, by decide +kernel⟩
theorem g2f3 : gOf 2 9 6 3 0 1401 := ⟨_, rfl, by decide +kernel⟩
theorem g2f4 : gOf 2 9 6 4 0 1401 := ⟨_, rfl, by decide +kernel⟩
theorem g2f5 : gOf 2 9 6 5 (-2147483648) 2147483647 := ⟨_, rfl, by decide +kernel⟩
end XRA
section XRB
variable {l : Launch} {D : va_G} {tys : List (ClassId × FieldType)} {A : Nat → Prop} {ad : Nat → Nat} {ws : va_W}
/-- the token that the class's reader looks at -/
noncomputable def XW (n : Nat) (w : va_W) (K : Int) (S E : Nat) (N : Int) : Prop := (rd w 2 2 = some (.int (Int32.ofInt K)) ∧ rd w 2 3 = some (.int (Int32.ofInt (S : Int))) ∧ rd w 2 4 = some (.int (Int32.ofInt (E : Int))) ∧ rd w 2 5 = some (.int (Int32.ofInt N))) ∧ (0 ≤ K ∧ K ≤ 4) ∧ (S ≤ E ∧ E ≤ n) ∧ I32 N
/-- it is the token of s; it stands behind E, and the token of s comes next -/
noncomputable def XTA (s : TS) (K : Int) (S E : Nat) (N : Int) : Prop := K = s.1.1 ∧ S = s.1.2.1 ∧ E = s.1.2.2.1 ∧ (K = 2 → 0 ≤ N ∧ min 99999 N = s.1.2.2.2)
noncomputable def XTB (B : Nat → Int) (n : Nat) (s : TS) (E : Nat) : Prop := s.1.1 = tkK B n E ∧ s.1.2.1 = tkI B n E ∧ s.1.2.2.1 = tkE B n E ∧ (s.1.1 = 2 → s.1.2.2.2 = numS B n 1401 (tkI B n E) 0)
noncomputable def XF (s : TS) (w : va_W) : Prop := rd w 1 1 = some (.int (Int32.ofInt s.2.1)) ∧ rd w 1 2 = some (.int (Int32.ofInt s.2.2)) ∧ 0 ≤ s.2.1 ∧ s.2.1 ≤ 3
noncomputable def XA (ad : Nat → Nat) (tys : List (ClassId × FieldType)) (n : Nat) (B : Nat → Int) (s : TS) (w : va_W) : Prop := GOK ad tys GG w ∧ TXX w n B ∧ tsOK n s ∧ XF s w ∧ ∃ K S E N, XW n w K S E N ∧ (s.2.1 = 0 → XTA s K S E N)
noncomputable def XB (ad : Nat → Nat) (tys : List (ClassId × FieldType)) (n : Nat) (B : Nat → Int) (s : TS) (w : va_W) : Prop := GOK ad tys GG w ∧ TXX w n B ∧ tsOK n s ∧ XF s w ∧ ∃ K S E N, XW n w K S E N ∧ (s.2.1 = 0 → XTB B n s E)
noncomputable def XMK (w0 w : va_W) : Prop := ∀ c j, ¬ ((c = 2 ∧ 2 ≤ j ∧ j ≤ 5) ∨ (c = 1 ∧ 1 ≤ j ∧ j ≤ 2)) → rd w c j = rd w0 c j
theorem XMK_rf {w : va_W} : XMK w w := fun _ _ _ => rfl
theorem XMK_1 {w0 w w' : va_W} {j : Nat} {v : Value} (h : XMK w0 w) (hu : Upd1 w w' 1 j v) (h1 : 1 ≤ j) (h2 : j ≤ 2) : XMK w0 w' := fun c' j' hn => (upd_ne hu (fun q => hn (Or.inr ⟨q.1, by omega, by omega⟩))).trans (h c' j' hn)
theorem XMK_txo {w0 w w' : va_W} (h : XMK w0 w) (hu : TXO w w') : XMK w0 w' := fun c' j' hn => (hu c' j' (fun q => hn (Or.inl q))).trans (h c' j' hn)
theorem tkV_2 {B : Nat → Int} {n a : Nat} {v : Int} (h : tkK B n a = 2) : tkV B n a v = numS B n 1401 (tkI B n a) 0 := by
  unfold tkK at h
  unfold tkV
  split at h
  · exact absurd h (by decide)
  · next h1 =>
    rw [if_neg h1]
    split at h
    · exact absurd h (by decide)
    · next h2 =>
      rw [if_neg h2]
      split at h
      · next h3 => rw [if_pos h3]
      · split at h <;> exact absurd h (by decide)
/-- looked at, so it stands behind the token, and what comes next is what M has next -/
theorem XB_adv {n : Nat} {B : Nat → Int} {s : TS} {w : va_W} (h : XA ad tys n B s w) : XB ad tys n B (advS B n s) w := by
  obtain ⟨G, T, ok, F, K, S, E, N, W, t⟩ := h
  refine ⟨G, T, adv_OK ok, F, K, S, E, N, W, fun q => ?_⟩
  obtain ⟨-, -, t3, -⟩ := t q
  rw [t3]
  exact ⟨rfl, rfl, rfl, fun q2 => tkV_2 q2⟩
theorem XB_bad {n : Nat} {B : Nat → Int} {s : TS} {w : va_W} (h : XA ad tys n B s w) (hb : ¬ s.2.1 = 0) : XB ad tys n B s w := by
  obtain ⟨G, T, ok, F, K, S, E, N, W, t⟩ := h
  exact ⟨G, T, ok, F, K, S, E, N, W, fun q => absurd q hb⟩
/-- another token, once there is a fault -/
theorem XA_bad {n : Nat} {B : Nat → Int} {s : TS} {w : va_W} (h : XA ad tys n B s w) (hb : ¬ s.2.1 = 0) {t : TS} (ht : tsOK n t) (e : t.2 = s.2) : XA ad tys n B t w := by
  obtain ⟨G, T, ok, F, K, S, E, N, W, tt⟩ := h
  refine ⟨G, T, ht, ?_, K, S, E, N, W, fun q => absurd (e ▸ q) hb⟩
  unfold XF
  rw [e]
  exact F
theorem numXS_bd {B : Nat → Int} {E : Nat} : ∀ {f i : Nat} {v : Int}, (∀ j, i ≤ j → j < E → 48 ≤ B j ∧ B j ≤ 57) → 0 ≤ v → v ≤ 10000000 → 0 ≤ numXS B E f i v ∧ numXS B E f i v ≤ 10000000
  | 0, i, v, _, h0, h1 => ⟨h0, h1⟩
  | f + 1, i, v, hb, h0, h1 => by
    unfold numXS
    split
    · next hd =>
      have := hb i (Nat.le_refl _) hd.1
      exact numXS_bd (fun j a b => hb j (by omega) b) (by omega) (by omega)
    · exact ⟨h0, h1⟩
/-- the class's number of a token against the reference's -/
theorem tkN_ok {B : Nat → Int} {n a : Nat} {v : Int} {w : va_W} (T : TXX w n B) (ha : a ≤ n) (hv : I32 v) : I32 (tkN B n a v) ∧ (tkK B n a = 2 → 0 ≤ tkN B n a v ∧ min 99999 (tkN B n a v) = numS B n 1401 (tkI B n a) 0) := by
  have n14 := T.2.1
  by_cases hC : tkC B n a = -1
  · have e1 : tkN B n a v = v := by unfold tkN; rw [if_pos hC]
    have e2 : tkK B n a = 0 := by unfold tkK; rw [if_pos hC]
    rw [e1, e2]
    exact ⟨hv, fun q => absurd q (by decide)⟩
  by_cases hL : leB (tkC B n a) = true
  · have e1 : tkN B n a v = v := by unfold tkN; rw [if_neg hC, if_pos hL]
    have e2 : tkK B n a = 1 := by unfold tkK; rw [if_neg hC, if_pos hL]
    rw [e1, e2]
    exact ⟨hv, fun q => absurd q (by decide)⟩
  by_cases hD : diB (tkC B n a) = true
  · have e1 : tkN B n a v = numXS B (tkE B n a) 1401 (tkI B n a) 0 := by unfold tkN; rw [if_neg hC, if_neg hL, if_pos hD]
    have e2 : tkE B n a = runS diB B n 1401 (tkI B n a) := by unfold tkE; rw [if_neg hC, if_neg hL, if_pos hD]
    have iI : tkI B n a < n := see_lt hC
    have hE : tkE B n a ≤ n := by rw [e2]; exact run_le (by decide) (by omega)
    have hI : tkI B n a ≤ tkE B n a := by rw [e2]; exact run_ge
    have all : ∀ j, tkI B n a ≤ j → j < tkE B n a → diB (seeS B n j) = true := fun j h1 h2 => (run_all (by decide) (f := 1401) (Nat.le_of_lt iI) (by omega) h1 (by rw [e2] at h2; exact h2)).1
    have he : diB (seeS B n (tkE B n a)) = false := by rw [e2]; exact run_end (by decide) (by omega) (by omega)
    have r := num_rel T.2.2 hE he 1401 1401 (tkI B n a) 0 (by omega) (by omega) hI (by omega) all
    have b := numXS_bd (B := B) (E := tkE B n a) (f := 1401) (i := tkI B n a) (v := 0) (fun j h1 h2 => by have := dig_b T.2.2 (by omega) (all j h1 h2); omega) (by omega) (by omega)
    rw [e1]
    exact ⟨⟨by omega, by omega⟩, fun _ => ⟨r.2, r.1⟩⟩
  · have e1 : tkN B n a v = v := by unfold tkN; rw [if_neg hC, if_neg hL, if_neg hD]
    have e2 : ¬ tkK B n a = 2 := by
      unfold tkK
      rw [if_neg hC, if_neg hL, if_neg hD]
      split <;> decide
    rw [e1]
    exact ⟨hv, fun q => absurd q e2⟩
theorem advx_ct {n : Nat} {B : Nat → Int} {s : TS} {w0 : va_W} (h : XB ad tys n B s ws) (O : XMK w0 ws) : CT l D tys A 188 1 0 0 [.ref (ad 2)] ws (fun r w => r = none ∧ XA ad tys n B s w ∧ XMK w0 w) := by
  obtain ⟨G, T, ok, F, K, S, E, N, ⟨⟨w2, w3, w4, w5⟩, wk, we, wn⟩, t⟩ := h
  refine CT_post (adx_ct G T we.2 w4 w5) ?_
  rintro r w ⟨rfl, G1, O1, k2, k3, k4, k5⟩
  obtain ⟨n1, n2⟩ := tkN_ok T we.2 wn
  obtain ⟨t1, t2, -⟩ := tk_bd (B := B) (n := n) (a := E) (v := N) we.2 wn.1 wn.2
  refine ⟨rfl, ⟨G1, ⟨(O1 _ _ (by omega)).trans T.1, T.2.1, fun k hk => ⟨(O1 _ _ (by omega)).trans (T.2.2 k hk).1, (T.2.2 k hk).2⟩⟩, ok, ⟨(O1 _ _ (by omega)).trans F.1, (O1 _ _ (by omega)).trans F.2.1, F.2.2⟩, _, _, _, _, ⟨⟨k2, k3, k4, k5⟩, t1, t2.2, n1⟩, fun q => ?_⟩, XMK_txo O O1⟩
  obtain ⟨q1, q2, q3, q4⟩ := t q
  refine ⟨q1.symm, q2.symm, q3.symm, fun k => ?_⟩
  rw [q4 (q1.trans k)]
  exact n2 k
theorem num2_K {lo hi : Int} {s : TS} (h : s.2.1 = 0 → s.1.1 ≠ 2) : num2 lo hi s = errS 1 s := by
  by_cases g : s.2.1 = 0
  · have e : num1 s = errS 1 s := by unfold num1; rw [if_pos ⟨g, h g⟩]
    unfold num2
    rw [e, if_neg (fun q => err_ok (e := 1) (s := s) (by decide) q.1)]
  · have e : num1 s = s := by unfold num1; rw [if_neg (fun q => g q.1)]
    unfold num2 errS
    rw [e, if_neg (fun q => g q.1), if_neg g]
theorem num2_R {lo hi : Int} {s : TS} (h : s.2.1 = 0 → s.1.1 = 2 ∧ ¬ (lo ≤ s.1.2.2.2 ∧ s.1.2.2.2 ≤ hi)) : num2 lo hi s = errS 2 s := by
  have e : num1 s = s := by unfold num1; rw [if_neg (fun q => q.2 (h q.1).1)]
  unfold num2
  rw [e]
  by_cases g : s.2.1 = 0
  · rw [if_pos ⟨g, (h g).2⟩]
  · rw [if_neg (fun q => g q.1)]
    unfold errS
    rw [if_neg g]
theorem num2_G {lo hi : Int} {s : TS} (h : s.2.1 = 0 → s.1.1 = 2 ∧ (lo ≤ s.1.2.2.2 ∧ s.1.2.2.2 ≤ hi)) : num2 lo hi s = s := by
  have e : num1 s = s := by unfold num1; rw [if_neg (fun q => q.2 (h q.1).1)]
  unfold num2
  rw [e, if_neg (fun q => q.2 (h q.1).2)]
theorem num2_ok {lo hi : Int} {s : TS} (h : (num2 lo hi s).2.1 = 0) : s.2.1 = 0 ∧ s.1.1 = 2 ∧ (lo ≤ s.1.2.2.2 ∧ s.1.2.2.2 ≤ hi) ∧ numR lo hi s = s.1.2.2.2 ∧ num2 lo hi s = s := by
  have h0 : s.2.1 = 0 := by
    by_cases g : s.2.1 = 0
    · exact g
    · rw [num2_K (fun q => absurd q g)] at h
      exact absurd h (err_ok (by decide))
  have h1 : s.1.1 = 2 := by
    by_cases g : s.1.1 = 2
    · exact g
    · rw [num2_K (fun _ => g)] at h
      exact absurd h (err_ok (by decide))
  have h2 : lo ≤ s.1.2.2.2 ∧ s.1.2.2.2 ≤ hi := by
    by_cases g : lo ≤ s.1.2.2.2 ∧ s.1.2.2.2 ≤ hi
    · exact g
    · rw [num2_R (fun _ => ⟨h1, g⟩)] at h
      exact absurd h (err_ok (by decide))
  have e : num2 lo hi s = s := num2_G (fun _ => ⟨h1, h2⟩)
  refine ⟨h0, h1, h2, ?_, e⟩
  unfold numR
  rw [if_pos h, e]
theorem numR_bad {lo hi : Int} {s : TS} (h : ¬ (num2 lo hi s).2.1 = 0) : numR lo hi s = 0 := by
  unfold numR
  rw [if_neg h]
theorem numT_2 {B : Nat → Int} {n : Nat} {lo hi : Int} {s : TS} : numT B n lo hi s = if (num2 lo hi s).2.1 = 0 then advS B n (num2 lo hi s) else num2 lo hi s := rfl
/-- behind a number -/
theorem XB_num {n : Nat} {B : Nat → Int} {s : TS} {w : va_W} {lo hi : Int} (h : XA ad tys n B (num2 lo hi s) w) : XB ad tys n B (numT B n lo hi s) w := by
  rw [numT_2]
  split
  · exact XB_adv h
  · next q => exact XB_bad h q
/-- looked at a word -/
noncomputable def wordS (B : Nat → Int) (n : Nat) (cs : List Int32) (s : TS) : TS := if isSp B n cs s = true then s else errS 1 s
theorem XB_word {n : Nat} {B : Nat → Int} {s : TS} {w : va_W} {cs : List Int32} (h : XA ad tys n B (wordS B n cs s) w) : XB ad tys n B (needS B n cs s) w := by
  unfold wordS at h
  unfold needS
  by_cases q : isSp B n cs s = true
  · rw [if_pos q] at h ⊢
    exact XB_adv h
  · rw [if_neg q] at h ⊢
    exact XB_bad h (err_ok (by decide))
theorem num2_cg {lo hi hi' : Int} {s : TS} (h : s.2.1 = 0 → hi = hi') : num2 lo hi s = num2 lo hi' s ∧ numR lo hi s = numR lo hi' s := by
  by_cases g : s.2.1 = 0
  · rw [h g]
    exact ⟨rfl, rfl⟩
  · have e : ∀ v, num2 lo v s = errS 1 s := fun v => num2_K (fun q => absurd q g)
    have b : ¬ (errS 1 s).2.1 = 0 := err_ok (by decide)
    refine ⟨by rw [e, e], ?_⟩
    rw [numR_bad (by rw [e]; exact b), numR_bad (by rw [e]; exact b)]
end XRB
section XRC
variable {l : Launch} {D : va_G} {tys : List (ClassId × FieldType)} {A : Nat → Prop} {ad : Nat → Nat} {ws : va_W}
/-- where the class keeps what the reference keeps at j: a cell behind its hill's first, and a place in it -/
noncomputable def hxC (j : Nat) : Nat := if j < 6 then 0 else if j < 48 then (if (j - 6) % 7 = 0 then 1 else 2) else if j < 54 then 3 else if j < 60 then 4 else if j < 66 then 5 else if j < 102 then 7 else if j < 246 then 6 else 8 + (j - 246) % 4
noncomputable def hxI (j : Nat) : Nat := if j < 6 then (if j = 5 then 0 else j + 1) else if j < 48 then (if (j - 6) % 7 = 0 then (j - 6) / 7 else 6 * ((j - 6) / 7) + (j - 6) % 7 - 1) else if j < 54 then j - 48 else if j < 60 then j - 54 else if j < 66 then j - 60 else if j < 102 then j - 66 else if j < 246 then j - 102 else (j - 246) / 4
noncomputable def hxJ (c i : Nat) : Nat := if c = 0 then (if i = 0 then 5 else i - 1) else if c = 1 then 6 + 7 * i else if c = 2 then 7 + 7 * (i / 6) + i % 6 else if c = 3 then 48 + i else if c = 4 then 54 + i else if c = 5 then 60 + i else if c = 7 then 66 + i else if c = 6 then 102 + i else 246 + 4 * i + (c - 8)
theorem hxJ_all : (List.range 294).all (fun j => decide (hxJ (hxC j) (hxI j) = j) && decide (hxC j < 12)) = true := by decide +kernel
theorem hxJ_j {j : Nat} (h : j < 294) : hxJ (hxC j) (hxI j) = j ∧ hxC j < 12 := by
  have q := List.all_eq_true.mp hxJ_all j (List.mem_range.mpr h)
  rw [Bool.and_eq_true, decide_eq_true_eq, decide_eq_true_eq] at q
  exact q
noncomputable def HX (c : Nat) (g : Nat → Int) (w : va_W) : Prop := ∀ j, j < 294 → rd w (c + hxC j) (hxI j) = some (.int (Int32.ofInt (g j)))
theorem HX_upd {c j : Nat} {g : Nat → Int} {z : Int} {w w' : va_W} (h : HX c g w) (hj : j < 294) (U : Upd1 w w' (c + hxC j) (hxI j) (.int (Int32.ofInt z))) : HX c (updI g j z) w' := by
  intro i hi
  unfold updI
  by_cases e : i = j
  · rw [if_pos e, e]
    exact upd_eq U
  · rw [if_neg e]
    refine (upd_ne U (fun q => e ?_)).trans (h i hi)
    rw [← (hxJ_j hi).1, ← (hxJ_j hj).1, Nat.add_left_cancel q.1, q.2]
theorem HX_keep {c : Nat} {g : Nat → Int} {w w' : va_W} (h : HX c g w) (o : ∀ c' i, c ≤ c' → c' < c + 12 → rd w' c' i = rd w c' i) : HX c g w' := fun j hj => (o _ _ (by omega) (by have := (hxJ_j hj).2; omega)).trans (h j hj)
theorem HX_eq {c : Nat} {g g' : Nat → Int} {w : va_W} (h : HX c g w) (e : ∀ j, j < 294 → g j = g' j) : HX c g' w := fun j hj => by rw [← e j hj]; exact h j hj
/-- what the reference keeps in two rows, as one -/
noncomputable def fx (fr td : Nat → Int) (j : Nat) : Int := if 102 ≤ j ∧ j < 246 then td (j - 102) else fr j
theorem fx_upd {fr td : Nat → Int} {j : Nat} {z : Int} (h : ¬ (102 ≤ j ∧ j < 246)) : updI (fx fr td) j z = fx (updI fr j z) td := by
  funext i
  show (if i = j then z else (if 102 ≤ i ∧ i < 246 then td (i - 102) else fr i)) = (if 102 ≤ i ∧ i < 246 then td (i - 102) else (if i = j then z else fr i))
  by_cases e : i = j
  · rw [if_pos e, if_neg (by omega), if_pos e]
  · rw [if_neg e, if_neg e]
theorem fx_td {fr td : Nat → Int} {j : Nat} {z : Int} (h : j < 144) : updI (fx fr td) (102 + j) z = fx fr (updI td j z) := by
  funext i
  show (if i = 102 + j then z else (if 102 ≤ i ∧ i < 246 then td (i - 102) else fr i)) = (if 102 ≤ i ∧ i < 246 then (if i - 102 = j then z else td (i - 102)) else fr i)
  by_cases e : i = 102 + j
  · rw [if_pos e, if_pos (by omega), if_pos (by omega)]
  · rw [if_neg e]
    split
    · rw [if_neg (by omega)]
    · rfl
noncomputable def XM3 (w0 w : va_W) : Prop := ∀ c j, ¬ ((c = 2 ∧ 2 ≤ j ∧ j ≤ 5) ∨ (c = 1 ∧ 1 ≤ j ∧ j ≤ 2) ∨ (16 ≤ c ∧ c ≤ 27)) → rd w c j = rd w0 c j
noncomputable def frOK (fr : Nat → Int) : Prop := ∀ j, j < 294 → (0 ≤ fr j ∧ fr j ≤ 4095) ∧ (60 ≤ j ∧ j < 102 → fr j ≤ 127)
noncomputable def tdOK (td : Nat → Int) : Prop := ∀ j, j < 144 → -1 ≤ td j ∧ td j ≤ 3
/-- the class has read the same so far, unless there is a fault -/
noncomputable def XR (fr td : Nat → Int) (w0 : va_W) (s : TS) (w : va_W) : Prop := (s.2.1 = 0 → HX 16 (fx fr td) w ∧ frOK fr ∧ tdOK td) ∧ XM3 w0 w
theorem XR_of {fr td : Nat → Int} {w0 w w2 : va_W} {s s2 : TS} (q : XR fr td w0 s w) (O : XMK w w2) (m : s2.2.1 = 0 → s.2.1 = 0) : XR fr td w0 s2 w2 := by
  refine ⟨fun g => ?_, fun c j hn => (O c j (fun e => hn (by omega))).trans (q.2 c j hn)⟩
  obtain ⟨a, b⟩ := q.1 (m g)
  exact ⟨HX_keep a (fun c' i h1 h2 => O c' i (by omega)), b⟩
theorem XR_put {fr td : Nat → Int} {w0 w w' : va_W} {s : TS} {c j : Nat} {z : Int} (q : XR fr td w0 s w) (o : ∀ c' i, c' ≠ c → rd w' c' i = rd w c' i) (c0 : 16 ≤ c) (c1 : c ≤ 27) (u : s.2.1 = 0 → (j < 294 ∧ ¬ (102 ≤ j ∧ j < 246)) ∧ c = 16 + hxC j ∧ Upd1 w w' c (hxI j) (.int (Int32.ofInt z)) ∧ (0 ≤ z ∧ z ≤ 4095) ∧ (60 ≤ j ∧ j < 102 → z ≤ 127)) : XR (updI fr j z) td w0 s w' := by
  refine ⟨fun g => ?_, fun c' i hn => (o c' i (fun e => hn (by omega))).trans (q.2 c' i hn)⟩
  obtain ⟨a, b1, b2⟩ := q.1 g
  obtain ⟨⟨u1, u2⟩, rfl, u3, z0, z1⟩ := u g
  refine ⟨?_, fun i hi => ?_, b2⟩
  · rw [← fx_upd u2]
    exact HX_upd a u1 u3
  · unfold updI
    split
    · next e => rw [e]; exact ⟨z0, z1⟩
    · exact b1 i hi
theorem XR_ptd {fr td : Nat → Int} {w0 w w' : va_W} {s : TS} {j : Nat} {z : Int} (q : XR fr td w0 s w) (o : ∀ c' i, c' ≠ 22 → rd w' c' i = rd w c' i) (u : s.2.1 = 0 → j < 144 ∧ Upd1 w w' 22 j (.int (Int32.ofInt z)) ∧ -1 ≤ z ∧ z ≤ 3) : XR fr (updI td j z) w0 s w' := by
  refine ⟨fun g => ?_, fun c' i hn => (o c' i (fun e => hn (by omega))).trans (q.2 c' i hn)⟩
  obtain ⟨a, b1, b2⟩ := q.1 g
  obtain ⟨u1, u3, z0, z1⟩ := u g
  refine ⟨?_, b1, fun i hi => ?_⟩
  · rw [← fx_td u1]
    refine HX_upd a (by omega) ?_
    have e1 : hxC (102 + j) = 6 := by
      unfold hxC
      rw [if_neg (by omega), if_neg (by omega), if_neg (by omega), if_neg (by omega), if_neg (by omega), if_neg (by omega), if_pos (by omega)]
    have e2 : hxI (102 + j) = j := by
      unfold hxI
      rw [if_neg (by omega), if_neg (by omega), if_neg (by omega), if_neg (by omega), if_neg (by omega), if_neg (by omega), if_pos (by omega)]
      omega
    rw [e1, e2]
    exact u3
  · unfold updI
    split
    · exact ⟨z0, z1⟩
    · exact b2 i hi
theorem XR_cg {fr fr' td td' : Nat → Int} {w0 w : va_W} {s : TS} (q : XR fr td w0 s w) (e : s.2.1 = 0 → fr = fr' ∧ td = td') : XR fr' td' w0 s w := by
  refine ⟨fun g => ?_, q.2⟩
  obtain ⟨rfl, rfl⟩ := e g
  exact q.1 g
theorem XA_keep {n : Nat} {B : Nat → Int} {s : TS} {w w' : va_W} (h : XA ad tys n B s w) (G : GOK ad tys GG w') (o : ∀ c i, c ≤ 3 → rd w' c i = rd w c i) : XA ad tys n B s w' := by
  obtain ⟨-, T, ok, F, K, S, E, N, ⟨⟨w2, w3, w4, w5⟩, W⟩, t⟩ := h
  exact ⟨G, ⟨(o _ _ (by omega)).trans T.1, T.2.1, fun k hk => ⟨(o _ _ (by omega)).trans (T.2.2 k hk).1, (T.2.2 k hk).2⟩⟩, ok, ⟨(o _ _ (by omega)).trans F.1, (o _ _ (by omega)).trans F.2.1, F.2.2⟩, K, S, E, N, ⟨⟨(o _ _ (by omega)).trans w2, (o _ _ (by omega)).trans w3, (o _ _ (by omega)).trans w4, (o _ _ (by omega)).trans w5⟩, W⟩, t⟩
/-- a row of ints of the graph, all of one span -/
noncomputable def gA (c n : Nat) (lo hi : Int) : Prop := ∃ s, GG[c]? = some ((1, 0, n), s) ∧ ∀ j, j < n → segAt s j = some (0, lo, hi)
theorem gA_of {c n : Nat} {lo hi : Int} (h : GG[c]? = some ((1, 0, n), [(n, 0, lo, hi)])) : gA c n lo hi := by
  refine ⟨_, h, fun j hj => ?_⟩
  show (bif Nat.blt j n then some _ else _) = _
  rw [show Nat.blt j n = true from Nat.blt_eq.mpr hj]
  rfl
theorem a17 : gA 17 6 0 7 := gA_of rfl
theorem a18 : gA 18 36 (-2147483648) 2147483647 := gA_of rfl
theorem a19 : gA 19 6 (-2147483648) 2147483647 := gA_of rfl
theorem a20 : gA 20 6 (-2147483648) 2147483647 := gA_of rfl
theorem a21 : gA 21 6 (-2147483648) 2147483647 := gA_of rfl
theorem a22 : gA 22 144 (-2147483648) 2147483647 := gA_of rfl
theorem a23 : gA 23 36 (-2147483648) 2147483647 := gA_of rfl
theorem a24 : gA 24 12 (-2147483648) 2147483647 := gA_of rfl
theorem a25 : gA 25 12 (-2147483648) 2147483647 := gA_of rfl
theorem a26 : gA 26 12 (-2147483648) 2147483647 := gA_of rfl
theorem a27 : gA 27 12 (-2147483648) 2147483647 := gA_of rfl
theorem i32b (v : Int32) : -2147483648 ≤ v.toInt ∧ v.toInt ≤ 2147483647 := by
  have h1 := Int32.le_toInt v
  have h2 := Int32.toInt_lt v
  omega
/-- a row written, wherever -/
theorem putx_ct {c n : Nat} {lo hi : Int} {ix v : Int32} (hg : gA c n lo hi) (hG : GOK ad tys GG ws) (hn : n ≤ 100000) (b1 : lo ≤ v.toInt) (b2 : v.toInt ≤ hi) : CT l D tys A 148 0 0 0 [.ref (ad c), .int ix, .int v] ws (fun r w => r = none ∧ GOK ad tys GG w ∧ (∀ c' i, c' ≠ c → rd w c' i = rd ws c' i) ∧ (∀ j : Nat, j < n → ix = Int32.ofInt (j : Int) → Upd1 ws w c j (.int v))) := by
  obtain ⟨segs, hg, hs⟩ := hg
  have ib := i32b ix
  have out : ¬ (0 ≤ ix.toInt ∧ ix.toInt < n) → ∀ j : Nat, j < n → ix = Int32.ofInt (j : Int) → Upd1 ws ws c j (.int v) := by
    intro q j hj e
    have t : (Int32.ofInt (j : Int)).toInt = (j : Int) := Int32.toInt_ofInt_of_le (by omega) (by omega)
    rw [← e] at t
    omega
  have e0 : ix = Int32.ofInt ix.toInt := (Int32.ofInt_toInt ix).symm
  rw [e0]
  refine CT_of_V (by omega) (show (3 : Nat) ≤ mML 148 by decide +kernel) ?_
  refine V_iload (v := Int32.ofInt ix.toInt) mi_148_0 (List.Mem.tail _ (List.Mem.head _)) ?_
  refine V_zlt mi_148_1 ib (fun q => V_retV mi_148_14 ⟨rfl, hG, fun _ _ _ => rfl, by rw [← e0]; exact out (by omega)⟩) (fun q => ?_)
  refine V_iload (v := Int32.ofInt ix.toInt) mi_148_4 (List.Mem.tail _ (List.Mem.head _)) ?_
  refine V_aload (v := ad c) mi_148_5 (List.Mem.head _) ?_
  refine V_lenA mi_148_6 hG hg ?_
  refine V_cge mi_148_7 ib ⟨by omega, by omega⟩ (fun q => V_retV mi_148_14 ⟨rfl, hG, fun _ _ _ => rfl, by rw [← e0]; exact out (by omega)⟩) (fun q2 => ?_)
  refine V_aload (v := ad c) mi_148_10 (List.Mem.head _) ?_
  refine V_iload (v := Int32.ofInt ix.toInt) mi_148_11 (List.Mem.tail _ (List.Mem.head _)) ?_
  refine V_iload (v := v) mi_148_12 (List.Mem.tail _ (List.Mem.tail _ (List.Mem.head _))) ?_
  refine V_astX (j := ix.toInt.toNat) mi_148_13 (by rw [Int.toNat_of_nonneg q]) hG hg (by omega) hn (hs _ (by omega)) b1 b2 (fun w1 G1 U1 => ?_)
  refine V_retV mi_148_14 ⟨rfl, G1, fun c' i h => upd_ne U1 (fun e => h e.1), fun j hj e => ?_⟩
  have t : (Int32.ofInt (j : Int)).toInt = (j : Int) := Int32.toInt_ofInt_of_le (by omega) (by omega)
  rw [← e, ← e0] at t
  rw [show j = ix.toInt.toNat by omega]
  exact U1
/-- a row read, wherever -/
theorem atx_ct {c n : Nat} {lo hi : Int} {ix : Int32} (hg : gA c n lo hi) (hG : GOK ad tys GG ws) (hn : n ≤ 100000) : CT l D tys A 147 0 0 0 [.ref (ad c), .int ix] ws (fun r w => w = ws ∧ ∃ v : Int32, r = some (.int v) ∧ (∀ j : Nat, j < n → ix = Int32.ofInt (j : Int) → rd ws c j = some (.int v))) := by
  obtain ⟨segs, hg, hs⟩ := hg
  have ib := i32b ix
  have e0 : ix = Int32.ofInt ix.toInt := (Int32.ofInt_toInt ix).symm
  have out : ∀ v : Int32, ¬ (0 ≤ ix.toInt ∧ ix.toInt < n) → ∀ j : Nat, j < n → Int32.ofInt ix.toInt = Int32.ofInt (j : Int) → rd ws c j = some (.int v) := by
    intro v q j hj e
    have t : (Int32.ofInt (j : Int)).toInt = (j : Int) := Int32.toInt_ofInt_of_le (by omega) (by omega)
    rw [← e, ← e0] at t
    omega
  rw [e0]
  refine CT_of_V (by omega) (show (2 : Nat) ≤ mML 147 by decide +kernel) ?_
  have fin : ¬ (0 ≤ ix.toInt ∧ ix.toInt < n) → V l D tys A 147 0 0 0 (fun r w => w = ws ∧ ∃ v : Int32, r = some (.int v) ∧ (∀ j : Nat, j < n → Int32.ofInt ix.toInt = Int32.ofInt (j : Int) → rd ws c j = some (.int v))) 0 0 16 (lv_args 0 [.ref (ad c), .int (Int32.ofInt ix.toInt)]) [] ws := fun q => by
    refine V_ipush mi_147_16 ?_
    exact V_retI mi_147_17 (fun h => absurd h (by decide +kernel)) ⟨rfl, _, rfl, out _ q⟩
  refine V_iload (v := Int32.ofInt ix.toInt) mi_147_0 (List.Mem.tail _ (List.Mem.head _)) ?_
  refine V_zlt mi_147_1 ib (fun q => fin (by omega)) (fun q => ?_)
  refine V_iload (v := Int32.ofInt ix.toInt) mi_147_4 (List.Mem.tail _ (List.Mem.head _)) ?_
  refine V_aload (v := ad c) mi_147_5 (List.Mem.head _) ?_
  refine V_lenA mi_147_6 hG hg ?_
  refine V_cge mi_147_7 ib ⟨by omega, by omega⟩ (fun q2 => fin (by omega)) (fun q2 => ?_)
  refine V_aload (v := ad c) mi_147_10 (List.Mem.head _) ?_
  refine V_iload (v := Int32.ofInt ix.toInt) mi_147_11 (List.Mem.tail _ (List.Mem.head _)) ?_
  obtain ⟨z, hz, -, -⟩ := cel hG hg (j := ix.toInt.toNat) (by omega) (hs _ (by omega))
  refine V_aldX (j := ix.toInt.toNat) mi_147_12 (by rw [Int.toNat_of_nonneg q]) hG hg (by omega) hn hz ?_
  refine V_goto mi_147_13 ?_
  refine V_retI mi_147_17 (fun h => absurd h (by decide +kernel)) ⟨rfl, _, rfl, fun j hj e => ?_⟩
  have t : (Int32.ofInt (j : Int)).toInt = (j : Int) := Int32.toInt_ofInt_of_le (by omega) (by omega)
  rw [← e, ← e0] at t
  rw [show j = ix.toInt.toNat by omega]
  exact hz
end XRC
section XRE
variable {l : Launch} {D : va_G} {tys : List (ClassId × FieldType)} {A : Nat → Prop} {ad : Nat → Nat} {ws : va_W}
theorem failx_ct {n : Nat} {B : Nat → Int} {s : TS} {w0 : va_W} {e : Int} (h : XA ad tys n B s ws) (O : XMK w0 ws) (e1 : 1 ≤ e) (e3 : e ≤ 3) : CT l D tys A 146 0 0 0 [.ref (ad 1), .int (Int32.ofInt (e))] ws (fun r w => r = none ∧ XA ad tys n B (errS e s) w ∧ XMK w0 w) := by
  obtain ⟨G, T, ok, F, K, S, E, N, ⟨⟨w2, w3, w4, w5⟩, wk, we, wn⟩, t⟩ := id h
  have F3 := F.2.2
  refine CT_of_V (by omega) (show (2 : Nat) ≤ mML 146 by decide +kernel) ?_
  refine V_aload (v := ad 1) mi_146_0 (by simp [stL, lv_args, Value.category]) ?_
  refine V_gO mi_146_1 g1o h.1 (F.1) ?_
  refine V_zne mi_146_4 ⟨by omega, by omega⟩ (fun q => ?_) (fun q => ?_)
  · have e1 : errS e s = s := by unfold errS; rw [if_neg q]
    rw [e1]
    exact V_retV mi_146_23 ⟨rfl, h, O⟩
  · have te : (Int32.ofInt e).toInt = e := Int32.toInt_ofInt_of_le (by omega) (by omega)
    refine V_aload (v := ad 1) mi_146_7 (by simp [stL, lv_args, Value.category]) ?_
    refine V_iload (v := Int32.ofInt (e)) mi_146_8 (by simp [stL, lv_args, Value.category]) ?_
    refine V_pO mi_146_9 g1f1 (by omega) (by decide +kernel) (by decide +kernel) h.1 (by omega) (by omega) (fun w1 G1 U1 => ?_)
    refine V_aload (v := ad 1) mi_146_12 (by simp [stL, lv_args, Value.category]) ?_
    refine V_aload (v := ad 1) mi_146_13 (by simp [stL, lv_args, Value.category]) ?_
    refine V_gR mi_146_14 g1r (by omega) G1 ?_
    refine V_gO mi_146_17 g2o G1 ((upd_ne U1 (by omega)).trans w3) ?_
    have n14 := T.2.1
    have tS : (Int32.ofInt (S : Int)).toInt = (S : Int) := Int32.toInt_ofInt_of_le (by omega) (by omega)
    refine V_pO mi_146_20 g1f2 (by omega) (by decide +kernel) (by decide +kernel) G1 (by omega) (by omega) (fun w2' G2 U2 => ?_)
    have o : ∀ c i, ¬ (c = 1 ∧ 1 ≤ i ∧ i ≤ 2) → rd w2' c i = rd ws c i := fun c i h1 => (upd_ne U2 (fun q => h1 (by omega))).trans (upd_ne U1 (fun q => h1 (by omega)))
    have e1 : errS e s = (s.1, (e, (s.1.2.1 : Int))) := by unfold errS; rw [if_pos q]
    rw [e1]
    obtain ⟨t1, t2, t3, t4⟩ := t q
    refine V_retV mi_146_23 ⟨rfl, ⟨G2, ⟨(o _ _ (by omega)).trans T.1, T.2.1, fun k hk => ⟨(o _ _ (by omega)).trans (T.2.2 k hk).1, (T.2.2 k hk).2⟩⟩, ⟨ok.1, ok.2.1, ok.2.2.1, by show 0 ≤ e; omega, e3⟩, ⟨(upd_ne U2 (by omega)).trans (upd_eq U1), ?_, by show 0 ≤ e; omega, e3⟩, K, S, E, N, ⟨⟨(o _ _ (by omega)).trans w2, (o _ _ (by omega)).trans w3, (o _ _ (by omega)).trans w4, (o _ _ (by omega)).trans w5⟩, wk, we, wn⟩, fun q => ⟨t1, t2, t3, t4⟩⟩, XMK_1 (XMK_1 O U1 (by omega) (by omega)) U2 (by omega) (by omega)⟩
    rw [← t2]
    exact upd_eq U2
theorem nh_46 {n : Nat} {B : Nat → Int} {s : TS} {w0 w : va_W} {lo hi : Int} (hh : hi ≤ 99998) (h : XA ad tys n B (num2 lo hi s) w) (O : XMK w0 w) : V l D tys A 143 1 0 0 (fun r w => r = some (.int (Int32.ofInt (numR lo hi s))) ∧ XA ad tys n B (num2 lo hi s) w ∧ XMK w0 w) 0 0 46 (lv_args 0 [.ref (ad 1), .int (Int32.ofInt (lo)), .int (Int32.ofInt (hi))]) [] w := by
  obtain ⟨G, T, ok, F, K, S, E, N, ⟨⟨w2, w3, w4, w5⟩, wk, we, wn⟩, t⟩ := id h
  have F3 := F.2.2
  refine V_aload (v := ad 1) mi_143_46 (by simp [stL, lv_args, Value.category]) ?_
  refine V_gO mi_143_47 g1o h.1 (F.1) ?_
  refine V_zne mi_143_50 ⟨by omega, by omega⟩ (fun q => ?_) (fun q => ?_)
  · refine V_ipush mi_143_63 ?_
    exact V_retI mi_143_64 (fun q => absurd q (by decide +kernel)) ⟨by rw [numR_bad q], h, O⟩
  · refine V_aload (v := ad 1) mi_143_53 (by simp [stL, lv_args, Value.category]) ?_
    refine V_gR mi_143_54 g1r (by omega) h.1 ?_
    refine V_gO mi_143_57 g2o h.1 (w5) ?_
    refine V_goto mi_143_60 ?_
    obtain ⟨n1, n2, n3, n4, n5⟩ := num2_ok q
    obtain ⟨t1, t2, t3, t4⟩ := t q
    rw [n5] at t1 t4
    obtain ⟨t5, t6⟩ := t4 (t1.trans n2)
    have e : N = numR lo hi s := by omega
    exact V_retI mi_143_64 (fun q => absurd q (by decide +kernel)) ⟨by rw [e], h, O⟩
theorem numx_ct {n : Nat} {B : Nat → Int} {s : TS} {w0 : va_W} {lo hi : Int} (lI : I32 lo) (hI : I32 hi) (hh : hi ≤ 99998) (h : XA ad tys n B s ws) (O : XMK w0 ws) : CT l D tys A 143 1 0 0 [.ref (ad 1), .int (Int32.ofInt (lo)), .int (Int32.ofInt (hi))] ws (fun r w => r = some (.int (Int32.ofInt (numR lo hi s))) ∧ XA ad tys n B (num2 lo hi s) w ∧ XMK w0 w) := by
  obtain ⟨G, T, ok, F, K, S, E, N, ⟨⟨w2, w3, w4, w5⟩, wk, we, wn⟩, t⟩ := id h
  refine CT_of_V (by omega) (show (3 : Nat) ≤ mML 143 by decide +kernel) ?_
  refine V_aload (v := ad 1) mi_143_0 (by simp [stL, lv_args, Value.category]) ?_
  refine V_gR mi_143_1 g1r (by omega) h.1 ?_
  refine V_gO mi_143_4 g2o h.1 (w2) ?_
  refine V_ipush mi_143_7 ?_
  refine V_ceq mi_143_8 ⟨by omega, by omega⟩ ⟨by omega, by omega⟩ (fun q => ?_) (fun q => ?_)
  · refine V_aload (v := ad 1) mi_143_19 (by simp [stL, lv_args, Value.category]) ?_
    refine V_gR mi_143_20 g1r (by omega) h.1 ?_
    refine V_gO mi_143_23 g2o h.1 (w5) ?_
    refine V_iload (v := Int32.ofInt (lo)) mi_143_26 (by simp [stL, lv_args, Value.category]) ?_
    refine V_clt mi_143_27 wn lI (fun q2 => ?_) (fun q2 => ?_)
    · refine V_aload (v := ad 1) mi_143_41 (by simp [stL, lv_args, Value.category]) ?_
      refine V_ipush mi_143_42 ?_
      refine V_cO (As := [.int (Int32.ofInt (2))]) (st := []) mi_143_43 (by omega) (by decide +kernel) (by decide +kernel) (by omega) g1o h.1 (failx_ct h O (by omega) (by omega)) (by omega) (show 1 = mN 146 by decide +kernel) (by simp [Value.category]) ?_
      rintro r w1 ⟨rfl, h1, O1⟩
      refine nh_46 hh ?_ O1
      rw [num2_R (fun g => ⟨(t g).1 ▸ q, fun r => by obtain ⟨t1, t2, t3, t4⟩ := t g; obtain ⟨t5, t6⟩ := t4 q; omega⟩)]
      exact h1
    · refine V_aload (v := ad 1) mi_143_30 (by simp [stL, lv_args, Value.category]) ?_
      refine V_gR mi_143_31 g1r (by omega) h.1 ?_
      refine V_gO mi_143_34 g2o h.1 (w5) ?_
      refine V_iload (v := Int32.ofInt (hi)) mi_143_37 (by simp [stL, lv_args, Value.category]) ?_
      refine V_cle mi_143_38 wn hI (fun q3 => ?_) (fun q3 => ?_)
      · refine nh_46 hh ?_ O
        rw [num2_G (fun g => ⟨(t g).1 ▸ q, by obtain ⟨t1, t2, t3, t4⟩ := t g; obtain ⟨t5, t6⟩ := t4 q; omega⟩)]
        exact h
      · refine V_aload (v := ad 1) mi_143_41 (by simp [stL, lv_args, Value.category]) ?_
        refine V_ipush mi_143_42 ?_
        refine V_cO (As := [.int (Int32.ofInt (2))]) (st := []) mi_143_43 (by omega) (by decide +kernel) (by decide +kernel) (by omega) g1o h.1 (failx_ct h O (by omega) (by omega)) (by omega) (show 1 = mN 146 by decide +kernel) (by simp [Value.category]) ?_
        rintro r w1 ⟨rfl, h1, O1⟩
        refine nh_46 hh ?_ O1
        rw [num2_R (fun g => ⟨(t g).1 ▸ q, fun r => by obtain ⟨t1, t2, t3, t4⟩ := t g; obtain ⟨t5, t6⟩ := t4 q; omega⟩)]
        exact h1
  · refine V_aload (v := ad 1) mi_143_11 (by simp [stL, lv_args, Value.category]) ?_
    refine V_ipush mi_143_12 ?_
    refine V_cO (As := [.int (Int32.ofInt (1))]) (st := []) mi_143_13 (by omega) (by decide +kernel) (by decide +kernel) (by omega) g1o h.1 (failx_ct h O (by omega) (by omega)) (by omega) (show 1 = mN 146 by decide +kernel) (by simp [Value.category]) ?_
    rintro r w1 ⟨rfl, h1, O1⟩
    refine V_goto mi_143_16 ?_
    refine nh_46 hh ?_ O1
    rw [num2_K (fun g => (t g).1 ▸ q)]
    exact h1
theorem expx_ct {n : Nat} {B : Nat → Int} {s : TS} {w0 : va_W} {lo hi : Int} (lI : I32 lo) (hI : I32 hi) (hh : hi ≤ 99998) (h : XB ad tys n B s ws) (O : XMK w0 ws) : CT l D tys A 141 2 0 0 [.ref (ad 1), .int (Int32.ofInt (lo)), .int (Int32.ofInt (hi))] ws (fun r w => r = some (.int (Int32.ofInt (numR lo hi s))) ∧ XA ad tys n B (num2 lo hi s) w ∧ XMK w0 w) := by
  refine CT_of_V (by omega) (show (3 : Nat) ≤ mML 141 by decide +kernel) ?_
  refine V_aload (v := ad 1) mi_141_0 (by simp [stL, lv_args, Value.category]) ?_
  refine V_gR mi_141_1 g1r (by omega) h.1 ?_
  refine V_cO (As := []) (st := []) mi_141_4 (by omega) (by decide +kernel) (by decide +kernel) (by omega) g2o h.1 (advx_ct h O) (by omega) (show 0 = mN 188 by decide +kernel) (by simp [Value.category]) ?_
  rintro r w ⟨rfl, h, O⟩
  refine V_aload (v := ad 1) mi_141_7 (by simp [stL, lv_args, Value.category]) ?_
  refine V_iload (v := Int32.ofInt (lo)) mi_141_8 (by simp [stL, lv_args, Value.category]) ?_
  refine V_iload (v := Int32.ofInt (hi)) mi_141_9 (by simp [stL, lv_args, Value.category]) ?_
  refine V_cO (As := [.int (Int32.ofInt (lo)), .int (Int32.ofInt (hi))]) (st := []) mi_141_10 (by omega) (by decide +kernel) (by decide +kernel) (by omega) g1o h.1 (numx_ct lI hI hh h O) (by omega) (show 2 = mN 143 by decide +kernel) (by simp [Value.category]) ?_
  rintro r w ⟨rfl, h, O⟩
  exact V_retI mi_141_13 (fun q => absurd q (by decide +kernel)) ⟨rfl, h, O⟩
noncomputable def xw (i : Nat) : List Int32 := (xsT.getD i ("", 0, "", [])).2.2.2
theorem wordx_ct {n : Nat} {B : Nat → Int} {s : TS} {i : Nat} (hi : i < 24) (h : XA ad tys n B s ws) : CT l D tys A 191 4 0 0 [.ref (ad 2), .ref (D.2 1000 i)] ws (fun r w => w = ws ∧ ∃ b, r = some (.int (bI b)) ∧ (s.2.1 = 0 → b = isSp B n (xw i) s)) := by
  obtain ⟨G, T, ok, F, K, S, E, N, ⟨⟨w2, w3, w4, w5⟩, wk, we, wn⟩, t⟩ := id h
  obtain ⟨p1, p2, -⟩ := xq hi
  have n14 := T.2.1
  refine CT_post (isw_ct p1 p2 G T w2 wk.1 wk.2 w3 w4 (by omega) we.1) ?_
  rintro r w ⟨rfl, rfl⟩
  refine ⟨rfl, _, rfl, fun g => ?_⟩
  obtain ⟨t1, t2, t3, -⟩ := t g
  unfold isSp isB iwB
  rw [t1, t2, t3, decide_eq_true g, Bool.true_and]
  rfl
theorem ewx_ct {n : Nat} {B : Nat → Int} {s : TS} {w0 : va_W} {i : Nat} (hi : i < 24) (h : XB ad tys n B s ws) (O : XMK w0 ws) : CT l D tys A 144 5 0 0 [.ref (ad 1), .ref (D.2 1000 i)] ws (fun r w => r = none ∧ XA ad tys n B (wordS B n (xw i) s) w ∧ XMK w0 w) := by
  refine CT_of_V (by omega) (show (2 : Nat) ≤ mML 144 by decide +kernel) ?_
  refine V_aload (v := ad 1) mi_144_0 (by simp [stL, lv_args, Value.category]) ?_
  refine V_gR mi_144_1 g1r (by omega) h.1 ?_
  refine V_cO (As := []) (st := []) mi_144_4 (by omega) (by decide +kernel) (by decide +kernel) (by omega) g2o h.1 (advx_ct h O) (by omega) (show 0 = mN 188 by decide +kernel) (by simp [Value.category]) ?_
  rintro r w ⟨rfl, h, O⟩
  refine V_aload (v := ad 1) mi_144_7 (by simp [stL, lv_args, Value.category]) ?_
  refine V_gR mi_144_8 g1r (by omega) h.1 ?_
  refine V_aload (v := D.2 1000 i) mi_144_11 (by simp [stL, lv_args, Value.category]) ?_
  refine V_cO (As := [.ref (D.2 1000 i)]) (st := []) mi_144_12 (by omega) (by decide +kernel) (by decide +kernel) (by omega) g2o h.1 (wordx_ct hi h) (by omega) (show 1 = mN 191 by decide +kernel) (by simp [Value.category]) ?_
  rintro r w1 ⟨rfl, b, rfl, hb⟩
  refine V_bne mi_144_15  (fun q => ?_) (fun q => ?_)
  · refine V_retV mi_144_23 ⟨rfl, ?_, O⟩
    unfold wordS
    by_cases g : s.2.1 = 0
    · rw [if_pos ((hb g).symm.trans q)]
      exact h
    · rw [show errS 1 s = s by unfold errS; rw [if_neg g], ite_self]
      exact h
  · refine V_aload (v := ad 1) mi_144_18 (by simp [stL, lv_args, Value.category]) ?_
    refine V_ipush mi_144_19 ?_
    refine V_cO (As := [.int (Int32.ofInt (1))]) (st := []) mi_144_20 (by omega) (by decide +kernel) (by decide +kernel) (by omega) g1o h.1 (failx_ct h O (by omega) (by omega)) (by omega) (show 1 = mN 146 by decide +kernel) (by simp [Value.category]) ?_
    rintro r w1 ⟨rfl, h1, O1⟩
    refine V_retV mi_144_23 ⟨rfl, ?_, O1⟩
    unfold wordS
    by_cases g : s.2.1 = 0
    · rw [if_neg (by rw [← hb g, q]; exact Bool.false_ne_true)]
      exact h1
    · rw [show errS 1 s = s by unfold errS; rw [if_neg g]] at h1 ⊢
      rw [ite_self]
      exact h1
noncomputable def signS (s : TS) : TS := if s.2.1 = 0 ∧ s.1.1 ≠ 3 then errS 1 s else s
theorem signx_ct {n : Nat} {B : Nat → Int} {s : TS} {w0 : va_W} (h : XA ad tys n B s ws) (O : XMK w0 ws) : CT l D tys A 145 1 0 0 [.ref (ad 1)] ws (fun r w => r = none ∧ XA ad tys n B (signS s) w ∧ XMK w0 w) := by
  obtain ⟨G, T, ok, F, K, S, E, N, ⟨⟨w2, w3, w4, w5⟩, wk, we, wn⟩, t⟩ := id h
  refine CT_of_V (by omega) (show (1 : Nat) ≤ mML 145 by decide +kernel) ?_
  refine V_aload (v := ad 1) mi_145_0 (by simp [stL, lv_args, Value.category]) ?_
  refine V_gR mi_145_1 g1r (by omega) h.1 ?_
  refine V_gO mi_145_4 g2o h.1 (w2) ?_
  refine V_ipush mi_145_7 ?_
  refine V_ceq mi_145_8 ⟨by omega, by omega⟩ ⟨by omega, by omega⟩ (fun q => ?_) (fun q => ?_)
  · refine V_retV mi_145_16 ⟨rfl, ?_, O⟩
    unfold signS
    rw [if_neg (fun g => g.2 ((t g.1).1 ▸ q))]
    exact h
  · refine V_aload (v := ad 1) mi_145_11 (by simp [stL, lv_args, Value.category]) ?_
    refine V_ipush mi_145_12 ?_
    refine V_cO (As := [.int (Int32.ofInt (1))]) (st := []) mi_145_13 (by omega) (by decide +kernel) (by decide +kernel) (by omega) g1o h.1 (failx_ct h O (by omega) (by omega)) (by omega) (show 1 = mN 146 by decide +kernel) (by simp [Value.category]) ?_
    rintro r w1 ⟨rfl, h1, O1⟩
    refine V_retV mi_145_16 ⟨rfl, ?_, O1⟩
    unfold signS
    by_cases g : s.2.1 = 0
    · rw [if_pos ⟨g, (t g).1 ▸ q⟩]
      exact h1
    · rw [if_neg (fun e => g e.1)]
      rw [show errS 1 s = s by unfold errS; rw [if_neg g]] at h1
      exact h1
theorem refx_ct {n : Nat} {B : Nat → Int} {s : TS} {w0 : va_W} {f o : Int} (fI : I32 f) (oI : I32 o) (h : XA ad tys n B s ws) (O : XMK w0 ws) : CT l D tys A 142 1 0 0 [.ref (ad 1), .int (Int32.ofInt (f)), .int (Int32.ofInt (o))] ws (fun r w => r = none ∧ XA ad tys n B (if f = o then errS 2 s else s) w ∧ XMK w0 w) := by
  refine CT_of_V (by omega) (show (3 : Nat) ≤ mML 142 by decide +kernel) ?_
  refine V_iload (v := Int32.ofInt (f)) mi_142_0 (by simp [stL, lv_args, Value.category]) ?_
  refine V_iload (v := Int32.ofInt (o)) mi_142_1 (by simp [stL, lv_args, Value.category]) ?_
  refine V_cne mi_142_2 fI oI (fun q => ?_) (fun q => ?_)
  · refine V_retV mi_142_10 ⟨rfl, ?_, O⟩
    rw [if_neg q]
    exact h
  · refine V_aload (v := ad 1) mi_142_5 (by simp [stL, lv_args, Value.category]) ?_
    refine V_ipush mi_142_6 ?_
    refine V_cO (As := [.int (Int32.ofInt (2))]) (st := []) mi_142_7 (by omega) (by decide +kernel) (by decide +kernel) (by omega) g1o h.1 (failx_ct h O (by omega) (by omega)) (by omega) (show 1 = mN 146 by decide +kernel) (by simp [Value.category]) ?_
    rintro r w1 ⟨rfl, h1, O1⟩
    refine V_retV mi_142_10 ⟨rfl, ?_, O1⟩
    rw [if_pos q]
    exact h1
theorem folkx_ct {n : Nat} {B fr td : Nat → Int} {s : TS} {w0 : va_W} (h : XB ad tys n B s ws) (q : XR fr td w0 s ws) : CT l D tys A 140 2 0 0 [.ref (ad 1), .ref (ad 16)] ws (fun r w => r = some (.int (Int32.ofInt (folkR fr s))) ∧ XA ad tys n B (num2 0 (fr 3 - 1) s) w ∧ XR fr td w0 (num2 0 (fr 3 - 1) s) w) := by
  obtain ⟨p, hp, p0, p6⟩ := celO h.1 g16f4 (by omega)
  have pg : s.2.1 = 0 → p - 1 = fr 3 - 1 := fun g => by
    obtain ⟨q1, q2, -⟩ := q.1 g
    have q3 := q1 3 (by omega)
    have q4 := (q2 3 (by omega)).1
    have q3 : rd ws 16 4 = some (.int (Int32.ofInt (fr 3))) := q3
    rw [hp] at q3
    simp only [Option.some.injEq, Value.int.injEq] at q3
    have t1 : (Int32.ofInt p).toInt = p := Int32.toInt_ofInt_of_le (by omega) (by omega)
    have t2 : (Int32.ofInt (fr 3)).toInt = fr 3 := Int32.toInt_ofInt_of_le (by omega) (by omega)
    rw [q3, t2] at t1
    omega
  obtain ⟨e1, e2⟩ := num2_cg (lo := 0) pg
  refine CT_of_V (by omega) (show (2 : Nat) ≤ mML 140 by decide +kernel) ?_
  refine V_aload (v := ad 1) mi_140_0 (by simp [stL, lv_args, Value.category]) ?_
  refine V_gR mi_140_1 g1r (by omega) h.1 ?_
  refine V_cO (As := []) (st := []) mi_140_4 (by omega) (by decide +kernel) (by decide +kernel) (by omega) g2o h.1 (advx_ct h XMK_rf) (by omega) (show 0 = mN 188 by decide +kernel) (by simp [Value.category]) ?_
  rintro r w ⟨rfl, h, O⟩
  refine V_aload (v := ad 1) mi_140_7 (by simp [stL, lv_args, Value.category]) ?_
  refine V_ipush mi_140_8 ?_
  refine V_aload (v := ad 16) mi_140_9 (by simp [stL, lv_args, Value.category]) ?_
  refine V_gO mi_140_10 g16o h.1 ((O _ _ (by omega)).trans hp) ?_
  refine V_ipush mi_140_13 ?_
  refine V_ibin mi_140_14 (by omega) ?_
  rw [ib1]
  refine V_cO (As := [.int (Int32.ofInt (0)), .int (Int32.ofInt ((p) - (1)))]) (st := []) mi_140_15 (by omega) (by decide +kernel) (by decide +kernel) (by omega) g1o h.1 (numx_ct ⟨by omega, by omega⟩ ⟨by omega, by omega⟩ (by omega) h O) (by omega) (show 2 = mN 143 by decide +kernel) (by simp [Value.category]) ?_
  rintro r w ⟨rfl, h, O⟩
  rw [e2]
  rw [e1] at h
  exact V_retI mi_140_18 (fun q => absurd q (by decide +kernel)) ⟨rfl, h, XR_of q O (fun g => (num2_ok g).1)⟩
end XRE
