theorem mi_10_0 : mI 10 0 = (5, 0, 0, 0, 0) := by decide +kernel
theorem mi_10_1 : mI 10 1 = (17, 299, 24, 10, 2) := by decide +kernel
theorem mi_10_4 : mI 10 4 = (3, 0, 1, 0, 0) := by decide +kernel
theorem mi_10_5 : mI 10 5 = (26, 607, 113, 102, 0) := by decide +kernel
theorem mi_10_8 : mI 10 8 = (14, 27, 0, 35, 0) := by decide +kernel
theorem mi_10_11 : mI 10 11 = (5, 0, 0, 0, 0) := by decide +kernel
theorem mi_10_12 : mI 10 12 = (17, 299, 24, 10, 2) := by decide +kernel
theorem mi_10_15 : mI 10 15 = (3, 0, 2, 0, 0) := by decide +kernel
theorem mi_10_16 : mI 10 16 = (26, 607, 113, 102, 0) := by decide +kernel
theorem mi_10_19 : mI 10 19 = (14, 16, 0, 35, 0) := by decide +kernel
theorem mi_10_22 : mI 10 22 = (5, 0, 0, 0, 0) := by decide +kernel
theorem mi_10_23 : mI 10 23 = (17, 302, 41, 10, 5) := by decide +kernel
theorem mi_10_26 : mI 10 26 = (3, 0, 1, 0, 0) := by decide +kernel
theorem mi_10_27 : mI 10 27 = (3, 0, 2, 0, 0) := by decide +kernel
theorem mi_10_28 : mI 10 28 = (1, 0, 0, 0, 0) := by decide +kernel
theorem mi_10_29 : mI 10 29 = (26, 644, 166, 176, 0) := by decide +kernel
theorem mi_10_32 : mI 10 32 = (16, 5, 0, 37, 0) := by decide +kernel
theorem mi_10_35 : mI 10 35 = (1, (-2), 1, 0, 0) := by decide +kernel
theorem mi_10_37 : mI 10 37 = (27, 0, 0, 0, 0) := by decide +kernel
theorem mi_11_0 : mI 11 0 = (5, 0, 0, 0, 0) := by decide +kernel
theorem mi_11_1 : mI 11 1 = (17, 299, 24, 10, 2) := by decide +kernel
theorem mi_11_4 : mI 11 4 = (3, 0, 1, 0, 0) := by decide +kernel
theorem mi_11_5 : mI 11 5 = (26, 607, 113, 102, 0) := by decide +kernel
theorem mi_11_8 : mI 11 8 = (14, 25, 0, 33, 0) := by decide +kernel
theorem mi_11_11 : mI 11 11 = (5, 0, 0, 0, 0) := by decide +kernel
theorem mi_11_12 : mI 11 12 = (17, 299, 24, 10, 2) := by decide +kernel
theorem mi_11_15 : mI 11 15 = (3, 0, 2, 0, 0) := by decide +kernel
theorem mi_11_16 : mI 11 16 = (26, 607, 113, 102, 0) := by decide +kernel
theorem mi_11_19 : mI 11 19 = (14, 14, 0, 33, 0) := by decide +kernel
theorem mi_11_22 : mI 11 22 = (5, 0, 0, 0, 0) := by decide +kernel
theorem mi_11_23 : mI 11 23 = (17, 299, 24, 10, 2) := by decide +kernel
theorem mi_11_26 : mI 11 26 = (3, 0, 3, 0, 0) := by decide +kernel
theorem mi_11_27 : mI 11 27 = (26, 630, 145, 103, 0) := by decide +kernel
theorem mi_11_30 : mI 11 30 = (14, 6, 1, 36, 0) := by decide +kernel
theorem mi_11_33 : mI 11 33 = (1, (-2), 1, 0, 0) := by decide +kernel
theorem mi_11_35 : mI 11 35 = (27, 0, 0, 0, 0) := by decide +kernel
theorem mi_11_36 : mI 11 36 = (5, 0, 0, 0, 0) := by decide +kernel
theorem mi_11_37 : mI 11 37 = (17, 302, 41, 10, 5) := by decide +kernel
theorem mi_11_40 : mI 11 40 = (3, 0, 1, 0, 0) := by decide +kernel
theorem mi_11_41 : mI 11 41 = (3, 0, 2, 0, 0) := by decide +kernel
theorem mi_11_42 : mI 11 42 = (3, 0, 3, 0, 0) := by decide +kernel
theorem mi_11_43 : mI 11 43 = (1, 1, 0, 0, 0) := by decide +kernel
theorem mi_11_44 : mI 11 44 = (10, 0, 0, 0, 0) := by decide +kernel
theorem mi_11_45 : mI 11 45 = (26, 644, 166, 176, 0) := by decide +kernel
theorem mi_11_48 : mI 11 48 = (27, 0, 0, 0, 0) := by decide +kernel
theorem mi_12_0 : mI 12 0 = (5, 0, 0, 0, 0) := by decide +kernel
theorem mi_12_1 : mI 12 1 = (17, 299, 24, 10, 2) := by decide +kernel
theorem mi_12_4 : mI 12 4 = (3, 0, 1, 0, 0) := by decide +kernel
theorem mi_12_5 : mI 12 5 = (26, 636, 151, 104, 0) := by decide +kernel
theorem mi_12_8 : mI 12 8 = (14, 6, 1, 14, 0) := by decide +kernel
theorem mi_12_11 : mI 12 11 = (1, (-2), 1, 0, 0) := by decide +kernel
theorem mi_12_13 : mI 12 13 = (27, 0, 0, 0, 0) := by decide +kernel
theorem mi_12_14 : mI 12 14 = (5, 0, 0, 0, 0) := by decide +kernel
theorem mi_12_15 : mI 12 15 = (17, 302, 41, 10, 5) := by decide +kernel
theorem mi_12_18 : mI 12 18 = (17, 212, 170, 8, 3) := by decide +kernel
theorem mi_12_21 : mI 12 21 = (3, 0, 1, 0, 0) := by decide +kernel
theorem mi_12_22 : mI 12 22 = (10, 0, 9, 0, 0) := by decide +kernel
theorem mi_12_23 : mI 12 23 = (1, 1, 0, 0, 0) := by decide +kernel
theorem mi_12_24 : mI 12 24 = (10, 0, 5, 0, 0) := by decide +kernel
theorem mi_12_25 : mI 12 25 = (27, 0, 0, 0, 0) := by decide +kernel
theorem mi_13_0 : mI 13 0 = (5, 0, 0, 0, 0) := by decide +kernel
theorem mi_13_1 : mI 13 1 = (17, 299, 24, 10, 2) := by decide +kernel
theorem mi_13_4 : mI 13 4 = (3, 0, 1, 0, 0) := by decide +kernel
theorem mi_13_5 : mI 13 5 = (26, 636, 151, 104, 0) := by decide +kernel
theorem mi_13_8 : mI 13 8 = (14, 17, 0, 25, 0) := by decide +kernel
theorem mi_13_11 : mI 13 11 = (5, 0, 0, 0, 0) := by decide +kernel
theorem mi_13_12 : mI 13 12 = (17, 302, 41, 10, 5) := by decide +kernel
theorem mi_13_15 : mI 13 15 = (17, 208, 173, 8, 1) := by decide +kernel
theorem mi_13_18 : mI 13 18 = (3, 0, 1, 0, 0) := by decide +kernel
theorem mi_13_19 : mI 13 19 = (26, 625, 133, 147, 1) := by decide +kernel
theorem mi_13_22 : mI 13 22 = (16, 5, 0, 27, 0) := by decide +kernel
theorem mi_13_25 : mI 13 25 = (1, (-2), 1, 0, 0) := by decide +kernel
theorem mi_13_27 : mI 13 27 = (27, 0, 0, 0, 0) := by decide +kernel
theorem mi_14_0 : mI 14 0 = (5, 0, 0, 0, 0) := by decide +kernel
theorem mi_14_1 : mI 14 1 = (17, 299, 24, 10, 2) := by decide +kernel
theorem mi_14_4 : mI 14 4 = (3, 0, 1, 0, 0) := by decide +kernel
theorem mi_14_5 : mI 14 5 = (26, 636, 151, 104, 0) := by decide +kernel
theorem mi_14_8 : mI 14 8 = (14, 17, 0, 25, 0) := by decide +kernel
theorem mi_14_11 : mI 14 11 = (5, 0, 0, 0, 0) := by decide +kernel
theorem mi_14_12 : mI 14 12 = (17, 302, 41, 10, 5) := by decide +kernel
theorem mi_14_15 : mI 14 15 = (17, 210, 176, 8, 2) := by decide +kernel
theorem mi_14_18 : mI 14 18 = (3, 0, 1, 0, 0) := by decide +kernel
theorem mi_14_19 : mI 14 19 = (26, 625, 133, 147, 1) := by decide +kernel
theorem mi_14_22 : mI 14 22 = (16, 5, 0, 27, 0) := by decide +kernel
theorem mi_14_25 : mI 14 25 = (1, (-2), 1, 0, 0) := by decide +kernel
theorem mi_14_27 : mI 14 27 = (27, 0, 0, 0, 0) := by decide +kernel
theorem mi_15_0 : mI 15 0 = (5, 0, 0, 0, 0) := by decide +kernel
theorem mi_15_1 : mI 15 1 = (3, 0, 1, 0, 0) := by decide +kernel
theorem mi_15_2 : mI 15 2 = (3, 0, 2, 0, 0) := by decide +kernel
theorem mi_15_3 : mI 15 3 = (26, 668, 179, 74, 0) := by decide +kernel
theorem mi_15_6 : mI 15 6 = (14, 6, 1, 12, 0) := by decide +kernel
theorem mi_15_9 : mI 15 9 = (1, (-2), 1, 0, 0) := by decide +kernel
theorem mi_15_11 : mI 15 11 = (27, 0, 0, 0, 0) := by decide +kernel
theorem mi_15_12 : mI 15 12 = (5, 0, 0, 0, 0) := by decide +kernel
theorem mi_15_13 : mI 15 13 = (17, 302, 41, 10, 5) := by decide +kernel
theorem mi_15_16 : mI 15 16 = (5, 0, 0, 0, 0) := by decide +kernel
theorem mi_15_17 : mI 15 17 = (17, 299, 24, 10, 2) := by decide +kernel
theorem mi_15_20 : mI 15 20 = (3, 0, 1, 0, 0) := by decide +kernel
theorem mi_15_21 : mI 15 21 = (3, 0, 2, 0, 0) := by decide +kernel
theorem mi_15_22 : mI 15 22 = (26, 672, 182, 178, 0) := by decide +kernel
theorem mi_15_25 : mI 15 25 = (26, 682, 186, 75, 1) := by decide +kernel
theorem mi_15_28 : mI 15 28 = (27, 0, 0, 0, 0) := by decide +kernel
theorem mi_16_0 : mI 16 0 = (5, 0, 0, 0, 0) := by decide +kernel
theorem mi_16_1 : mI 16 1 = (17, 299, 24, 10, 2) := by decide +kernel
theorem mi_16_4 : mI 16 4 = (3, 0, 1, 0, 0) := by decide +kernel
theorem mi_16_5 : mI 16 5 = (26, 607, 113, 102, 0) := by decide +kernel
theorem mi_16_8 : mI 16 8 = (14, 14, 0, 22, 0) := by decide +kernel
theorem mi_16_11 : mI 16 11 = (5, 0, 0, 0, 0) := by decide +kernel
theorem mi_16_12 : mI 16 12 = (17, 299, 24, 10, 2) := by decide +kernel
theorem mi_16_15 : mI 16 15 = (3, 0, 2, 0, 0) := by decide +kernel
theorem mi_16_16 : mI 16 16 = (26, 630, 145, 103, 0) := by decide +kernel
theorem mi_16_19 : mI 16 19 = (14, 6, 1, 25, 0) := by decide +kernel
theorem mi_16_22 : mI 16 22 = (1, (-2), 1, 0, 0) := by decide +kernel
theorem mi_16_24 : mI 16 24 = (27, 0, 0, 0, 0) := by decide +kernel
theorem mi_16_25 : mI 16 25 = (5, 0, 0, 0, 0) := by decide +kernel
theorem mi_16_26 : mI 16 26 = (17, 302, 41, 10, 5) := by decide +kernel
theorem mi_16_29 : mI 16 29 = (5, 0, 0, 0, 0) := by decide +kernel
theorem mi_16_30 : mI 16 30 = (17, 299, 24, 10, 2) := by decide +kernel
theorem mi_16_33 : mI 16 33 = (3, 0, 1, 0, 0) := by decide +kernel
theorem mi_16_34 : mI 16 34 = (3, 0, 2, 0, 0) := by decide +kernel
theorem mi_16_35 : mI 16 35 = (1, 1, 0, 0, 0) := by decide +kernel
theorem mi_16_36 : mI 16 36 = (10, 0, 0, 0, 0) := by decide +kernel
theorem mi_16_37 : mI 16 37 = (26, 689, 189, 179, 0) := by decide +kernel
theorem mi_16_40 : mI 16 40 = (27, 0, 0, 0, 0) := by decide +kernel
theorem mi_17_0 : mI 17 0 = (5, 0, 0, 0, 0) := by decide +kernel
theorem mi_17_1 : mI 17 1 = (17, 299, 24, 10, 2) := by decide +kernel
theorem mi_17_4 : mI 17 4 = (3, 0, 1, 0, 0) := by decide +kernel
theorem mi_17_5 : mI 17 5 = (26, 607, 113, 102, 0) := by decide +kernel
theorem mi_17_8 : mI 17 8 = (14, 6, 1, 14, 0) := by decide +kernel
theorem mi_17_11 : mI 17 11 = (1, (-2), 1, 0, 0) := by decide +kernel
theorem mi_17_13 : mI 17 13 = (27, 0, 0, 0, 0) := by decide +kernel
theorem mi_17_14 : mI 17 14 = (5, 0, 0, 0, 0) := by decide +kernel
theorem mi_17_15 : mI 17 15 = (17, 302, 41, 10, 5) := by decide +kernel
theorem mi_17_18 : mI 17 18 = (5, 0, 0, 0, 0) := by decide +kernel
theorem mi_17_19 : mI 17 19 = (17, 299, 24, 10, 2) := by decide +kernel
theorem mi_17_22 : mI 17 22 = (3, 0, 1, 0, 0) := by decide +kernel
theorem mi_17_23 : mI 17 23 = (26, 697, 192, 180, 0) := by decide +kernel
theorem mi_17_26 : mI 17 26 = (6, 0, 2, 0, 0) := by decide +kernel
theorem mi_17_27 : mI 17 27 = (3, 0, 2, 0, 0) := by decide +kernel
theorem mi_17_28 : mI 17 28 = (14, 7, 3, 35, 0) := by decide +kernel
theorem mi_17_31 : mI 17 31 = (1, (-1), 0, 0, 0) := by decide +kernel
theorem mi_17_32 : mI 17 32 = (16, 19, 0, 51, 0) := by decide +kernel
theorem mi_17_35 : mI 17 35 = (5, 0, 0, 0, 0) := by decide +kernel
theorem mi_17_36 : mI 17 36 = (17, 302, 41, 10, 5) := by decide +kernel
theorem mi_17_39 : mI 17 39 = (5, 0, 0, 0, 0) := by decide +kernel
theorem mi_17_40 : mI 17 40 = (17, 299, 24, 10, 2) := by decide +kernel
theorem mi_17_43 : mI 17 43 = (3, 0, 2, 0, 0) := by decide +kernel
theorem mi_17_44 : mI 17 44 = (3, 0, 1, 0, 0) := by decide +kernel
theorem mi_17_45 : mI 17 45 = (26, 672, 182, 178, 0) := by decide +kernel
theorem mi_17_48 : mI 17 48 = (26, 682, 186, 75, 1) := by decide +kernel
theorem mi_17_51 : mI 17 51 = (27, 0, 0, 0, 0) := by decide +kernel
theorem mi_18_0 : mI 18 0 = (5, 0, 0, 0, 0) := by decide +kernel
theorem mi_18_1 : mI 18 1 = (17, 299, 24, 10, 2) := by decide +kernel
theorem mi_18_4 : mI 18 4 = (3, 0, 1, 0, 0) := by decide +kernel
theorem mi_18_5 : mI 18 5 = (26, 607, 113, 102, 0) := by decide +kernel
theorem mi_18_8 : mI 18 8 = (14, 18, 0, 26, 0) := by decide +kernel
theorem mi_18_11 : mI 18 11 = (5, 0, 0, 0, 0) := by decide +kernel
theorem mi_18_12 : mI 18 12 = (17, 302, 41, 10, 5) := by decide +kernel
theorem mi_18_15 : mI 18 15 = (5, 0, 0, 0, 0) := by decide +kernel
theorem mi_18_16 : mI 18 16 = (17, 299, 24, 10, 2) := by decide +kernel
theorem mi_18_19 : mI 18 19 = (3, 0, 1, 0, 0) := by decide +kernel
theorem mi_18_20 : mI 18 20 = (26, 697, 192, 180, 0) := by decide +kernel
theorem mi_18_23 : mI 18 23 = (16, 5, 0, 28, 0) := by decide +kernel
theorem mi_18_26 : mI 18 26 = (1, (-2), 1, 0, 0) := by decide +kernel
theorem mi_18_28 : mI 18 28 = (27, 0, 0, 0, 0) := by decide +kernel
theorem mi_19_0 : mI 19 0 = (5, 0, 0, 0, 0) := by decide +kernel
theorem mi_19_1 : mI 19 1 = (17, 299, 24, 10, 2) := by decide +kernel
theorem mi_19_4 : mI 19 4 = (3, 0, 1, 0, 0) := by decide +kernel
theorem mi_19_5 : mI 19 5 = (26, 630, 145, 103, 0) := by decide +kernel
theorem mi_19_8 : mI 19 8 = (14, 6, 1, 14, 0) := by decide +kernel
theorem mi_19_11 : mI 19 11 = (1, (-2), 1, 0, 0) := by decide +kernel
theorem mi_19_13 : mI 19 13 = (27, 0, 0, 0, 0) := by decide +kernel
theorem mi_19_14 : mI 19 14 = (1, 0, 0, 0, 0) := by decide +kernel
theorem mi_19_15 : mI 19 15 = (6, 0, 2, 0, 0) := by decide +kernel
theorem mi_19_16 : mI 19 16 = (1, 0, 0, 0, 0) := by decide +kernel
theorem mi_19_17 : mI 19 17 = (6, 0, 3, 0, 0) := by decide +kernel
theorem mi_19_18 : mI 19 18 = (3, 0, 3, 0, 0) := by decide +kernel
theorem mi_19_19 : mI 19 19 = (5, 0, 0, 0, 0) := by decide +kernel
theorem mi_19_20 : mI 19 20 = (17, 299, 24, 10, 2) := by decide +kernel
theorem mi_19_23 : mI 19 23 = (17, 107, 196, 2, 4) := by decide +kernel
theorem mi_19_26 : mI 19 26 = (15, 33, 3, 59, 0) := by decide +kernel
theorem mi_19_29 : mI 19 29 = (5, 0, 0, 0, 0) := by decide +kernel
theorem mi_19_30 : mI 19 30 = (17, 302, 41, 10, 5) := by decide +kernel
theorem mi_19_33 : mI 19 33 = (5, 0, 0, 0, 0) := by decide +kernel
theorem mi_19_34 : mI 19 34 = (17, 299, 24, 10, 2) := by decide +kernel
theorem mi_19_37 : mI 19 37 = (3, 0, 3, 0, 0) := by decide +kernel
theorem mi_19_38 : mI 19 38 = (3, 0, 1, 0, 0) := by decide +kernel
theorem mi_19_39 : mI 19 39 = (1, 1, 0, 0, 0) := by decide +kernel
theorem mi_19_40 : mI 19 40 = (10, 0, 0, 0, 0) := by decide +kernel
theorem mi_19_41 : mI 19 41 = (26, 689, 189, 179, 0) := by decide +kernel
theorem mi_19_44 : mI 19 44 = (14, 9, 1, 53, 0) := by decide +kernel
theorem mi_19_47 : mI 19 47 = (3, 0, 2, 0, 0) := by decide +kernel
theorem mi_19_48 : mI 19 48 = (1, 1, 0, 0, 0) := by decide +kernel
theorem mi_19_49 : mI 19 49 = (3, 0, 3, 0, 0) := by decide +kernel
theorem mi_19_50 : mI 19 50 = (10, 0, 8, 0, 0) := by decide +kernel
theorem mi_19_51 : mI 19 51 = (10, 0, 6, 0, 0) := by decide +kernel
theorem mi_19_52 : mI 19 52 = (6, 0, 2, 0, 0) := by decide +kernel
theorem mi_19_53 : mI 19 53 = (9, 1, 3, 0, 0) := by decide +kernel
theorem mi_19_56 : mI 19 56 = (16, (-38), 0, 18, 0) := by decide +kernel
theorem mi_19_59 : mI 19 59 = (3, 0, 2, 0, 0) := by decide +kernel
theorem mi_19_60 : mI 19 60 = (27, 0, 0, 0, 0) := by decide +kernel
theorem mi_20_0 : mI 20 0 = (5, 0, 0, 0, 0) := by decide +kernel
theorem mi_20_1 : mI 20 1 = (17, 299, 24, 10, 2) := by decide +kernel
theorem mi_20_4 : mI 20 4 = (3, 0, 1, 0, 0) := by decide +kernel
theorem mi_20_5 : mI 20 5 = (26, 607, 113, 102, 0) := by decide +kernel
theorem mi_20_8 : mI 20 8 = (14, 14, 0, 22, 0) := by decide +kernel
theorem mi_20_11 : mI 20 11 = (5, 0, 0, 0, 0) := by decide +kernel
theorem mi_20_12 : mI 20 12 = (17, 299, 24, 10, 2) := by decide +kernel
theorem mi_20_15 : mI 20 15 = (3, 0, 2, 0, 0) := by decide +kernel
theorem mi_20_16 : mI 20 16 = (26, 630, 145, 103, 0) := by decide +kernel
theorem mi_20_19 : mI 20 19 = (14, 6, 1, 25, 0) := by decide +kernel
theorem mi_20_22 : mI 20 22 = (1, (-2), 1, 0, 0) := by decide +kernel
theorem mi_20_24 : mI 20 24 = (27, 0, 0, 0, 0) := by decide +kernel
theorem mi_20_25 : mI 20 25 = (5, 0, 0, 0, 0) := by decide +kernel
theorem mi_20_26 : mI 20 26 = (17, 302, 41, 10, 5) := by decide +kernel
theorem mi_20_29 : mI 20 29 = (5, 0, 0, 0, 0) := by decide +kernel
theorem mi_20_30 : mI 20 30 = (17, 299, 24, 10, 2) := by decide +kernel
theorem mi_20_33 : mI 20 33 = (3, 0, 1, 0, 0) := by decide +kernel
theorem mi_20_34 : mI 20 34 = (3, 0, 2, 0, 0) := by decide +kernel
theorem mi_20_35 : mI 20 35 = (1, 1, 0, 0, 0) := by decide +kernel
theorem mi_20_36 : mI 20 36 = (10, 0, 0, 0, 0) := by decide +kernel
theorem mi_20_37 : mI 20 37 = (26, 714, 199, 181, 0) := by decide +kernel
theorem mi_20_40 : mI 20 40 = (27, 0, 0, 0, 0) := by decide +kernel
theorem mi_21_0 : mI 21 0 = (5, 0, 0, 0, 0) := by decide +kernel
theorem mi_21_1 : mI 21 1 = (17, 299, 24, 10, 2) := by decide +kernel
theorem mi_21_4 : mI 21 4 = (3, 0, 1, 0, 0) := by decide +kernel
theorem mi_21_5 : mI 21 5 = (26, 630, 145, 103, 0) := by decide +kernel
theorem mi_21_8 : mI 21 8 = (14, 6, 1, 14, 0) := by decide +kernel
theorem mi_21_11 : mI 21 11 = (1, (-2), 1, 0, 0) := by decide +kernel
theorem mi_21_13 : mI 21 13 = (27, 0, 0, 0, 0) := by decide +kernel
theorem mi_21_14 : mI 21 14 = (1, (-1), 0, 0, 0) := by decide +kernel
theorem mi_21_15 : mI 21 15 = (6, 0, 2, 0, 0) := by decide +kernel
theorem mi_21_16 : mI 21 16 = (1, (-1), 0, 0, 0) := by decide +kernel
theorem mi_21_17 : mI 21 17 = (6, 0, 3, 0, 0) := by decide +kernel
theorem mi_21_18 : mI 21 18 = (1, 0, 0, 0, 0) := by decide +kernel
theorem mi_21_19 : mI 21 19 = (6, 0, 4, 1, 0) := by decide +kernel
theorem mi_21_21 : mI 21 21 = (3, 0, 4, 1, 0) := by decide +kernel
theorem mi_21_23 : mI 21 23 = (5, 0, 0, 0, 0) := by decide +kernel
theorem mi_21_24 : mI 21 24 = (17, 299, 24, 10, 2) := by decide +kernel
theorem mi_21_27 : mI 21 27 = (17, 107, 196, 2, 4) := by decide +kernel
theorem mi_21_30 : mI 21 30 = (15, 39, 3, 69, 0) := by decide +kernel
theorem mi_21_33 : mI 21 33 = (5, 0, 0, 0, 0) := by decide +kernel
theorem mi_21_34 : mI 21 34 = (17, 302, 41, 10, 5) := by decide +kernel
theorem mi_21_37 : mI 21 37 = (5, 0, 0, 0, 0) := by decide +kernel
theorem mi_21_38 : mI 21 38 = (17, 299, 24, 10, 2) := by decide +kernel
theorem mi_21_41 : mI 21 41 = (3, 0, 4, 1, 0) := by decide +kernel
theorem mi_21_43 : mI 21 43 = (3, 0, 1, 0, 0) := by decide +kernel
theorem mi_21_44 : mI 21 44 = (1, 1, 0, 0, 0) := by decide +kernel
theorem mi_21_45 : mI 21 45 = (10, 0, 0, 0, 0) := by decide +kernel
theorem mi_21_46 : mI 21 46 = (26, 714, 199, 181, 0) := by decide +kernel
theorem mi_21_49 : mI 21 49 = (6, 0, 5, 1, 0) := by decide +kernel
theorem mi_21_51 : mI 21 51 = (3, 0, 5, 1, 0) := by decide +kernel
theorem mi_21_53 : mI 21 53 = (3, 0, 3, 0, 0) := by decide +kernel
theorem mi_21_54 : mI 21 54 = (15, 9, 5, 63, 0) := by decide +kernel
theorem mi_21_57 : mI 21 57 = (3, 0, 5, 1, 0) := by decide +kernel
theorem mi_21_59 : mI 21 59 = (6, 0, 3, 0, 0) := by decide +kernel
theorem mi_21_60 : mI 21 60 = (3, 0, 4, 1, 0) := by decide +kernel
theorem mi_21_62 : mI 21 62 = (6, 0, 2, 0, 0) := by decide +kernel
theorem mi_21_63 : mI 21 63 = (9, 1, 4, 0, 0) := by decide +kernel
theorem mi_21_66 : mI 21 66 = (16, (-45), 0, 21, 0) := by decide +kernel
theorem mi_21_69 : mI 21 69 = (3, 0, 2, 0, 0) := by decide +kernel
theorem mi_21_70 : mI 21 70 = (27, 0, 0, 0, 0) := by decide +kernel
theorem mi_22_0 : mI 22 0 = (5, 0, 0, 0, 0) := by decide +kernel
theorem mi_22_1 : mI 22 1 = (3, 0, 1, 0, 0) := by decide +kernel
theorem mi_22_2 : mI 22 2 = (3, 0, 2, 0, 0) := by decide +kernel
theorem mi_22_3 : mI 22 3 = (26, 668, 179, 74, 0) := by decide +kernel
theorem mi_22_6 : mI 22 6 = (14, 14, 0, 20, 0) := by decide +kernel
theorem mi_22_9 : mI 22 9 = (5, 0, 0, 0, 0) := by decide +kernel
theorem mi_22_10 : mI 22 10 = (17, 299, 24, 10, 2) := by decide +kernel
theorem mi_22_13 : mI 22 13 = (3, 0, 3, 0, 0) := by decide +kernel
theorem mi_22_14 : mI 22 14 = (26, 630, 145, 103, 0) := by decide +kernel
theorem mi_22_17 : mI 22 17 = (14, 6, 1, 23, 0) := by decide +kernel
theorem mi_22_20 : mI 22 20 = (1, (-2), 1, 0, 0) := by decide +kernel
theorem mi_22_22 : mI 22 22 = (27, 0, 0, 0, 0) := by decide +kernel
theorem mi_22_23 : mI 22 23 = (5, 0, 0, 0, 0) := by decide +kernel
theorem mi_22_24 : mI 22 24 = (3, 0, 1, 0, 0) := by decide +kernel
theorem mi_22_25 : mI 22 25 = (3, 0, 2, 0, 0) := by decide +kernel
theorem mi_22_26 : mI 22 26 = (3, 0, 3, 0, 0) := by decide +kernel
theorem mi_22_27 : mI 22 27 = (26, 732, 202, 26, 0) := by decide +kernel
theorem mi_22_30 : mI 22 30 = (27, 0, 0, 0, 0) := by decide +kernel
theorem mi_23_0 : mI 23 0 = (5, 0, 0, 0, 0) := by decide +kernel
theorem mi_23_1 : mI 23 1 = (3, 0, 1, 0, 0) := by decide +kernel
theorem mi_23_2 : mI 23 2 = (3, 0, 2, 0, 0) := by decide +kernel
theorem mi_23_3 : mI 23 3 = (26, 668, 179, 74, 0) := by decide +kernel
theorem mi_23_6 : mI 23 6 = (14, 6, 1, 12, 0) := by decide +kernel
theorem mi_23_9 : mI 23 9 = (1, (-2), 1, 0, 0) := by decide +kernel
theorem mi_23_11 : mI 23 11 = (27, 0, 0, 0, 0) := by decide +kernel
theorem mi_23_12 : mI 23 12 = (1, 0, 0, 0, 0) := by decide +kernel
theorem mi_23_13 : mI 23 13 = (6, 0, 3, 0, 0) := by decide +kernel
theorem mi_23_14 : mI 23 14 = (3, 0, 3, 0, 0) := by decide +kernel
theorem mi_23_15 : mI 23 15 = (5, 0, 0, 0, 0) := by decide +kernel
theorem mi_23_16 : mI 23 16 = (17, 299, 24, 10, 2) := by decide +kernel
theorem mi_23_19 : mI 23 19 = (17, 99, 205, 2, 3) := by decide +kernel
theorem mi_23_22 : mI 23 22 = (15, 21, 3, 43, 0) := by decide +kernel
theorem mi_23_25 : mI 23 25 = (5, 0, 0, 0, 0) := by decide +kernel
theorem mi_23_26 : mI 23 26 = (3, 0, 1, 0, 0) := by decide +kernel
theorem mi_23_27 : mI 23 27 = (3, 0, 2, 0, 0) := by decide +kernel
theorem mi_23_28 : mI 23 28 = (3, 0, 3, 0, 0) := by decide +kernel
theorem mi_23_29 : mI 23 29 = (26, 732, 202, 26, 0) := by decide +kernel
theorem mi_23_32 : mI 23 32 = (14, 5, 2, 37, 0) := by decide +kernel
theorem mi_23_35 : mI 23 35 = (3, 0, 3, 0, 0) := by decide +kernel
theorem mi_23_36 : mI 23 36 = (27, 0, 0, 0, 0) := by decide +kernel
theorem mi_23_37 : mI 23 37 = (9, 1, 3, 0, 0) := by decide +kernel
theorem mi_23_40 : mI 23 40 = (16, (-26), 0, 14, 0) := by decide +kernel
theorem mi_23_43 : mI 23 43 = (1, (-1), 0, 0, 0) := by decide +kernel
theorem mi_23_44 : mI 23 44 = (27, 0, 0, 0, 0) := by decide +kernel
theorem mi_24_0 : mI 24 0 = (5, 0, 0, 0, 0) := by decide +kernel
theorem mi_24_1 : mI 24 1 = (3, 0, 1, 0, 0) := by decide +kernel
theorem mi_24_2 : mI 24 2 = (3, 0, 2, 0, 0) := by decide +kernel
theorem mi_24_3 : mI 24 3 = (26, 668, 179, 74, 0) := by decide +kernel
theorem mi_24_6 : mI 24 6 = (14, 6, 1, 12, 0) := by decide +kernel
theorem mi_24_9 : mI 24 9 = (1, (-2), 1, 0, 0) := by decide +kernel
theorem mi_24_11 : mI 24 11 = (27, 0, 0, 0, 0) := by decide +kernel
theorem mi_24_12 : mI 24 12 = (5, 0, 0, 0, 0) := by decide +kernel
theorem mi_24_13 : mI 24 13 = (17, 299, 24, 10, 2) := by decide +kernel
theorem mi_24_16 : mI 24 16 = (17, 99, 205, 2, 3) := by decide +kernel
theorem mi_24_19 : mI 24 19 = (1, 1, 0, 0, 0) := by decide +kernel
theorem mi_24_20 : mI 24 20 = (10, 0, 1, 0, 0) := by decide +kernel
theorem mi_24_21 : mI 24 21 = (6, 0, 3, 0, 0) := by decide +kernel
theorem mi_24_22 : mI 24 22 = (3, 0, 3, 0, 0) := by decide +kernel
theorem mi_24_23 : mI 24 23 = (14, 21, 2, 44, 0) := by decide +kernel
theorem mi_24_26 : mI 24 26 = (5, 0, 0, 0, 0) := by decide +kernel
theorem mi_24_27 : mI 24 27 = (3, 0, 1, 0, 0) := by decide +kernel
theorem mi_24_28 : mI 24 28 = (3, 0, 2, 0, 0) := by decide +kernel
theorem mi_24_29 : mI 24 29 = (3, 0, 3, 0, 0) := by decide +kernel
theorem mi_24_30 : mI 24 30 = (26, 732, 202, 26, 0) := by decide +kernel
theorem mi_24_33 : mI 24 33 = (14, 5, 2, 38, 0) := by decide +kernel
theorem mi_24_36 : mI 24 36 = (3, 0, 3, 0, 0) := by decide +kernel
theorem mi_24_37 : mI 24 37 = (27, 0, 0, 0, 0) := by decide +kernel
theorem mi_24_38 : mI 24 38 = (9, (-1), 3, 0, 0) := by decide +kernel
theorem mi_24_41 : mI 24 41 = (16, (-19), 0, 22, 0) := by decide +kernel
theorem mi_24_44 : mI 24 44 = (1, (-1), 0, 0, 0) := by decide +kernel
theorem mi_24_45 : mI 24 45 = (27, 0, 0, 0, 0) := by decide +kernel
theorem mi_25_0 : mI 25 0 = (5, 0, 0, 0, 0) := by decide +kernel
theorem mi_25_1 : mI 25 1 = (17, 299, 24, 10, 2) := by decide +kernel
theorem mi_25_4 : mI 25 4 = (3, 0, 1, 0, 0) := by decide +kernel
theorem mi_25_5 : mI 25 5 = (26, 607, 113, 102, 0) := by decide +kernel
theorem mi_25_8 : mI 25 8 = (14, 14, 0, 22, 0) := by decide +kernel
theorem mi_25_11 : mI 25 11 = (5, 0, 0, 0, 0) := by decide +kernel
theorem mi_25_12 : mI 25 12 = (17, 299, 24, 10, 2) := by decide +kernel
theorem mi_25_15 : mI 25 15 = (3, 0, 2, 0, 0) := by decide +kernel
theorem mi_25_16 : mI 25 16 = (26, 630, 145, 103, 0) := by decide +kernel
theorem mi_25_19 : mI 25 19 = (14, 6, 1, 25, 0) := by decide +kernel
theorem mi_25_22 : mI 25 22 = (1, (-2), 1, 0, 0) := by decide +kernel
theorem mi_25_24 : mI 25 24 = (27, 0, 0, 0, 0) := by decide +kernel
theorem mi_25_25 : mI 25 25 = (1, 0, 0, 0, 0) := by decide +kernel
theorem mi_25_26 : mI 25 26 = (6, 0, 3, 0, 0) := by decide +kernel
theorem mi_25_27 : mI 25 27 = (1, 0, 0, 0, 0) := by decide +kernel
theorem mi_25_28 : mI 25 28 = (6, 0, 4, 1, 0) := by decide +kernel
theorem mi_25_30 : mI 25 30 = (3, 0, 4, 1, 0) := by decide +kernel
theorem mi_25_32 : mI 25 32 = (5, 0, 0, 0, 0) := by decide +kernel
theorem mi_25_33 : mI 25 33 = (17, 299, 24, 10, 2) := by decide +kernel
theorem mi_25_36 : mI 25 36 = (17, 107, 196, 2, 4) := by decide +kernel
theorem mi_25_39 : mI 25 39 = (15, 33, 3, 72, 0) := by decide +kernel
theorem mi_25_42 : mI 25 42 = (3, 0, 4, 1, 0) := by decide +kernel
theorem mi_25_44 : mI 25 44 = (3, 0, 1, 0, 0) := by decide +kernel
theorem mi_25_45 : mI 25 45 = (15, 21, 0, 66, 0) := by decide +kernel
theorem mi_25_48 : mI 25 48 = (5, 0, 0, 0, 0) := by decide +kernel
theorem mi_25_49 : mI 25 49 = (3, 0, 4, 1, 0) := by decide +kernel
theorem mi_25_51 : mI 25 51 = (3, 0, 1, 0, 0) := by decide +kernel
theorem mi_25_52 : mI 25 52 = (3, 0, 2, 0, 0) := by decide +kernel
theorem mi_25_53 : mI 25 53 = (26, 732, 202, 26, 0) := by decide +kernel
theorem mi_25_56 : mI 25 56 = (14, 10, 2, 66, 0) := by decide +kernel
theorem mi_25_59 : mI 25 59 = (3, 0, 3, 0, 0) := by decide +kernel
theorem mi_25_60 : mI 25 60 = (1, 1, 0, 0, 0) := by decide +kernel
theorem mi_25_61 : mI 25 61 = (3, 0, 4, 1, 0) := by decide +kernel
theorem mi_25_63 : mI 25 63 = (10, 0, 8, 0, 0) := by decide +kernel
theorem mi_25_64 : mI 25 64 = (10, 0, 6, 0, 0) := by decide +kernel
theorem mi_25_65 : mI 25 65 = (6, 0, 3, 0, 0) := by decide +kernel
theorem mi_25_66 : mI 25 66 = (9, 1, 4, 0, 0) := by decide +kernel
theorem mi_25_69 : mI 25 69 = (16, (-39), 0, 30, 0) := by decide +kernel
theorem mi_25_72 : mI 25 72 = (3, 0, 3, 0, 0) := by decide +kernel
theorem mi_25_73 : mI 25 73 = (27, 0, 0, 0, 0) := by decide +kernel
theorem mi_26_0 : mI 26 0 = (5, 0, 0, 0, 0) := by decide +kernel
theorem mi_26_1 : mI 26 1 = (17, 302, 41, 10, 5) := by decide +kernel
theorem mi_26_4 : mI 26 4 = (5, 0, 0, 0, 0) := by decide +kernel
theorem mi_26_5 : mI 26 5 = (17, 299, 24, 10, 2) := by decide +kernel
theorem mi_26_8 : mI 26 8 = (3, 0, 1, 0, 0) := by decide +kernel
theorem mi_26_9 : mI 26 9 = (3, 0, 2, 0, 0) := by decide +kernel
theorem mi_26_10 : mI 26 10 = (3, 0, 3, 0, 0) := by decide +kernel
theorem mi_26_11 : mI 26 11 = (26, 736, 208, 177, 0) := by decide +kernel
theorem mi_26_14 : mI 26 14 = (14, 6, 1, 20, 0) := by decide +kernel
theorem mi_26_17 : mI 26 17 = (1, (-5), 1, 0, 0) := by decide +kernel
theorem mi_26_19 : mI 26 19 = (27, 0, 0, 0, 0) := by decide +kernel
theorem mi_26_20 : mI 26 20 = (3, 0, 3, 0, 0) := by decide +kernel
theorem mi_26_21 : mI 26 21 = (5, 0, 0, 0, 0) := by decide +kernel
theorem mi_26_22 : mI 26 22 = (17, 299, 24, 10, 2) := by decide +kernel
theorem mi_26_25 : mI 26 25 = (3, 0, 2, 0, 0) := by decide +kernel
theorem mi_26_26 : mI 26 26 = (26, 620, 125, 106, 0) := by decide +kernel
theorem mi_26_29 : mI 26 29 = (5, 0, 0, 0, 0) := by decide +kernel
theorem mi_26_30 : mI 26 30 = (17, 299, 24, 10, 2) := by decide +kernel
theorem mi_26_33 : mI 26 33 = (17, 119, 129, 2, 8) := by decide +kernel
theorem mi_26_36 : mI 26 36 = (3, 0, 1, 0, 0) := by decide +kernel
theorem mi_26_37 : mI 26 37 = (26, 625, 133, 147, 1) := by decide +kernel
theorem mi_26_40 : mI 26 40 = (10, 0, 2, 0, 0) := by decide +kernel
theorem mi_26_41 : mI 26 41 = (10, 0, 0, 0, 0) := by decide +kernel
theorem mi_26_42 : mI 26 42 = (1, 1, 0, 0, 0) := by decide +kernel
theorem mi_26_43 : mI 26 43 = (10, 0, 1, 0, 0) := by decide +kernel
theorem mi_26_44 : mI 26 44 = (6, 0, 4, 1, 0) := by decide +kernel
theorem mi_26_46 : mI 26 46 = (5, 0, 0, 0, 0) := by decide +kernel
theorem mi_26_47 : mI 26 47 = (17, 299, 24, 10, 2) := by decide +kernel
theorem mi_26_50 : mI 26 50 = (3, 0, 4, 1, 0) := by decide +kernel
theorem mi_26_52 : mI 26 52 = (26, 630, 145, 103, 0) := by decide +kernel
theorem mi_26_55 : mI 26 55 = (14, 5, 1, 60, 0) := by decide +kernel
theorem mi_26_58 : mI 26 58 = (1, (-1), 0, 0, 0) := by decide +kernel
theorem mi_26_59 : mI 26 59 = (27, 0, 0, 0, 0) := by decide +kernel
theorem mi_26_60 : mI 26 60 = (3, 0, 3, 0, 0) := by decide +kernel
theorem mi_26_61 : mI 26 61 = (6, 0, 5, 1, 0) := by decide +kernel
theorem mi_26_63 : mI 26 63 = (3, 0, 5, 1, 0) := by decide +kernel
theorem mi_26_65 : mI 26 65 = (3, 0, 4, 1, 0) := by decide +kernel
theorem mi_26_67 : mI 26 67 = (15, 34, 4, 101, 0) := by decide +kernel
theorem mi_26_70 : mI 26 70 = (5, 0, 0, 0, 0) := by decide +kernel
theorem mi_26_71 : mI 26 71 = (17, 299, 24, 10, 2) := by decide +kernel
theorem mi_26_74 : mI 26 74 = (3, 0, 1, 0, 0) := by decide +kernel
theorem mi_26_75 : mI 26 75 = (3, 0, 5, 1, 0) := by decide +kernel
theorem mi_26_77 : mI 26 77 = (26, 631, 148, 110, 0) := by decide +kernel
theorem mi_26_80 : mI 26 80 = (5, 0, 0, 0, 0) := by decide +kernel
theorem mi_26_81 : mI 26 81 = (17, 299, 24, 10, 2) := by decide +kernel
theorem mi_26_84 : mI 26 84 = (3, 0, 2, 0, 0) := by decide +kernel
theorem mi_26_85 : mI 26 85 = (3, 0, 5, 1, 0) := by decide +kernel
theorem mi_26_87 : mI 26 87 = (26, 631, 148, 110, 0) := by decide +kernel
theorem mi_26_90 : mI 26 90 = (15, 5, 0, 95, 0) := by decide +kernel
theorem mi_26_93 : mI 26 93 = (1, (-1), 0, 0, 0) := by decide +kernel
theorem mi_26_94 : mI 26 94 = (27, 0, 0, 0, 0) := by decide +kernel
theorem mi_26_95 : mI 26 95 = (9, 1, 5, 0, 0) := by decide +kernel
theorem mi_26_98 : mI 26 98 = (16, (-35), 0, 63, 0) := by decide +kernel
theorem mi_26_101 : mI 26 101 = (3, 0, 4, 1, 0) := by decide +kernel
theorem mi_26_103 : mI 26 103 = (27, 0, 0, 0, 0) := by decide +kernel
theorem mi_28_0 : mI 28 0 = (5, 0, 0, 0, 0) := by decide +kernel
theorem mi_28_1 : mI 28 1 = (17, 299, 24, 10, 2) := by decide +kernel
theorem mi_28_4 : mI 28 4 = (3, 0, 1, 0, 0) := by decide +kernel
theorem mi_28_5 : mI 28 5 = (26, 607, 113, 102, 0) := by decide +kernel
theorem mi_28_8 : mI 28 8 = (14, 6, 1, 14, 0) := by decide +kernel
theorem mi_28_11 : mI 28 11 = (1, (-2), 1, 0, 0) := by decide +kernel
theorem mi_28_13 : mI 28 13 = (27, 0, 0, 0, 0) := by decide +kernel
theorem mi_28_14 : mI 28 14 = (1, 0, 0, 0, 0) := by decide +kernel
theorem mi_28_15 : mI 28 15 = (6, 0, 2, 0, 0) := by decide +kernel
theorem mi_28_16 : mI 28 16 = (1, 0, 0, 0, 0) := by decide +kernel
theorem mi_28_17 : mI 28 17 = (6, 0, 3, 0, 0) := by decide +kernel
theorem mi_28_18 : mI 28 18 = (3, 0, 3, 0, 0) := by decide +kernel
theorem mi_28_19 : mI 28 19 = (5, 0, 0, 0, 0) := by decide +kernel
theorem mi_28_20 : mI 28 20 = (17, 299, 24, 10, 2) := by decide +kernel
theorem mi_28_23 : mI 28 23 = (17, 112, 212, 2, 5) := by decide +kernel
theorem mi_28_26 : mI 28 26 = (15, 41, 3, 67, 0) := by decide +kernel
theorem mi_28_29 : mI 28 29 = (5, 0, 0, 0, 0) := by decide +kernel
theorem mi_28_30 : mI 28 30 = (17, 299, 24, 10, 2) := by decide +kernel
theorem mi_28_33 : mI 28 33 = (17, 137, 154, 2, 13) := by decide +kernel
theorem mi_28_36 : mI 28 36 = (3, 0, 3, 0, 0) := by decide +kernel
theorem mi_28_37 : mI 28 37 = (26, 625, 133, 147, 1) := by decide +kernel
theorem mi_28_40 : mI 28 40 = (3, 0, 1, 0, 0) := by decide +kernel
theorem mi_28_41 : mI 28 41 = (15, 20, 1, 61, 0) := by decide +kernel
theorem mi_28_44 : mI 28 44 = (3, 0, 2, 0, 0) := by decide +kernel
theorem mi_28_45 : mI 28 45 = (5, 0, 0, 0, 0) := by decide +kernel
theorem mi_28_46 : mI 28 46 = (17, 302, 41, 10, 5) := by decide +kernel
theorem mi_28_49 : mI 28 49 = (17, 210, 176, 8, 2) := by decide +kernel
theorem mi_28_52 : mI 28 52 = (3, 0, 3, 0, 0) := by decide +kernel
theorem mi_28_53 : mI 28 53 = (26, 625, 133, 147, 1) := by decide +kernel
theorem mi_28_56 : mI 28 56 = (26, 757, 215, 344, 1) := by decide +kernel
theorem mi_28_59 : mI 28 59 = (10, 0, 0, 0, 0) := by decide +kernel
theorem mi_28_60 : mI 28 60 = (6, 0, 2, 0, 0) := by decide +kernel
theorem mi_28_61 : mI 28 61 = (9, 1, 3, 0, 0) := by decide +kernel
theorem mi_28_64 : mI 28 64 = (16, (-46), 0, 18, 0) := by decide +kernel
theorem mi_28_67 : mI 28 67 = (3, 0, 2, 0, 0) := by decide +kernel
theorem mi_28_68 : mI 28 68 = (27, 0, 0, 0, 0) := by decide +kernel
theorem mi_32_0 : mI 32 0 = (5, 0, 0, 0, 0) := by decide +kernel
theorem mi_32_1 : mI 32 1 = (17, 299, 24, 10, 2) := by decide +kernel
theorem mi_32_4 : mI 32 4 = (3, 0, 1, 0, 0) := by decide +kernel
theorem mi_32_5 : mI 32 5 = (26, 607, 113, 102, 0) := by decide +kernel
theorem mi_32_8 : mI 32 8 = (14, 29, 0, 37, 0) := by decide +kernel
theorem mi_32_11 : mI 32 11 = (5, 0, 0, 0, 0) := by decide +kernel
theorem mi_32_12 : mI 32 12 = (17, 303, 48, 10, 6) := by decide +kernel
theorem mi_32_15 : mI 32 15 = (5, 0, 0, 0, 0) := by decide +kernel
theorem mi_32_16 : mI 32 16 = (17, 299, 24, 10, 2) := by decide +kernel
theorem mi_32_19 : mI 32 19 = (5, 0, 0, 0, 0) := by decide +kernel
theorem mi_32_20 : mI 32 20 = (17, 302, 41, 10, 5) := by decide +kernel
theorem mi_32_23 : mI 32 23 = (3, 0, 1, 0, 0) := by decide +kernel
theorem mi_32_24 : mI 32 24 = (5, 0, 0, 0, 0) := by decide +kernel
theorem mi_32_25 : mI 32 25 = (17, 299, 24, 10, 2) := by decide +kernel
theorem mi_32_28 : mI 32 28 = (26, 779, 223, 109, 0) := by decide +kernel
theorem mi_32_31 : mI 32 31 = (26, 783, 227, 78, 0) := by decide +kernel
theorem mi_32_34 : mI 32 34 = (16, 5, 0, 39, 0) := by decide +kernel
theorem mi_32_37 : mI 32 37 = (1, (-2), 1, 0, 0) := by decide +kernel
theorem mi_32_39 : mI 32 39 = (27, 0, 0, 0, 0) := by decide +kernel
theorem mi_33_0 : mI 33 0 = (5, 0, 0, 0, 0) := by decide +kernel
theorem mi_33_1 : mI 33 1 = (3, 0, 1, 0, 0) := by decide +kernel
theorem mi_33_2 : mI 33 2 = (3, 0, 2, 0, 0) := by decide +kernel
theorem mi_33_3 : mI 33 3 = (26, 668, 179, 74, 0) := by decide +kernel
theorem mi_33_6 : mI 33 6 = (14, 6, 1, 12, 0) := by decide +kernel
theorem mi_33_9 : mI 33 9 = (1, (-2), 1, 0, 0) := by decide +kernel
theorem mi_33_11 : mI 33 11 = (27, 0, 0, 0, 0) := by decide +kernel
theorem mi_33_12 : mI 33 12 = (5, 0, 0, 0, 0) := by decide +kernel
theorem mi_33_13 : mI 33 13 = (17, 303, 48, 10, 6) := by decide +kernel
theorem mi_33_16 : mI 33 16 = (5, 0, 0, 0, 0) := by decide +kernel
theorem mi_33_17 : mI 33 17 = (17, 299, 24, 10, 2) := by decide +kernel
theorem mi_33_20 : mI 33 20 = (5, 0, 0, 0, 0) := by decide +kernel
theorem mi_33_21 : mI 33 21 = (17, 302, 41, 10, 5) := by decide +kernel
theorem mi_33_24 : mI 33 24 = (3, 0, 1, 0, 0) := by decide +kernel
theorem mi_33_25 : mI 33 25 = (3, 0, 2, 0, 0) := by decide +kernel
theorem mi_33_26 : mI 33 26 = (26, 799, 231, 80, 0) := by decide +kernel
theorem mi_33_29 : mI 33 29 = (26, 806, 234, 76, 1) := by decide +kernel
theorem mi_33_32 : mI 33 32 = (27, 0, 0, 0, 0) := by decide +kernel
theorem mi_34_0 : mI 34 0 = (5, 0, 0, 0, 0) := by decide +kernel
theorem mi_34_1 : mI 34 1 = (3, 0, 1, 0, 0) := by decide +kernel
theorem mi_34_2 : mI 34 2 = (3, 0, 2, 0, 0) := by decide +kernel
theorem mi_34_3 : mI 34 3 = (26, 668, 179, 74, 0) := by decide +kernel
theorem mi_34_6 : mI 34 6 = (14, 23, 0, 29, 0) := by decide +kernel
theorem mi_34_9 : mI 34 9 = (5, 0, 0, 0, 0) := by decide +kernel
theorem mi_34_10 : mI 34 10 = (17, 303, 48, 10, 6) := by decide +kernel
theorem mi_34_13 : mI 34 13 = (5, 0, 0, 0, 0) := by decide +kernel
theorem mi_34_14 : mI 34 14 = (17, 299, 24, 10, 2) := by decide +kernel
theorem mi_34_17 : mI 34 17 = (5, 0, 0, 0, 0) := by decide +kernel
theorem mi_34_18 : mI 34 18 = (17, 302, 41, 10, 5) := by decide +kernel
theorem mi_34_21 : mI 34 21 = (3, 0, 1, 0, 0) := by decide +kernel
theorem mi_34_22 : mI 34 22 = (3, 0, 2, 0, 0) := by decide +kernel
theorem mi_34_23 : mI 34 23 = (26, 799, 231, 80, 0) := by decide +kernel
theorem mi_34_26 : mI 34 26 = (16, 5, 0, 31, 0) := by decide +kernel
theorem mi_34_29 : mI 34 29 = (1, (-2), 1, 0, 0) := by decide +kernel
theorem mi_34_31 : mI 34 31 = (27, 0, 0, 0, 0) := by decide +kernel
theorem mi_35_0 : mI 35 0 = (5, 0, 0, 0, 0) := by decide +kernel
theorem mi_35_1 : mI 35 1 = (17, 299, 24, 10, 2) := by decide +kernel
theorem mi_35_4 : mI 35 4 = (26, 817, 237, 101, 0) := by decide +kernel
theorem mi_35_7 : mI 35 7 = (14, 21, 0, 28, 0) := by decide +kernel
theorem mi_35_10 : mI 35 10 = (5, 0, 0, 0, 0) := by decide +kernel
theorem mi_35_11 : mI 35 11 = (17, 303, 48, 10, 6) := by decide +kernel
theorem mi_35_14 : mI 35 14 = (5, 0, 0, 0, 0) := by decide +kernel
theorem mi_35_15 : mI 35 15 = (17, 299, 24, 10, 2) := by decide +kernel
theorem mi_35_18 : mI 35 18 = (5, 0, 0, 0, 0) := by decide +kernel
theorem mi_35_19 : mI 35 19 = (17, 302, 41, 10, 5) := by decide +kernel
theorem mi_35_22 : mI 35 22 = (26, 821, 241, 81, 0) := by decide +kernel
theorem mi_35_25 : mI 35 25 = (16, 5, 0, 30, 0) := by decide +kernel
theorem mi_35_28 : mI 35 28 = (1, (-2), 1, 0, 0) := by decide +kernel
theorem mi_35_30 : mI 35 30 = (27, 0, 0, 0, 0) := by decide +kernel
theorem mi_36_0 : mI 36 0 = (5, 0, 0, 0, 0) := by decide +kernel
theorem mi_36_1 : mI 36 1 = (3, 0, 1, 0, 0) := by decide +kernel
theorem mi_36_2 : mI 36 2 = (3, 0, 2, 0, 0) := by decide +kernel
theorem mi_36_3 : mI 36 3 = (26, 668, 179, 74, 0) := by decide +kernel
theorem mi_36_6 : mI 36 6 = (14, 6, 1, 12, 0) := by decide +kernel
theorem mi_36_9 : mI 36 9 = (1, (-2), 1, 0, 0) := by decide +kernel
theorem mi_36_11 : mI 36 11 = (27, 0, 0, 0, 0) := by decide +kernel
theorem mi_36_12 : mI 36 12 = (5, 0, 0, 0, 0) := by decide +kernel
theorem mi_36_13 : mI 36 13 = (17, 302, 41, 10, 5) := by decide +kernel
theorem mi_36_16 : mI 36 16 = (5, 0, 0, 0, 0) := by decide +kernel
theorem mi_36_17 : mI 36 17 = (17, 299, 24, 10, 2) := by decide +kernel
theorem mi_36_20 : mI 36 20 = (3, 0, 1, 0, 0) := by decide +kernel
theorem mi_36_21 : mI 36 21 = (3, 0, 2, 0, 0) := by decide +kernel
theorem mi_36_22 : mI 36 22 = (5, 0, 0, 0, 0) := by decide +kernel
theorem mi_36_23 : mI 36 23 = (17, 299, 24, 10, 2) := by decide +kernel
theorem mi_36_26 : mI 36 26 = (17, 99, 205, 2, 3) := by decide +kernel
theorem mi_36_29 : mI 36 29 = (26, 736, 208, 177, 0) := by decide +kernel
theorem mi_36_32 : mI 36 32 = (14, 5, 1, 37, 0) := by decide +kernel
theorem mi_36_35 : mI 36 35 = (1, 0, 0, 0, 0) := by decide +kernel
theorem mi_36_36 : mI 36 36 = (27, 0, 0, 0, 0) := by decide +kernel
theorem mi_36_37 : mI 36 37 = (1, 0, 0, 0, 0) := by decide +kernel
theorem mi_36_38 : mI 36 38 = (6, 0, 3, 0, 0) := by decide +kernel
theorem mi_36_39 : mI 36 39 = (1, 0, 0, 0, 0) := by decide +kernel
theorem mi_36_40 : mI 36 40 = (6, 0, 4, 1, 0) := by decide +kernel
theorem mi_36_42 : mI 36 42 = (3, 0, 4, 1, 0) := by decide +kernel
theorem mi_36_44 : mI 36 44 = (5, 0, 0, 0, 0) := by decide +kernel
theorem mi_36_45 : mI 36 45 = (17, 299, 24, 10, 2) := by decide +kernel
theorem mi_36_48 : mI 36 48 = (17, 107, 196, 2, 4) := by decide +kernel
theorem mi_36_51 : mI 36 51 = (15, 65, 3, 116, 0) := by decide +kernel
theorem mi_36_54 : mI 36 54 = (3, 0, 4, 1, 0) := by decide +kernel
theorem mi_36_56 : mI 36 56 = (3, 0, 1, 0, 0) := by decide +kernel
theorem mi_36_57 : mI 36 57 = (15, 13, 0, 70, 0) := by decide +kernel
theorem mi_36_60 : mI 36 60 = (3, 0, 4, 1, 0) := by decide +kernel
theorem mi_36_62 : mI 36 62 = (3, 0, 2, 0, 0) := by decide +kernel
theorem mi_36_63 : mI 36 63 = (15, 7, 0, 70, 0) := by decide +kernel
theorem mi_36_66 : mI 36 66 = (1, 1, 0, 0, 0) := by decide +kernel
theorem mi_36_67 : mI 36 67 = (16, 4, 0, 71, 0) := by decide +kernel
theorem mi_36_70 : mI 36 70 = (1, 0, 0, 0, 0) := by decide +kernel
theorem mi_36_71 : mI 36 71 = (6, 0, 5, 1, 0) := by decide +kernel
theorem mi_36_73 : mI 36 73 = (3, 0, 5, 1, 0) := by decide +kernel
theorem mi_36_75 : mI 36 75 = (14, 35, 0, 110, 0) := by decide +kernel
theorem mi_36_78 : mI 36 78 = (5, 0, 0, 0, 0) := by decide +kernel
theorem mi_36_79 : mI 36 79 = (17, 301, 34, 10, 4) := by decide +kernel
theorem mi_36_82 : mI 36 82 = (5, 0, 0, 0, 0) := by decide +kernel
theorem mi_36_83 : mI 36 83 = (17, 299, 24, 10, 2) := by decide +kernel
theorem mi_36_86 : mI 36 86 = (3, 0, 1, 0, 0) := by decide +kernel
theorem mi_36_87 : mI 36 87 = (3, 0, 2, 0, 0) := by decide +kernel
theorem mi_36_88 : mI 36 88 = (5, 0, 0, 0, 0) := by decide +kernel
theorem mi_36_89 : mI 36 89 = (17, 299, 24, 10, 2) := by decide +kernel
theorem mi_36_92 : mI 36 92 = (3, 0, 4, 1, 0) := by decide +kernel
theorem mi_36_94 : mI 36 94 = (26, 837, 245, 113, 0) := by decide +kernel
theorem mi_36_97 : mI 36 97 = (26, 841, 248, 93, 0) := by decide +kernel
theorem mi_36_100 : mI 36 100 = (14, 10, 1, 110, 0) := by decide +kernel
theorem mi_36_103 : mI 36 103 = (3, 0, 3, 0, 0) := by decide +kernel
theorem mi_36_104 : mI 36 104 = (1, 1, 0, 0, 0) := by decide +kernel
theorem mi_36_105 : mI 36 105 = (3, 0, 4, 1, 0) := by decide +kernel
theorem mi_36_107 : mI 36 107 = (10, 0, 8, 0, 0) := by decide +kernel
theorem mi_36_108 : mI 36 108 = (10, 0, 6, 0, 0) := by decide +kernel
theorem mi_36_109 : mI 36 109 = (6, 0, 3, 0, 0) := by decide +kernel
theorem mi_36_110 : mI 36 110 = (9, 1, 4, 0, 0) := by decide +kernel
theorem mi_36_113 : mI 36 113 = (16, (-71), 0, 42, 0) := by decide +kernel
theorem mi_36_116 : mI 36 116 = (3, 0, 3, 0, 0) := by decide +kernel
theorem mi_36_117 : mI 36 117 = (27, 0, 0, 0, 0) := by decide +kernel
theorem mi_37_0 : mI 37 0 = (5, 0, 0, 0, 0) := by decide +kernel
theorem mi_37_1 : mI 37 1 = (3, 0, 1, 0, 0) := by decide +kernel
theorem mi_37_2 : mI 37 2 = (3, 0, 2, 0, 0) := by decide +kernel
theorem mi_37_3 : mI 37 3 = (26, 668, 179, 74, 0) := by decide +kernel
theorem mi_37_6 : mI 37 6 = (14, 6, 1, 12, 0) := by decide +kernel
theorem mi_37_9 : mI 37 9 = (1, (-2), 1, 0, 0) := by decide +kernel
theorem mi_37_11 : mI 37 11 = (27, 0, 0, 0, 0) := by decide +kernel
theorem mi_37_12 : mI 37 12 = (5, 0, 0, 0, 0) := by decide +kernel
theorem mi_37_13 : mI 37 13 = (17, 302, 41, 10, 5) := by decide +kernel
theorem mi_37_16 : mI 37 16 = (5, 0, 0, 0, 0) := by decide +kernel
theorem mi_37_17 : mI 37 17 = (17, 299, 24, 10, 2) := by decide +kernel
theorem mi_37_20 : mI 37 20 = (3, 0, 1, 0, 0) := by decide +kernel
theorem mi_37_21 : mI 37 21 = (3, 0, 2, 0, 0) := by decide +kernel
theorem mi_37_22 : mI 37 22 = (5, 0, 0, 0, 0) := by decide +kernel
theorem mi_37_23 : mI 37 23 = (17, 299, 24, 10, 2) := by decide +kernel
theorem mi_37_26 : mI 37 26 = (17, 99, 205, 2, 3) := by decide +kernel
theorem mi_37_29 : mI 37 29 = (26, 736, 208, 177, 0) := by decide +kernel
theorem mi_37_32 : mI 37 32 = (14, 5, 1, 37, 0) := by decide +kernel
theorem mi_37_35 : mI 37 35 = (1, 0, 0, 0, 0) := by decide +kernel
theorem mi_37_36 : mI 37 36 = (27, 0, 0, 0, 0) := by decide +kernel
theorem mi_37_37 : mI 37 37 = (1, 0, 0, 0, 0) := by decide +kernel
theorem mi_37_38 : mI 37 38 = (6, 0, 3, 0, 0) := by decide +kernel
theorem mi_37_39 : mI 37 39 = (1, 0, 0, 0, 0) := by decide +kernel
theorem mi_37_40 : mI 37 40 = (6, 0, 4, 1, 0) := by decide +kernel
theorem mi_37_42 : mI 37 42 = (3, 0, 4, 1, 0) := by decide +kernel
theorem mi_37_44 : mI 37 44 = (5, 0, 0, 0, 0) := by decide +kernel
theorem mi_37_45 : mI 37 45 = (17, 299, 24, 10, 2) := by decide +kernel
theorem mi_37_48 : mI 37 48 = (17, 112, 212, 2, 5) := by decide +kernel
theorem mi_37_51 : mI 37 51 = (15, 36, 3, 87, 0) := by decide +kernel
theorem mi_37_54 : mI 37 54 = (5, 0, 0, 0, 0) := by decide +kernel
theorem mi_37_55 : mI 37 55 = (17, 301, 34, 10, 4) := by decide +kernel
theorem mi_37_58 : mI 37 58 = (5, 0, 0, 0, 0) := by decide +kernel
theorem mi_37_59 : mI 37 59 = (17, 299, 24, 10, 2) := by decide +kernel
theorem mi_37_62 : mI 37 62 = (3, 0, 1, 0, 0) := by decide +kernel
theorem mi_37_63 : mI 37 63 = (3, 0, 2, 0, 0) := by decide +kernel
theorem mi_37_64 : mI 37 64 = (1, 1, 0, 0, 0) := by decide +kernel
theorem mi_37_65 : mI 37 65 = (3, 0, 4, 1, 0) := by decide +kernel
theorem mi_37_67 : mI 37 67 = (10, 0, 8, 0, 0) := by decide +kernel
theorem mi_37_68 : mI 37 68 = (26, 841, 248, 93, 0) := by decide +kernel
theorem mi_37_71 : mI 37 71 = (14, 10, 1, 81, 0) := by decide +kernel
theorem mi_37_74 : mI 37 74 = (3, 0, 3, 0, 0) := by decide +kernel
theorem mi_37_75 : mI 37 75 = (1, 1, 0, 0, 0) := by decide +kernel
theorem mi_37_76 : mI 37 76 = (3, 0, 4, 1, 0) := by decide +kernel
theorem mi_37_78 : mI 37 78 = (10, 0, 8, 0, 0) := by decide +kernel
theorem mi_37_79 : mI 37 79 = (10, 0, 6, 0, 0) := by decide +kernel
theorem mi_37_80 : mI 37 80 = (6, 0, 3, 0, 0) := by decide +kernel
theorem mi_37_81 : mI 37 81 = (9, 1, 4, 0, 0) := by decide +kernel
theorem mi_37_84 : mI 37 84 = (16, (-42), 0, 42, 0) := by decide +kernel
theorem mi_37_87 : mI 37 87 = (3, 0, 3, 0, 0) := by decide +kernel
theorem mi_37_88 : mI 37 88 = (27, 0, 0, 0, 0) := by decide +kernel
theorem mi_45_0 : mI 45 0 = (3, 0, 1, 0, 0) := by decide +kernel
theorem mi_45_1 : mI 45 1 = (14, 18, 2, 19, 0) := by decide +kernel
theorem mi_45_4 : mI 45 4 = (3, 0, 1, 0, 0) := by decide +kernel
theorem mi_45_5 : mI 45 5 = (5, 0, 0, 0, 0) := by decide +kernel
theorem mi_45_6 : mI 45 6 = (17, 299, 24, 10, 2) := by decide +kernel
theorem mi_45_9 : mI 45 9 = (26, 779, 223, 109, 0) := by decide +kernel
theorem mi_45_12 : mI 45 12 = (15, 7, 4, 19, 0) := by decide +kernel
theorem mi_45_15 : mI 45 15 = (1, 1, 0, 0, 0) := by decide +kernel
theorem mi_45_16 : mI 45 16 = (16, 4, 0, 20, 0) := by decide +kernel
theorem mi_45_19 : mI 45 19 = (1, 0, 0, 0, 0) := by decide +kernel
theorem mi_45_20 : mI 45 20 = (6, 0, 4, 1, 0) := by decide +kernel
theorem mi_45_22 : mI 45 22 = (3, 0, 4, 1, 0) := by decide +kernel
theorem mi_45_24 : mI 45 24 = (14, 25, 0, 49, 0) := by decide +kernel
theorem mi_45_27 : mI 45 27 = (5, 0, 0, 0, 0) := by decide +kernel
theorem mi_45_28 : mI 45 28 = (17, 299, 24, 10, 2) := by decide +kernel
theorem mi_45_31 : mI 45 31 = (3, 0, 2, 0, 0) := by decide +kernel
theorem mi_45_32 : mI 45 32 = (26, 607, 113, 102, 0) := by decide +kernel
theorem mi_45_35 : mI 45 35 = (14, 14, 0, 49, 0) := by decide +kernel
theorem mi_45_38 : mI 45 38 = (5, 0, 0, 0, 0) := by decide +kernel
theorem mi_45_39 : mI 45 39 = (17, 299, 24, 10, 2) := by decide +kernel
theorem mi_45_42 : mI 45 42 = (3, 0, 3, 0, 0) := by decide +kernel
theorem mi_45_43 : mI 45 43 = (26, 630, 145, 103, 0) := by decide +kernel
theorem mi_45_46 : mI 45 46 = (14, 6, 1, 52, 0) := by decide +kernel
theorem mi_45_49 : mI 45 49 = (1, (-2), 1, 0, 0) := by decide +kernel
theorem mi_45_51 : mI 45 51 = (27, 0, 0, 0, 0) := by decide +kernel
theorem mi_45_52 : mI 45 52 = (5, 0, 0, 0, 0) := by decide +kernel
theorem mi_45_53 : mI 45 53 = (17, 302, 41, 10, 5) := by decide +kernel
theorem mi_45_56 : mI 45 56 = (5, 0, 0, 0, 0) := by decide +kernel
theorem mi_45_57 : mI 45 57 = (17, 299, 24, 10, 2) := by decide +kernel
theorem mi_45_60 : mI 45 60 = (3, 0, 1, 0, 0) := by decide +kernel
theorem mi_45_61 : mI 45 61 = (3, 0, 2, 0, 0) := by decide +kernel
theorem mi_45_62 : mI 45 62 = (3, 0, 3, 0, 0) := by decide +kernel
theorem mi_45_63 : mI 45 63 = (1, 1, 0, 0, 0) := by decide +kernel
theorem mi_45_64 : mI 45 64 = (10, 0, 0, 0, 0) := by decide +kernel
theorem mi_45_65 : mI 45 65 = (26, 888, 271, 182, 0) := by decide +kernel
theorem mi_45_68 : mI 45 68 = (14, 7, 0, 75, 0) := by decide +kernel
theorem mi_45_71 : mI 45 71 = (1, 1, 0, 0, 0) := by decide +kernel
theorem mi_45_72 : mI 45 72 = (16, 4, 0, 76, 0) := by decide +kernel
theorem mi_45_75 : mI 45 75 = (1, 0, 0, 0, 0) := by decide +kernel
theorem mi_45_76 : mI 45 76 = (27, 0, 0, 0, 0) := by decide +kernel
theorem mi_46_0 : mI 46 0 = (5, 0, 0, 0, 0) := by decide +kernel
theorem mi_46_1 : mI 46 1 = (17, 299, 24, 10, 2) := by decide +kernel
theorem mi_46_4 : mI 46 4 = (3, 0, 1, 0, 0) := by decide +kernel
theorem mi_46_5 : mI 46 5 = (26, 607, 113, 102, 0) := by decide +kernel
theorem mi_46_8 : mI 46 8 = (14, 14, 0, 22, 0) := by decide +kernel
theorem mi_46_11 : mI 46 11 = (5, 0, 0, 0, 0) := by decide +kernel
theorem mi_46_12 : mI 46 12 = (17, 299, 24, 10, 2) := by decide +kernel
theorem mi_46_15 : mI 46 15 = (3, 0, 2, 0, 0) := by decide +kernel
theorem mi_46_16 : mI 46 16 = (26, 630, 145, 103, 0) := by decide +kernel
theorem mi_46_19 : mI 46 19 = (14, 6, 1, 25, 0) := by decide +kernel
theorem mi_46_22 : mI 46 22 = (1, (-2), 1, 0, 0) := by decide +kernel
theorem mi_46_24 : mI 46 24 = (27, 0, 0, 0, 0) := by decide +kernel
theorem mi_46_25 : mI 46 25 = (5, 0, 0, 0, 0) := by decide +kernel
theorem mi_46_26 : mI 46 26 = (17, 302, 41, 10, 5) := by decide +kernel
theorem mi_46_29 : mI 46 29 = (5, 0, 0, 0, 0) := by decide +kernel
theorem mi_46_30 : mI 46 30 = (17, 299, 24, 10, 2) := by decide +kernel
theorem mi_46_33 : mI 46 33 = (3, 0, 1, 0, 0) := by decide +kernel
theorem mi_46_34 : mI 46 34 = (3, 0, 2, 0, 0) := by decide +kernel
theorem mi_46_35 : mI 46 35 = (1, 1, 0, 0, 0) := by decide +kernel
theorem mi_46_36 : mI 46 36 = (10, 0, 0, 0, 0) := by decide +kernel
theorem mi_46_37 : mI 46 37 = (26, 896, 274, 183, 0) := by decide +kernel
theorem mi_46_40 : mI 46 40 = (26, 806, 234, 76, 1) := by decide +kernel
theorem mi_46_43 : mI 46 43 = (27, 0, 0, 0, 0) := by decide +kernel
theorem mi_47_0 : mI 47 0 = (5, 0, 0, 0, 0) := by decide +kernel
theorem mi_47_1 : mI 47 1 = (17, 299, 24, 10, 2) := by decide +kernel
theorem mi_47_4 : mI 47 4 = (3, 0, 1, 0, 0) := by decide +kernel
theorem mi_47_5 : mI 47 5 = (26, 607, 113, 102, 0) := by decide +kernel
theorem mi_47_8 : mI 47 8 = (14, 14, 0, 22, 0) := by decide +kernel
theorem mi_47_11 : mI 47 11 = (5, 0, 0, 0, 0) := by decide +kernel
theorem mi_47_12 : mI 47 12 = (17, 299, 24, 10, 2) := by decide +kernel
theorem mi_47_15 : mI 47 15 = (3, 0, 2, 0, 0) := by decide +kernel
theorem mi_47_16 : mI 47 16 = (26, 630, 145, 103, 0) := by decide +kernel
theorem mi_47_19 : mI 47 19 = (14, 6, 1, 25, 0) := by decide +kernel
theorem mi_47_22 : mI 47 22 = (1, (-2), 1, 0, 0) := by decide +kernel
theorem mi_47_24 : mI 47 24 = (27, 0, 0, 0, 0) := by decide +kernel
theorem mi_47_25 : mI 47 25 = (5, 0, 0, 0, 0) := by decide +kernel
theorem mi_47_26 : mI 47 26 = (17, 302, 41, 10, 5) := by decide +kernel
theorem mi_47_29 : mI 47 29 = (5, 0, 0, 0, 0) := by decide +kernel
theorem mi_47_30 : mI 47 30 = (17, 299, 24, 10, 2) := by decide +kernel
theorem mi_47_33 : mI 47 33 = (3, 0, 1, 0, 0) := by decide +kernel
theorem mi_47_34 : mI 47 34 = (3, 0, 2, 0, 0) := by decide +kernel
theorem mi_47_35 : mI 47 35 = (1, 1, 0, 0, 0) := by decide +kernel
theorem mi_47_36 : mI 47 36 = (10, 0, 0, 0, 0) := by decide +kernel
theorem mi_47_37 : mI 47 37 = (26, 896, 274, 183, 0) := by decide +kernel
theorem mi_47_40 : mI 47 40 = (27, 0, 0, 0, 0) := by decide +kernel
theorem mi_64_0 : mI 64 0 = (3, 0, 1, 0, 0) := by decide +kernel
theorem mi_64_1 : mI 64 1 = (14, 32, 2, 33, 0) := by decide +kernel
theorem mi_64_4 : mI 64 4 = (3, 0, 1, 0, 0) := by decide +kernel
theorem mi_64_5 : mI 64 5 = (1, 2000000000, 4, 366, 1126) := by decide +kernel
theorem mi_64_8 : mI 64 8 = (15, 25, 4, 33, 0) := by decide +kernel
theorem mi_64_11 : mI 64 11 = (5, 0, 0, 0, 0) := by decide +kernel
theorem mi_64_12 : mI 64 12 = (17, 299, 24, 10, 2) := by decide +kernel
theorem mi_64_15 : mI 64 15 = (3, 0, 2, 0, 0) := by decide +kernel
theorem mi_64_16 : mI 64 16 = (26, 607, 113, 102, 0) := by decide +kernel
theorem mi_64_19 : mI 64 19 = (14, 14, 0, 33, 0) := by decide +kernel
theorem mi_64_22 : mI 64 22 = (5, 0, 0, 0, 0) := by decide +kernel
theorem mi_64_23 : mI 64 23 = (17, 299, 24, 10, 2) := by decide +kernel
theorem mi_64_26 : mI 64 26 = (3, 0, 3, 0, 0) := by decide +kernel
theorem mi_64_27 : mI 64 27 = (26, 607, 113, 102, 0) := by decide +kernel
theorem mi_64_30 : mI 64 30 = (14, 6, 1, 36, 0) := by decide +kernel
theorem mi_64_33 : mI 64 33 = (1, (-2), 1, 0, 0) := by decide +kernel
theorem mi_64_35 : mI 64 35 = (27, 0, 0, 0, 0) := by decide +kernel
theorem mi_64_36 : mI 64 36 = (5, 0, 0, 0, 0) := by decide +kernel
theorem mi_64_37 : mI 64 37 = (17, 301, 34, 10, 4) := by decide +kernel
theorem mi_64_40 : mI 64 40 = (5, 0, 0, 0, 0) := by decide +kernel
theorem mi_64_41 : mI 64 41 = (17, 299, 24, 10, 2) := by decide +kernel
theorem mi_64_44 : mI 64 44 = (3, 0, 1, 0, 0) := by decide +kernel
theorem mi_64_45 : mI 64 45 = (12, 0, 1, 0, 0) := by decide +kernel
theorem mi_64_46 : mI 64 46 = (26, 1127, 367, 97, 0) := by decide +kernel
theorem mi_64_49 : mI 64 49 = (5, 0, 0, 0, 0) := by decide +kernel
theorem mi_64_50 : mI 64 50 = (17, 301, 34, 10, 4) := by decide +kernel
theorem mi_64_53 : mI 64 53 = (3, 0, 2, 0, 0) := by decide +kernel
theorem mi_64_54 : mI 64 54 = (3, 0, 3, 0, 0) := by decide +kernel
theorem mi_64_55 : mI 64 55 = (26, 1136, 371, 88, 0) := by decide +kernel
theorem mi_64_58 : mI 64 58 = (27, 0, 0, 0, 0) := by decide +kernel
theorem mi_73_0 : mI 73 0 = (5, 0, 0, 0, 0) := by decide +kernel
theorem mi_73_1 : mI 73 1 = (17, 301, 34, 10, 4) := by decide +kernel
theorem mi_73_4 : mI 73 4 = (5, 0, 0, 0, 0) := by decide +kernel
theorem mi_73_5 : mI 73 5 = (17, 299, 24, 10, 2) := by decide +kernel
theorem mi_73_8 : mI 73 8 = (26, 532, 404, 85, 0) := by decide +kernel
theorem mi_73_11 : mI 73 11 = (5, 0, 0, 0, 0) := by decide +kernel
theorem mi_73_12 : mI 73 12 = (17, 302, 41, 10, 5) := by decide +kernel
theorem mi_73_15 : mI 73 15 = (5, 0, 0, 0, 0) := by decide +kernel
theorem mi_73_16 : mI 73 16 = (17, 299, 24, 10, 2) := by decide +kernel
theorem mi_73_19 : mI 73 19 = (5, 0, 0, 0, 0) := by decide +kernel
theorem mi_73_20 : mI 73 20 = (17, 301, 34, 10, 4) := by decide +kernel
theorem mi_73_23 : mI 73 23 = (26, 553, 407, 173, 0) := by decide +kernel
theorem mi_73_26 : mI 73 26 = (27, 0, 2, 0, 0) := by decide +kernel
theorem mi_75_0 : mI 75 0 = (3, 0, 0, 0, 0) := by decide +kernel
theorem mi_75_1 : mI 75 1 = (14, 5, 3, 6, 0) := by decide +kernel
theorem mi_75_4 : mI 75 4 = (1, (-1), 0, 0, 0) := by decide +kernel
theorem mi_75_5 : mI 75 5 = (27, 0, 0, 0, 0) := by decide +kernel
theorem mi_75_6 : mI 75 6 = (3, 0, 0, 0, 0) := by decide +kernel
theorem mi_75_7 : mI 75 7 = (14, 8, 1, 15, 0) := by decide +kernel
theorem mi_75_10 : mI 75 10 = (1, (-3), 1, 0, 0) := by decide +kernel
theorem mi_75_12 : mI 75 12 = (16, 6, 0, 18, 0) := by decide +kernel
theorem mi_75_15 : mI 75 15 = (3, 0, 0, 0, 0) := by decide +kernel
theorem mi_75_16 : mI 75 16 = (1, 1, 0, 0, 0) := by decide +kernel
theorem mi_75_17 : mI 75 17 = (10, 0, 1, 0, 0) := by decide +kernel
theorem mi_75_18 : mI 75 18 = (27, 0, 0, 0, 0) := by decide +kernel
theorem mi_76_0 : mI 76 0 = (3, 0, 0, 0, 0) := by decide +kernel
theorem mi_76_1 : mI 76 1 = (14, 7, 3, 8, 0) := by decide +kernel
theorem mi_76_4 : mI 76 4 = (1, (-1), 0, 0, 0) := by decide +kernel
theorem mi_76_5 : mI 76 5 = (16, 7, 0, 12, 0) := by decide +kernel
theorem mi_76_8 : mI 76 8 = (3, 0, 0, 0, 0) := by decide +kernel
theorem mi_76_9 : mI 76 9 = (26, 757, 215, 344, 1) := by decide +kernel
theorem mi_76_12 : mI 76 12 = (27, 0, 0, 0, 0) := by decide +kernel
theorem mi_78_0 : mI 78 0 = (1, 0, 0, 0, 0) := by decide +kernel
theorem mi_78_1 : mI 78 1 = (6, 0, 5, 1, 0) := by decide +kernel
theorem mi_78_3 : mI 78 3 = (3, 0, 5, 1, 0) := by decide +kernel
theorem mi_78_5 : mI 78 5 = (5, 0, 1, 0, 0) := by decide +kernel
theorem mi_78_6 : mI 78 6 = (17, 100, 18, 2, 4) := by decide +kernel
theorem mi_78_9 : mI 78 9 = (15, 29, 3, 38, 0) := by decide +kernel
theorem mi_78_12 : mI 78 12 = (5, 0, 0, 0, 0) := by decide +kernel
theorem mi_78_13 : mI 78 13 = (17, 228, 9, 0, 0) := by decide +kernel
theorem mi_78_16 : mI 78 16 = (3, 0, 5, 1, 0) := by decide +kernel
theorem mi_78_18 : mI 78 18 = (5, 0, 2, 0, 0) := by decide +kernel
theorem mi_78_19 : mI 78 19 = (3, 0, 3, 0, 0) := by decide +kernel
theorem mi_78_20 : mI 78 20 = (3, 0, 5, 1, 0) := by decide +kernel
theorem mi_78_22 : mI 78 22 = (5, 0, 1, 0, 0) := by decide +kernel
theorem mi_78_23 : mI 78 23 = (17, 96, 24, 2, 3) := by decide +kernel
theorem mi_78_26 : mI 78 26 = (26, 787, 27, 176, 0) := by decide +kernel
theorem mi_78_29 : mI 78 29 = (26, 788, 33, 148, 1) := by decide +kernel
theorem mi_78_32 : mI 78 32 = (9, 1, 5, 0, 0) := by decide +kernel
theorem mi_78_35 : mI 78 35 = (16, (-32), 0, 3, 0) := by decide +kernel
theorem mi_78_38 : mI 78 38 = (1, 0, 0, 0, 0) := by decide +kernel
theorem mi_78_39 : mI 78 39 = (6, 0, 5, 1, 0) := by decide +kernel
theorem mi_78_41 : mI 78 41 = (1, 0, 0, 0, 0) := by decide +kernel
theorem mi_78_42 : mI 78 42 = (6, 0, 6, 1, 0) := by decide +kernel
theorem mi_78_44 : mI 78 44 = (3, 0, 6, 1, 0) := by decide +kernel
theorem mi_78_46 : mI 78 46 = (1, 6, 1, 0, 0) := by decide +kernel
theorem mi_78_48 : mI 78 48 = (15, 95, 3, 143, 0) := by decide +kernel
theorem mi_78_51 : mI 78 51 = (1, 0, 0, 0, 0) := by decide +kernel
theorem mi_78_52 : mI 78 52 = (6, 0, 7, 1, 0) := by decide +kernel
theorem mi_78_54 : mI 78 54 = (3, 0, 7, 1, 0) := by decide +kernel
theorem mi_78_56 : mI 78 56 = (5, 0, 1, 0, 0) := by decide +kernel
theorem mi_78_57 : mI 78 57 = (17, 100, 18, 2, 4) := by decide +kernel
theorem mi_78_60 : mI 78 60 = (15, 77, 3, 137, 0) := by decide +kernel
theorem mi_78_63 : mI 78 63 = (3, 0, 7, 1, 0) := by decide +kernel
theorem mi_78_65 : mI 78 65 = (3, 0, 3, 0, 0) := by decide +kernel
theorem mi_78_66 : mI 78 66 = (15, 22, 0, 88, 0) := by decide +kernel
theorem mi_78_69 : mI 78 69 = (3, 0, 4, 1, 0) := by decide +kernel
theorem mi_78_71 : mI 78 71 = (3, 0, 5, 1, 0) := by decide +kernel
theorem mi_78_73 : mI 78 73 = (1, (-1), 0, 0, 0) := by decide +kernel
theorem mi_78_74 : mI 78 74 = (10, 0, 7, 0, 0) := by decide +kernel
theorem mi_78_75 : mI 78 75 = (10, 0, 5, 0, 0) := by decide +kernel
theorem mi_78_76 : mI 78 76 = (1, 1, 0, 0, 0) := by decide +kernel
theorem mi_78_77 : mI 78 77 = (3, 0, 7, 1, 0) := by decide +kernel
theorem mi_78_79 : mI 78 79 = (10, 0, 8, 0, 0) := by decide +kernel
theorem mi_78_80 : mI 78 80 = (10, 0, 5, 0, 0) := by decide +kernel
theorem mi_78_81 : mI 78 81 = (14, 7, 0, 88, 0) := by decide +kernel
theorem mi_78_84 : mI 78 84 = (1, 1, 0, 0, 0) := by decide +kernel
theorem mi_78_85 : mI 78 85 = (16, 4, 0, 89, 0) := by decide +kernel
theorem mi_78_88 : mI 78 88 = (1, 0, 0, 0, 0) := by decide +kernel
theorem mi_78_89 : mI 78 89 = (6, 0, 8, 1, 0) := by decide +kernel
theorem mi_78_91 : mI 78 91 = (3, 0, 8, 1, 0) := by decide +kernel
theorem mi_78_93 : mI 78 93 = (14, 38, 0, 131, 0) := by decide +kernel
theorem mi_78_96 : mI 78 96 = (5, 0, 0, 0, 0) := by decide +kernel
theorem mi_78_97 : mI 78 97 = (17, 228, 9, 0, 0) := by decide +kernel
theorem mi_78_100 : mI 78 100 = (3, 0, 7, 1, 0) := by decide +kernel
theorem mi_78_102 : mI 78 102 = (26, 789, 39, 147, 1) := by decide +kernel
theorem mi_78_105 : mI 78 105 = (5, 0, 1, 0, 0) := by decide +kernel
theorem mi_78_106 : mI 78 106 = (3, 0, 7, 1, 0) := by decide +kernel
theorem mi_78_108 : mI 78 108 = (26, 790, 43, 108, 0) := by decide +kernel
theorem mi_78_111 : mI 78 111 = (15, 20, 1, 131, 0) := by decide +kernel
theorem mi_78_114 : mI 78 114 = (3, 0, 5, 1, 0) := by decide +kernel
theorem mi_78_116 : mI 78 116 = (1, 1, 0, 0, 0) := by decide +kernel
theorem mi_78_117 : mI 78 117 = (3, 0, 7, 1, 0) := by decide +kernel
theorem mi_78_119 : mI 78 119 = (10, 0, 8, 0, 0) := by decide +kernel
theorem mi_78_120 : mI 78 120 = (10, 0, 6, 0, 0) := by decide +kernel
theorem mi_78_121 : mI 78 121 = (6, 0, 5, 1, 0) := by decide +kernel
theorem mi_78_123 : mI 78 123 = (5, 0, 0, 0, 0) := by decide +kernel
theorem mi_78_124 : mI 78 124 = (5, 0, 1, 0, 0) := by decide +kernel
theorem mi_78_125 : mI 78 125 = (5, 0, 2, 0, 0) := by decide +kernel
theorem mi_78_126 : mI 78 126 = (3, 0, 7, 1, 0) := by decide +kernel
theorem mi_78_128 : mI 78 128 = (26, 791, 47, 79, 0) := by decide +kernel
theorem mi_78_131 : mI 78 131 = (9, 1, 7, 0, 0) := by decide +kernel
theorem mi_78_134 : mI 78 134 = (16, (-80), 0, 54, 0) := by decide +kernel
theorem mi_78_137 : mI 78 137 = (9, 1, 6, 0, 0) := by decide +kernel
theorem mi_78_140 : mI 78 140 = (16, (-96), 0, 44, 0) := by decide +kernel
theorem mi_78_143 : mI 78 143 = (3, 0, 5, 1, 0) := by decide +kernel
theorem mi_78_145 : mI 78 145 = (27, 0, 0, 0, 0) := by decide +kernel
theorem mi_79_0 : mI 79 0 = (1, 0, 0, 0, 0) := by decide +kernel
theorem mi_79_1 : mI 79 1 = (6, 0, 4, 1, 0) := by decide +kernel
theorem mi_79_3 : mI 79 3 = (3, 0, 4, 1, 0) := by decide +kernel
theorem mi_79_5 : mI 79 5 = (5, 0, 1, 0, 0) := by decide +kernel
theorem mi_79_6 : mI 79 6 = (17, 100, 18, 2, 4) := by decide +kernel
theorem mi_79_9 : mI 79 9 = (15, 39, 3, 48, 0) := by decide +kernel
theorem mi_79_12 : mI 79 12 = (5, 0, 0, 0, 0) := by decide +kernel
theorem mi_79_13 : mI 79 13 = (17, 228, 9, 0, 0) := by decide +kernel
theorem mi_79_16 : mI 79 16 = (3, 0, 4, 1, 0) := by decide +kernel
theorem mi_79_18 : mI 79 18 = (5, 0, 0, 0, 0) := by decide +kernel
theorem mi_79_19 : mI 79 19 = (17, 228, 9, 0, 0) := by decide +kernel
theorem mi_79_22 : mI 79 22 = (3, 0, 4, 1, 0) := by decide +kernel
theorem mi_79_24 : mI 79 24 = (26, 789, 39, 147, 1) := by decide +kernel
theorem mi_79_27 : mI 79 27 = (5, 0, 2, 0, 0) := by decide +kernel
theorem mi_79_28 : mI 79 28 = (3, 0, 3, 0, 0) := by decide +kernel
theorem mi_79_29 : mI 79 29 = (3, 0, 4, 1, 0) := by decide +kernel
theorem mi_79_31 : mI 79 31 = (5, 0, 1, 0, 0) := by decide +kernel
theorem mi_79_32 : mI 79 32 = (17, 96, 24, 2, 3) := by decide +kernel
theorem mi_79_35 : mI 79 35 = (26, 787, 27, 176, 0) := by decide +kernel
theorem mi_79_38 : mI 79 38 = (10, 0, 6, 0, 0) := by decide +kernel
theorem mi_79_39 : mI 79 39 = (26, 788, 33, 148, 1) := by decide +kernel
theorem mi_79_42 : mI 79 42 = (9, 1, 4, 0, 0) := by decide +kernel
theorem mi_79_45 : mI 79 45 = (16, (-42), 0, 3, 0) := by decide +kernel
theorem mi_79_48 : mI 79 48 = (27, 0, 2, 0, 0) := by decide +kernel
theorem mi_80_0 : mI 80 0 = (1, (-1), 0, 0, 0) := by decide +kernel
theorem mi_80_1 : mI 80 1 = (6, 0, 5, 1, 0) := by decide +kernel
theorem mi_80_3 : mI 80 3 = (1, 7, 1, 0, 0) := by decide +kernel
theorem mi_80_5 : mI 80 5 = (6, 0, 6, 1, 0) := by decide +kernel
theorem mi_80_7 : mI 80 7 = (1, 0, 0, 0, 0) := by decide +kernel
theorem mi_80_8 : mI 80 8 = (6, 0, 7, 1, 0) := by decide +kernel
theorem mi_80_10 : mI 80 10 = (3, 0, 7, 1, 0) := by decide +kernel
theorem mi_80_12 : mI 80 12 = (5, 0, 1, 0, 0) := by decide +kernel
theorem mi_80_13 : mI 80 13 = (26, 803, 51, 109, 0) := by decide +kernel
theorem mi_80_16 : mI 80 16 = (15, 75, 4, 91, 0) := by decide +kernel
theorem mi_80_19 : mI 80 19 = (3, 0, 7, 1, 0) := by decide +kernel
theorem mi_80_21 : mI 80 21 = (3, 0, 4, 1, 0) := by decide +kernel
theorem mi_80_23 : mI 80 23 = (10, 0, 9, 0, 0) := by decide +kernel
theorem mi_80_24 : mI 80 24 = (1, 1, 0, 0, 0) := by decide +kernel
theorem mi_80_25 : mI 80 25 = (10, 0, 5, 0, 0) := by decide +kernel
theorem mi_80_26 : mI 80 26 = (14, 16, 0, 42, 0) := by decide +kernel
theorem mi_80_29 : mI 80 29 = (3, 0, 7, 1, 0) := by decide +kernel
theorem mi_80_31 : mI 80 31 = (3, 0, 3, 0, 0) := by decide +kernel
theorem mi_80_32 : mI 80 32 = (10, 0, 9, 0, 0) := by decide +kernel
theorem mi_80_33 : mI 80 33 = (1, 1, 0, 0, 0) := by decide +kernel
theorem mi_80_34 : mI 80 34 = (10, 0, 5, 0, 0) := by decide +kernel
theorem mi_80_35 : mI 80 35 = (14, 7, 1, 42, 0) := by decide +kernel
theorem mi_80_38 : mI 80 38 = (1, 1, 0, 0, 0) := by decide +kernel
theorem mi_80_39 : mI 80 39 = (16, 4, 0, 43, 0) := by decide +kernel
theorem mi_80_42 : mI 80 42 = (1, 0, 0, 0, 0) := by decide +kernel
theorem mi_80_43 : mI 80 43 = (6, 0, 8, 1, 0) := by decide +kernel
theorem mi_80_45 : mI 80 45 = (3, 0, 8, 1, 0) := by decide +kernel
theorem mi_80_47 : mI 80 47 = (14, 38, 0, 85, 0) := by decide +kernel
theorem mi_80_50 : mI 80 50 = (3, 0, 7, 1, 0) := by decide +kernel
theorem mi_80_52 : mI 80 52 = (26, 804, 55, 344, 1) := by decide +kernel
theorem mi_80_55 : mI 80 55 = (3, 0, 6, 1, 0) := by decide +kernel
theorem mi_80_57 : mI 80 57 = (15, 28, 3, 85, 0) := by decide +kernel
theorem mi_80_60 : mI 80 60 = (5, 0, 0, 0, 0) := by decide +kernel
theorem mi_80_61 : mI 80 61 = (5, 0, 1, 0, 0) := by decide +kernel
theorem mi_80_62 : mI 80 62 = (5, 0, 2, 0, 0) := by decide +kernel
theorem mi_80_63 : mI 80 63 = (3, 0, 3, 0, 0) := by decide +kernel
theorem mi_80_64 : mI 80 64 = (3, 0, 7, 1, 0) := by decide +kernel
theorem mi_80_66 : mI 80 66 = (26, 805, 60, 78, 0) := by decide +kernel
theorem mi_80_69 : mI 80 69 = (3, 0, 7, 1, 0) := by decide +kernel
theorem mi_80_71 : mI 80 71 = (15, 14, 1, 85, 0) := by decide +kernel
theorem mi_80_74 : mI 80 74 = (3, 0, 7, 1, 0) := by decide +kernel
theorem mi_80_76 : mI 80 76 = (6, 0, 5, 1, 0) := by decide +kernel
theorem mi_80_78 : mI 80 78 = (3, 0, 7, 1, 0) := by decide +kernel
theorem mi_80_80 : mI 80 80 = (26, 804, 55, 344, 1) := by decide +kernel
theorem mi_80_83 : mI 80 83 = (6, 0, 6, 1, 0) := by decide +kernel
theorem mi_80_85 : mI 80 85 = (9, 1, 7, 0, 0) := by decide +kernel
theorem mi_80_88 : mI 80 88 = (16, (-78), 0, 10, 0) := by decide +kernel
theorem mi_80_91 : mI 80 91 = (3, 0, 5, 1, 0) := by decide +kernel
theorem mi_80_93 : mI 80 93 = (27, 0, 0, 0, 0) := by decide +kernel
theorem mi_81_0 : mI 81 0 = (1, 0, 0, 0, 0) := by decide +kernel
theorem mi_81_1 : mI 81 1 = (6, 0, 3, 0, 0) := by decide +kernel
theorem mi_81_2 : mI 81 2 = (3, 0, 3, 0, 0) := by decide +kernel
theorem mi_81_3 : mI 81 3 = (5, 0, 1, 0, 0) := by decide +kernel
theorem mi_81_4 : mI 81 4 = (17, 100, 18, 2, 4) := by decide +kernel
theorem mi_81_7 : mI 81 7 = (15, 23, 3, 30, 0) := by decide +kernel
theorem mi_81_10 : mI 81 10 = (5, 0, 0, 0, 0) := by decide +kernel
theorem mi_81_11 : mI 81 11 = (17, 229, 15, 0, 1) := by decide +kernel
theorem mi_81_14 : mI 81 14 = (3, 0, 3, 0, 0) := by decide +kernel
theorem mi_81_15 : mI 81 15 = (5, 0, 1, 0, 0) := by decide +kernel
theorem mi_81_16 : mI 81 16 = (5, 0, 2, 0, 0) := by decide +kernel
theorem mi_81_17 : mI 81 17 = (3, 0, 3, 0, 0) := by decide +kernel
theorem mi_81_18 : mI 81 18 = (26, 825, 64, 82, 1) := by decide +kernel
theorem mi_81_21 : mI 81 21 = (26, 788, 33, 148, 1) := by decide +kernel
theorem mi_81_24 : mI 81 24 = (9, 1, 3, 0, 0) := by decide +kernel
theorem mi_81_27 : mI 81 27 = (16, (-25), 0, 2, 0) := by decide +kernel
theorem mi_81_30 : mI 81 30 = (1, 0, 0, 0, 0) := by decide +kernel
theorem mi_81_31 : mI 81 31 = (6, 0, 3, 0, 0) := by decide +kernel
theorem mi_81_32 : mI 81 32 = (3, 0, 3, 0, 0) := by decide +kernel
theorem mi_81_33 : mI 81 33 = (1, 6, 1, 0, 0) := by decide +kernel
theorem mi_81_35 : mI 81 35 = (15, 50, 3, 85, 0) := by decide +kernel
theorem mi_81_38 : mI 81 38 = (1, 0, 0, 0, 0) := by decide +kernel
theorem mi_81_39 : mI 81 39 = (6, 0, 4, 1, 0) := by decide +kernel
theorem mi_81_41 : mI 81 41 = (3, 0, 4, 1, 0) := by decide +kernel
theorem mi_81_43 : mI 81 43 = (5, 0, 1, 0, 0) := by decide +kernel
theorem mi_81_44 : mI 81 44 = (17, 100, 18, 2, 4) := by decide +kernel
theorem mi_81_47 : mI 81 47 = (15, 32, 3, 79, 0) := by decide +kernel
theorem mi_81_50 : mI 81 50 = (5, 0, 0, 0, 0) := by decide +kernel
theorem mi_81_51 : mI 81 51 = (17, 229, 15, 0, 1) := by decide +kernel
theorem mi_81_54 : mI 81 54 = (3, 0, 4, 1, 0) := by decide +kernel
theorem mi_81_56 : mI 81 56 = (5, 0, 0, 0, 0) := by decide +kernel
theorem mi_81_57 : mI 81 57 = (5, 0, 1, 0, 0) := by decide +kernel
theorem mi_81_58 : mI 81 58 = (5, 0, 0, 0, 0) := by decide +kernel
theorem mi_81_59 : mI 81 59 = (17, 229, 15, 0, 1) := by decide +kernel
theorem mi_81_62 : mI 81 62 = (3, 0, 4, 1, 0) := by decide +kernel
theorem mi_81_64 : mI 81 64 = (26, 789, 39, 147, 1) := by decide +kernel
theorem mi_81_67 : mI 81 67 = (26, 829, 68, 83, 0) := by decide +kernel
theorem mi_81_70 : mI 81 70 = (26, 788, 33, 148, 1) := by decide +kernel
theorem mi_81_73 : mI 81 73 = (9, 1, 4, 0, 0) := by decide +kernel
theorem mi_81_76 : mI 81 76 = (16, (-35), 0, 41, 0) := by decide +kernel
theorem mi_81_79 : mI 81 79 = (9, 1, 3, 0, 0) := by decide +kernel
theorem mi_81_82 : mI 81 82 = (16, (-50), 0, 32, 0) := by decide +kernel
theorem mi_81_85 : mI 81 85 = (1, 0, 0, 0, 0) := by decide +kernel
theorem mi_81_86 : mI 81 86 = (6, 0, 3, 0, 0) := by decide +kernel
theorem mi_81_87 : mI 81 87 = (1, 0, 0, 0, 0) := by decide +kernel
theorem mi_81_88 : mI 81 88 = (6, 0, 4, 1, 0) := by decide +kernel
theorem mi_81_90 : mI 81 90 = (3, 0, 4, 1, 0) := by decide +kernel
theorem mi_81_92 : mI 81 92 = (5, 0, 1, 0, 0) := by decide +kernel
theorem mi_81_93 : mI 81 93 = (17, 100, 18, 2, 4) := by decide +kernel
theorem mi_81_96 : mI 81 96 = (15, 26, 3, 122, 0) := by decide +kernel
theorem mi_81_99 : mI 81 99 = (3, 0, 3, 0, 0) := by decide +kernel
theorem mi_81_100 : mI 81 100 = (5, 0, 0, 0, 0) := by decide +kernel
theorem mi_81_101 : mI 81 101 = (17, 229, 15, 0, 1) := by decide +kernel
theorem mi_81_104 : mI 81 104 = (3, 0, 4, 1, 0) := by decide +kernel
theorem mi_81_106 : mI 81 106 = (26, 789, 39, 147, 1) := by decide +kernel
theorem mi_81_109 : mI 81 109 = (1, 1, 0, 0, 0) := by decide +kernel
theorem mi_81_110 : mI 81 110 = (3, 0, 4, 1, 0) := by decide +kernel
theorem mi_81_112 : mI 81 112 = (10, 0, 8, 0, 0) := by decide +kernel
theorem mi_81_113 : mI 81 113 = (10, 0, 5, 0, 0) := by decide +kernel
theorem mi_81_114 : mI 81 114 = (10, 0, 6, 0, 0) := by decide +kernel
theorem mi_81_115 : mI 81 115 = (6, 0, 3, 0, 0) := by decide +kernel
theorem mi_81_116 : mI 81 116 = (9, 1, 4, 0, 0) := by decide +kernel
theorem mi_81_119 : mI 81 119 = (16, (-29), 0, 90, 0) := by decide +kernel
theorem mi_81_122 : mI 81 122 = (3, 0, 3, 0, 0) := by decide +kernel
theorem mi_81_123 : mI 81 123 = (27, 0, 0, 0, 0) := by decide +kernel
theorem mi_82_0 : mI 82 0 = (1, 0, 0, 0, 0) := by decide +kernel
theorem mi_82_1 : mI 82 1 = (6, 0, 3, 0, 0) := by decide +kernel
theorem mi_82_2 : mI 82 2 = (1, 0, 0, 0, 0) := by decide +kernel
theorem mi_82_3 : mI 82 3 = (6, 0, 4, 1, 0) := by decide +kernel
theorem mi_82_5 : mI 82 5 = (3, 0, 4, 1, 0) := by decide +kernel
theorem mi_82_7 : mI 82 7 = (5, 0, 0, 0, 0) := by decide +kernel
theorem mi_82_8 : mI 82 8 = (17, 100, 18, 2, 4) := by decide +kernel
theorem mi_82_11 : mI 82 11 = (15, 37, 3, 48, 0) := by decide +kernel
theorem mi_82_14 : mI 82 14 = (3, 0, 4, 1, 0) := by decide +kernel
theorem mi_82_16 : mI 82 16 = (3, 0, 2, 0, 0) := by decide +kernel
theorem mi_82_17 : mI 82 17 = (15, 25, 0, 42, 0) := by decide +kernel
theorem mi_82_20 : mI 82 20 = (5, 0, 1, 0, 0) := by decide +kernel
theorem mi_82_21 : mI 82 21 = (5, 0, 0, 0, 0) := by decide +kernel
theorem mi_82_22 : mI 82 22 = (3, 0, 2, 0, 0) := by decide +kernel
theorem mi_82_23 : mI 82 23 = (3, 0, 4, 1, 0) := by decide +kernel
theorem mi_82_25 : mI 82 25 = (5, 0, 0, 0, 0) := by decide +kernel
theorem mi_82_26 : mI 82 26 = (17, 96, 24, 2, 3) := by decide +kernel
theorem mi_82_29 : mI 82 29 = (26, 828, 72, 177, 0) := by decide +kernel
theorem mi_82_32 : mI 82 32 = (14, 10, 0, 42, 0) := by decide +kernel
theorem mi_82_35 : mI 82 35 = (3, 0, 3, 0, 0) := by decide +kernel
theorem mi_82_36 : mI 82 36 = (1, 1, 0, 0, 0) := by decide +kernel
theorem mi_82_37 : mI 82 37 = (3, 0, 4, 1, 0) := by decide +kernel
theorem mi_82_39 : mI 82 39 = (10, 0, 8, 0, 0) := by decide +kernel
theorem mi_82_40 : mI 82 40 = (10, 0, 6, 0, 0) := by decide +kernel
theorem mi_82_41 : mI 82 41 = (6, 0, 3, 0, 0) := by decide +kernel
theorem mi_82_42 : mI 82 42 = (9, 1, 4, 0, 0) := by decide +kernel
theorem mi_82_45 : mI 82 45 = (16, (-40), 0, 5, 0) := by decide +kernel
theorem mi_82_48 : mI 82 48 = (3, 0, 3, 0, 0) := by decide +kernel
theorem mi_82_49 : mI 82 49 = (27, 0, 0, 0, 0) := by decide +kernel
theorem mi_83_0 : mI 83 0 = (3, 0, 2, 0, 0) := by decide +kernel
theorem mi_83_1 : mI 83 1 = (6, 0, 3, 0, 0) := by decide +kernel
theorem mi_83_2 : mI 83 2 = (1, 0, 0, 0, 0) := by decide +kernel
theorem mi_83_3 : mI 83 3 = (6, 0, 4, 1, 0) := by decide +kernel
theorem mi_83_5 : mI 83 5 = (3, 0, 4, 1, 0) := by decide +kernel
theorem mi_83_7 : mI 83 7 = (5, 0, 1, 0, 0) := by decide +kernel
theorem mi_83_8 : mI 83 8 = (17, 100, 18, 2, 4) := by decide +kernel
theorem mi_83_11 : mI 83 11 = (15, 30, 3, 41, 0) := by decide +kernel
theorem mi_83_14 : mI 83 14 = (3, 0, 2, 0, 0) := by decide +kernel
theorem mi_83_15 : mI 83 15 = (3, 0, 4, 1, 0) := by decide +kernel
theorem mi_83_17 : mI 83 17 = (10, 0, 9, 0, 0) := by decide +kernel
theorem mi_83_18 : mI 83 18 = (1, 1, 0, 0, 0) := by decide +kernel
theorem mi_83_19 : mI 83 19 = (10, 0, 5, 0, 0) := by decide +kernel
theorem mi_83_20 : mI 83 20 = (14, 15, 0, 35, 0) := by decide +kernel
theorem mi_83_23 : mI 83 23 = (3, 0, 3, 0, 0) := by decide +kernel
theorem mi_83_24 : mI 83 24 = (5, 0, 0, 0, 0) := by decide +kernel
theorem mi_83_25 : mI 83 25 = (17, 229, 15, 0, 1) := by decide +kernel
theorem mi_83_28 : mI 83 28 = (3, 0, 4, 1, 0) := by decide +kernel
theorem mi_83_30 : mI 83 30 = (26, 789, 39, 147, 1) := by decide +kernel
theorem mi_83_33 : mI 83 33 = (10, 0, 6, 0, 0) := by decide +kernel
theorem mi_83_34 : mI 83 34 = (6, 0, 3, 0, 0) := by decide +kernel
theorem mi_83_35 : mI 83 35 = (9, 1, 4, 0, 0) := by decide +kernel
theorem mi_83_38 : mI 83 38 = (16, (-33), 0, 5, 0) := by decide +kernel
theorem mi_83_41 : mI 83 41 = (3, 0, 3, 0, 0) := by decide +kernel
theorem mi_83_42 : mI 83 42 = (27, 0, 0, 0, 0) := by decide +kernel
theorem mi_85_0 : mI 85 0 = (1, 0, 0, 0, 0) := by decide +kernel
theorem mi_85_1 : mI 85 1 = (6, 0, 2, 0, 0) := by decide +kernel
theorem mi_85_2 : mI 85 2 = (1, 0, 0, 0, 0) := by decide +kernel
theorem mi_85_3 : mI 85 3 = (6, 0, 3, 0, 0) := by decide +kernel
theorem mi_85_4 : mI 85 4 = (3, 0, 3, 0, 0) := by decide +kernel
theorem mi_85_5 : mI 85 5 = (5, 0, 1, 0, 0) := by decide +kernel
theorem mi_85_6 : mI 85 6 = (17, 94, 21, 2, 3) := by decide +kernel
theorem mi_85_9 : mI 85 9 = (15, 53, 3, 62, 0) := by decide +kernel
theorem mi_85_12 : mI 85 12 = (1, 0, 0, 0, 0) := by decide +kernel
theorem mi_85_13 : mI 85 13 = (6, 0, 4, 1, 0) := by decide +kernel
theorem mi_85_15 : mI 85 15 = (3, 0, 4, 1, 0) := by decide +kernel
theorem mi_85_17 : mI 85 17 = (5, 0, 1, 0, 0) := by decide +kernel
theorem mi_85_18 : mI 85 18 = (17, 108, 27, 2, 5) := by decide +kernel
theorem mi_85_21 : mI 85 21 = (15, 35, 3, 56, 0) := by decide +kernel
theorem mi_85_24 : mI 85 24 = (5, 0, 1, 0, 0) := by decide +kernel
theorem mi_85_25 : mI 85 25 = (17, 145, 30, 2, 16) := by decide +kernel
theorem mi_85_28 : mI 85 28 = (3, 0, 4, 1, 0) := by decide +kernel
theorem mi_85_30 : mI 85 30 = (26, 536, 33, 147, 1) := by decide +kernel
theorem mi_85_33 : mI 85 33 = (3, 0, 3, 0, 0) := by decide +kernel
theorem mi_85_34 : mI 85 34 = (15, 16, 1, 50, 0) := by decide +kernel
theorem mi_85_37 : mI 85 37 = (5, 0, 0, 0, 0) := by decide +kernel
theorem mi_85_38 : mI 85 38 = (17, 190, 9, 1, 0) := by decide +kernel
theorem mi_85_41 : mI 85 41 = (3, 0, 2, 0, 0) := by decide +kernel
theorem mi_85_42 : mI 85 42 = (3, 0, 4, 1, 0) := by decide +kernel
theorem mi_85_44 : mI 85 44 = (26, 537, 39, 148, 1) := by decide +kernel
theorem mi_85_47 : mI 85 47 = (9, 1, 2, 0, 0) := by decide +kernel
theorem mi_85_50 : mI 85 50 = (9, 1, 4, 0, 0) := by decide +kernel
theorem mi_85_53 : mI 85 53 = (16, (-38), 0, 15, 0) := by decide +kernel
theorem mi_85_56 : mI 85 56 = (9, 1, 3, 0, 0) := by decide +kernel
theorem mi_85_59 : mI 85 59 = (16, (-55), 0, 4, 0) := by decide +kernel
theorem mi_85_62 : mI 85 62 = (1, 0, 0, 0, 0) := by decide +kernel
theorem mi_85_63 : mI 85 63 = (6, 0, 3, 0, 0) := by decide +kernel
theorem mi_85_64 : mI 85 64 = (3, 0, 3, 0, 0) := by decide +kernel
theorem mi_85_65 : mI 85 65 = (5, 0, 1, 0, 0) := by decide +kernel
theorem mi_85_66 : mI 85 66 = (17, 108, 27, 2, 5) := by decide +kernel
theorem mi_85_69 : mI 85 69 = (15, 37, 3, 106, 0) := by decide +kernel
theorem mi_85_72 : mI 85 72 = (5, 0, 0, 0, 0) := by decide +kernel
theorem mi_85_73 : mI 85 73 = (17, 191, 15, 1, 1) := by decide +kernel
theorem mi_85_76 : mI 85 76 = (3, 0, 3, 0, 0) := by decide +kernel
theorem mi_85_77 : mI 85 77 = (5, 0, 1, 0, 0) := by decide +kernel
theorem mi_85_78 : mI 85 78 = (5, 0, 1, 0, 0) := by decide +kernel
theorem mi_85_79 : mI 85 79 = (17, 136, 43, 2, 13) := by decide +kernel
theorem mi_85_82 : mI 85 82 = (3, 0, 3, 0, 0) := by decide +kernel
theorem mi_85_83 : mI 85 83 = (26, 536, 33, 147, 1) := by decide +kernel
theorem mi_85_86 : mI 85 86 = (5, 0, 1, 0, 0) := by decide +kernel
theorem mi_85_87 : mI 85 87 = (17, 145, 30, 2, 16) := by decide +kernel
theorem mi_85_90 : mI 85 90 = (3, 0, 3, 0, 0) := by decide +kernel
theorem mi_85_91 : mI 85 91 = (26, 536, 33, 147, 1) := by decide +kernel
theorem mi_85_94 : mI 85 94 = (26, 538, 46, 86, 1) := by decide +kernel
theorem mi_85_97 : mI 85 97 = (26, 537, 39, 148, 1) := by decide +kernel
theorem mi_85_100 : mI 85 100 = (9, 1, 3, 0, 0) := by decide +kernel
theorem mi_85_103 : mI 85 103 = (16, (-39), 0, 64, 0) := by decide +kernel
theorem mi_85_106 : mI 85 106 = (27, 0, 2, 0, 0) := by decide +kernel
theorem mi_86_0 : mI 86 0 = (1, 0, 0, 0, 0) := by decide +kernel
theorem mi_86_1 : mI 86 1 = (6, 0, 3, 0, 0) := by decide +kernel
theorem mi_86_2 : mI 86 2 = (1, 0, 0, 0, 0) := by decide +kernel
theorem mi_86_3 : mI 86 3 = (6, 0, 4, 1, 0) := by decide +kernel
theorem mi_86_5 : mI 86 5 = (3, 0, 4, 1, 0) := by decide +kernel
theorem mi_86_7 : mI 86 7 = (5, 0, 0, 0, 0) := by decide +kernel
theorem mi_86_8 : mI 86 8 = (17, 104, 50, 2, 4) := by decide +kernel
theorem mi_86_11 : mI 86 11 = (15, 38, 3, 49, 0) := by decide +kernel
theorem mi_86_14 : mI 86 14 = (3, 0, 4, 1, 0) := by decide +kernel
theorem mi_86_16 : mI 86 16 = (3, 0, 1, 0, 0) := by decide +kernel
theorem mi_86_17 : mI 86 17 = (15, 26, 0, 43, 0) := by decide +kernel
theorem mi_86_20 : mI 86 20 = (5, 0, 0, 0, 0) := by decide +kernel
theorem mi_86_21 : mI 86 21 = (3, 0, 4, 1, 0) := by decide +kernel
theorem mi_86_23 : mI 86 23 = (3, 0, 2, 0, 0) := by decide +kernel
theorem mi_86_24 : mI 86 24 = (26, 541, 53, 110, 0) := by decide +kernel
theorem mi_86_27 : mI 86 27 = (5, 0, 0, 0, 0) := by decide +kernel
theorem mi_86_28 : mI 86 28 = (3, 0, 1, 0, 0) := by decide +kernel
theorem mi_86_29 : mI 86 29 = (3, 0, 2, 0, 0) := by decide +kernel
theorem mi_86_30 : mI 86 30 = (26, 541, 53, 110, 0) := by decide +kernel
theorem mi_86_33 : mI 86 33 = (15, 10, 1, 43, 0) := by decide +kernel
theorem mi_86_36 : mI 86 36 = (3, 0, 3, 0, 0) := by decide +kernel
theorem mi_86_37 : mI 86 37 = (1, 1, 0, 0, 0) := by decide +kernel
theorem mi_86_38 : mI 86 38 = (3, 0, 4, 1, 0) := by decide +kernel
theorem mi_86_40 : mI 86 40 = (10, 0, 8, 0, 0) := by decide +kernel
theorem mi_86_41 : mI 86 41 = (10, 0, 6, 0, 0) := by decide +kernel
theorem mi_86_42 : mI 86 42 = (6, 0, 3, 0, 0) := by decide +kernel
theorem mi_86_43 : mI 86 43 = (9, 1, 4, 0, 0) := by decide +kernel
theorem mi_86_46 : mI 86 46 = (16, (-41), 0, 5, 0) := by decide +kernel
theorem mi_86_49 : mI 86 49 = (3, 0, 3, 0, 0) := by decide +kernel
theorem mi_86_50 : mI 86 50 = (27, 0, 0, 0, 0) := by decide +kernel
theorem mi_87_0 : mI 87 0 = (5, 0, 1, 0, 0) := by decide +kernel
theorem mi_87_1 : mI 87 1 = (17, 132, 57, 2, 12) := by decide +kernel
theorem mi_87_4 : mI 87 4 = (5, 0, 0, 0, 0) := by decide +kernel
theorem mi_87_5 : mI 87 5 = (17, 192, 18, 1, 2) := by decide +kernel
theorem mi_87_8 : mI 87 8 = (26, 562, 60, 150, 1) := by decide +kernel
theorem mi_87_11 : mI 87 11 = (1, 0, 0, 0, 0) := by decide +kernel
theorem mi_87_12 : mI 87 12 = (6, 0, 2, 0, 0) := by decide +kernel
theorem mi_87_13 : mI 87 13 = (3, 0, 2, 0, 0) := by decide +kernel
theorem mi_87_14 : mI 87 14 = (5, 0, 1, 0, 0) := by decide +kernel
theorem mi_87_15 : mI 87 15 = (17, 104, 50, 2, 4) := by decide +kernel
theorem mi_87_18 : mI 87 18 = (15, 27, 3, 45, 0) := by decide +kernel
theorem mi_87_21 : mI 87 21 = (5, 0, 0, 0, 0) := by decide +kernel
theorem mi_87_22 : mI 87 22 = (17, 192, 18, 1, 2) := by decide +kernel
theorem mi_87_25 : mI 87 25 = (3, 0, 2, 0, 0) := by decide +kernel
theorem mi_87_26 : mI 87 26 = (1, 6, 1, 0, 0) := by decide +kernel
theorem mi_87_28 : mI 87 28 = (10, 0, 2, 0, 0) := by decide +kernel
theorem mi_87_29 : mI 87 29 = (3, 0, 2, 0, 0) := by decide +kernel
theorem mi_87_30 : mI 87 30 = (10, 0, 0, 0, 0) := by decide +kernel
theorem mi_87_31 : mI 87 31 = (5, 0, 1, 0, 0) := by decide +kernel
theorem mi_87_32 : mI 87 32 = (3, 0, 2, 0, 0) := by decide +kernel
theorem mi_87_33 : mI 87 33 = (26, 563, 64, 108, 0) := by decide +kernel
theorem mi_87_36 : mI 87 36 = (26, 537, 39, 148, 1) := by decide +kernel
theorem mi_87_39 : mI 87 39 = (9, 1, 2, 0, 0) := by decide +kernel
theorem mi_87_42 : mI 87 42 = (16, (-29), 0, 13, 0) := by decide +kernel
theorem mi_87_45 : mI 87 45 = (27, 0, 2, 0, 0) := by decide +kernel
theorem mi_88_0 : mI 88 0 = (5, 0, 0, 0, 0) := by decide +kernel
theorem mi_88_1 : mI 88 1 = (17, 192, 18, 1, 2) := by decide +kernel
theorem mi_88_4 : mI 88 4 = (3, 0, 1, 0, 0) := by decide +kernel
theorem mi_88_5 : mI 88 5 = (1, 6, 1, 0, 0) := by decide +kernel
theorem mi_88_7 : mI 88 7 = (10, 0, 2, 0, 0) := by decide +kernel
theorem mi_88_8 : mI 88 8 = (3, 0, 2, 0, 0) := by decide +kernel
theorem mi_88_9 : mI 88 9 = (10, 0, 0, 0, 0) := by decide +kernel
theorem mi_88_10 : mI 88 10 = (26, 536, 33, 147, 1) := by decide +kernel
theorem mi_88_13 : mI 88 13 = (27, 0, 0, 0, 0) := by decide +kernel
theorem mi_89_0 : mI 89 0 = (5, 0, 0, 0, 0) := by decide +kernel
theorem mi_89_1 : mI 89 1 = (17, 191, 15, 1, 1) := by decide +kernel
theorem mi_89_4 : mI 89 4 = (3, 0, 1, 0, 0) := by decide +kernel
theorem mi_89_5 : mI 89 5 = (26, 536, 33, 147, 1) := by decide +kernel
theorem mi_89_8 : mI 89 8 = (27, 0, 0, 0, 0) := by decide +kernel
theorem mi_90_0 : mI 90 0 = (5, 0, 0, 0, 0) := by decide +kernel
theorem mi_90_1 : mI 90 1 = (17, 190, 9, 1, 0) := by decide +kernel
theorem mi_90_4 : mI 90 4 = (3, 0, 1, 0, 0) := by decide +kernel
theorem mi_90_5 : mI 90 5 = (26, 536, 33, 147, 1) := by decide +kernel
theorem mi_90_8 : mI 90 8 = (27, 0, 0, 0, 0) := by decide +kernel
theorem mi_91_0 : mI 91 0 = (5, 0, 0, 0, 0) := by decide +kernel
theorem mi_91_1 : mI 91 1 = (5, 0, 1, 0, 0) := by decide +kernel
theorem mi_91_2 : mI 91 2 = (17, 136, 43, 2, 13) := by decide +kernel
theorem mi_91_5 : mI 91 5 = (3, 0, 2, 0, 0) := by decide +kernel
theorem mi_91_6 : mI 91 6 = (26, 536, 33, 147, 1) := by decide +kernel
theorem mi_91_9 : mI 91 9 = (5, 0, 1, 0, 0) := by decide +kernel
theorem mi_91_10 : mI 91 10 = (17, 139, 68, 2, 14) := by decide +kernel
theorem mi_91_13 : mI 91 13 = (3, 0, 2, 0, 0) := by decide +kernel
theorem mi_91_14 : mI 91 14 = (26, 536, 33, 147, 1) := by decide +kernel
theorem mi_91_17 : mI 91 17 = (26, 590, 71, 88, 0) := by decide +kernel
theorem mi_91_20 : mI 91 20 = (6, 0, 3, 0, 0) := by decide +kernel
theorem mi_91_21 : mI 91 21 = (3, 0, 3, 0, 0) := by decide +kernel
theorem mi_91_22 : mI 91 22 = (5, 0, 1, 0, 0) := by decide +kernel
theorem mi_91_23 : mI 91 23 = (17, 142, 74, 2, 15) := by decide +kernel
theorem mi_91_26 : mI 91 26 = (3, 0, 2, 0, 0) := by decide +kernel
theorem mi_91_27 : mI 91 27 = (26, 536, 33, 147, 1) := by decide +kernel
theorem mi_91_30 : mI 91 30 = (10, 0, 9, 0, 0) := by decide +kernel
theorem mi_91_31 : mI 91 31 = (1, 1, 0, 0, 0) := by decide +kernel
theorem mi_91_32 : mI 91 32 = (10, 0, 5, 0, 0) := by decide +kernel
theorem mi_91_33 : mI 91 33 = (14, 7, 0, 40, 0) := by decide +kernel
theorem mi_91_36 : mI 91 36 = (1, 1, 0, 0, 0) := by decide +kernel
theorem mi_91_37 : mI 91 37 = (16, 4, 0, 41, 0) := by decide +kernel
theorem mi_91_40 : mI 91 40 = (1, 0, 0, 0, 0) := by decide +kernel
theorem mi_91_41 : mI 91 41 = (27, 0, 0, 0, 0) := by decide +kernel
theorem mi_92_0 : mI 92 0 = (5, 0, 1, 0, 0) := by decide +kernel
theorem mi_92_1 : mI 92 1 = (17, 139, 68, 2, 14) := by decide +kernel
theorem mi_92_4 : mI 92 4 = (3, 0, 2, 0, 0) := by decide +kernel
theorem mi_92_5 : mI 92 5 = (26, 536, 33, 147, 1) := by decide +kernel
theorem mi_92_8 : mI 92 8 = (6, 0, 4, 1, 0) := by decide +kernel
theorem mi_92_10 : mI 92 10 = (1, 1, 0, 0, 0) := by decide +kernel
theorem mi_92_11 : mI 92 11 = (5, 0, 1, 0, 0) := by decide +kernel
theorem mi_92_12 : mI 92 12 = (17, 142, 74, 2, 15) := by decide +kernel
theorem mi_92_15 : mI 92 15 = (3, 0, 2, 0, 0) := by decide +kernel
theorem mi_92_16 : mI 92 16 = (26, 536, 33, 147, 1) := by decide +kernel
theorem mi_92_19 : mI 92 19 = (10, 0, 8, 0, 0) := by decide +kernel
theorem mi_92_20 : mI 92 20 = (6, 0, 5, 1, 0) := by decide +kernel
theorem mi_92_22 : mI 92 22 = (1, 0, 0, 0, 0) := by decide +kernel
theorem mi_92_23 : mI 92 23 = (6, 0, 6, 1, 0) := by decide +kernel
theorem mi_92_25 : mI 92 25 = (1, 0, 0, 0, 0) := by decide +kernel
theorem mi_92_26 : mI 92 26 = (6, 0, 7, 1, 0) := by decide +kernel
theorem mi_92_28 : mI 92 28 = (3, 0, 7, 1, 0) := by decide +kernel
theorem mi_92_30 : mI 92 30 = (5, 0, 1, 0, 0) := by decide +kernel
theorem mi_92_31 : mI 92 31 = (17, 104, 50, 2, 4) := by decide +kernel
theorem mi_92_34 : mI 92 34 = (15, 67, 3, 101, 0) := by decide +kernel
theorem mi_92_37 : mI 92 37 = (3, 0, 3, 0, 0) := by decide +kernel
theorem mi_92_38 : mI 92 38 = (3, 0, 7, 1, 0) := by decide +kernel
theorem mi_92_40 : mI 92 40 = (10, 0, 9, 0, 0) := by decide +kernel
theorem mi_92_41 : mI 92 41 = (1, 1, 0, 0, 0) := by decide +kernel
theorem mi_92_42 : mI 92 42 = (10, 0, 5, 0, 0) := by decide +kernel
theorem mi_92_43 : mI 92 43 = (14, 52, 0, 95, 0) := by decide +kernel
theorem mi_92_46 : mI 92 46 = (5, 0, 0, 0, 0) := by decide +kernel
theorem mi_92_47 : mI 92 47 = (3, 0, 7, 1, 0) := by decide +kernel
theorem mi_92_49 : mI 92 49 = (3, 0, 4, 1, 0) := by decide +kernel
theorem mi_92_51 : mI 92 51 = (26, 590, 71, 88, 0) := by decide +kernel
theorem mi_92_54 : mI 92 54 = (3, 0, 5, 1, 0) := by decide +kernel
theorem mi_92_56 : mI 92 56 = (10, 0, 5, 0, 0) := by decide +kernel
theorem mi_92_57 : mI 92 57 = (14, 38, 1, 95, 0) := by decide +kernel
theorem mi_92_60 : mI 92 60 = (5, 0, 0, 0, 0) := by decide +kernel
theorem mi_92_61 : mI 92 61 = (17, 192, 18, 1, 2) := by decide +kernel
theorem mi_92_64 : mI 92 64 = (3, 0, 7, 1, 0) := by decide +kernel
theorem mi_92_66 : mI 92 66 = (1, 6, 1, 0, 0) := by decide +kernel
theorem mi_92_68 : mI 92 68 = (10, 0, 2, 0, 0) := by decide +kernel
theorem mi_92_69 : mI 92 69 = (3, 0, 4, 1, 0) := by decide +kernel
theorem mi_92_71 : mI 92 71 = (10, 0, 0, 0, 0) := by decide +kernel
theorem mi_92_72 : mI 92 72 = (5, 0, 0, 0, 0) := by decide +kernel
theorem mi_92_73 : mI 92 73 = (3, 0, 7, 1, 0) := by decide +kernel
theorem mi_92_75 : mI 92 75 = (3, 0, 4, 1, 0) := by decide +kernel
theorem mi_92_77 : mI 92 77 = (26, 590, 71, 88, 0) := by decide +kernel
theorem mi_92_80 : mI 92 80 = (3, 0, 5, 1, 0) := by decide +kernel
theorem mi_92_82 : mI 92 82 = (10, 0, 6, 0, 0) := by decide +kernel
theorem mi_92_83 : mI 92 83 = (26, 537, 39, 148, 1) := by decide +kernel
theorem mi_92_86 : mI 92 86 = (3, 0, 6, 1, 0) := by decide +kernel
theorem mi_92_88 : mI 92 88 = (1, 1, 0, 0, 0) := by decide +kernel
theorem mi_92_89 : mI 92 89 = (3, 0, 7, 1, 0) := by decide +kernel
theorem mi_92_91 : mI 92 91 = (10, 0, 8, 0, 0) := by decide +kernel
theorem mi_92_92 : mI 92 92 = (10, 0, 6, 0, 0) := by decide +kernel
theorem mi_92_93 : mI 92 93 = (6, 0, 6, 1, 0) := by decide +kernel
theorem mi_92_95 : mI 92 95 = (9, 1, 7, 0, 0) := by decide +kernel
theorem mi_92_98 : mI 92 98 = (16, (-70), 0, 28, 0) := by decide +kernel
theorem mi_92_101 : mI 92 101 = (3, 0, 6, 1, 0) := by decide +kernel
theorem mi_92_103 : mI 92 103 = (27, 0, 0, 0, 0) := by decide +kernel
theorem mi_93_0 : mI 93 0 = (5, 0, 0, 0, 0) := by decide +kernel
theorem mi_93_1 : mI 93 1 = (5, 0, 1, 0, 0) := by decide +kernel
theorem mi_93_2 : mI 93 2 = (26, 845, 77, 87, 0) := by decide +kernel
theorem mi_93_5 : mI 93 5 = (1, 0, 0, 0, 0) := by decide +kernel
theorem mi_93_6 : mI 93 6 = (6, 0, 5, 1, 0) := by decide +kernel
theorem mi_93_8 : mI 93 8 = (3, 0, 5, 1, 0) := by decide +kernel
theorem mi_93_10 : mI 93 10 = (5, 0, 1, 0, 0) := by decide +kernel
theorem mi_93_11 : mI 93 11 = (17, 108, 27, 2, 5) := by decide +kernel
theorem mi_93_14 : mI 93 14 = (15, 51, 3, 65, 0) := by decide +kernel
theorem mi_93_17 : mI 93 17 = (5, 0, 0, 0, 0) := by decide +kernel
theorem mi_93_18 : mI 93 18 = (3, 0, 5, 1, 0) := by decide +kernel
theorem mi_93_20 : mI 93 20 = (26, 846, 81, 90, 0) := by decide +kernel
theorem mi_93_23 : mI 93 23 = (6, 0, 6, 1, 0) := by decide +kernel
theorem mi_93_25 : mI 93 25 = (3, 0, 4, 1, 0) := by decide +kernel
theorem mi_93_27 : mI 93 27 = (3, 0, 6, 1, 0) := by decide +kernel
theorem mi_93_29 : mI 93 29 = (10, 0, 9, 0, 0) := by decide +kernel
theorem mi_93_30 : mI 93 30 = (1, 1, 0, 0, 0) := by decide +kernel
theorem mi_93_31 : mI 93 31 = (10, 0, 5, 0, 0) := by decide +kernel
theorem mi_93_32 : mI 93 32 = (14, 27, 1, 59, 0) := by decide +kernel
theorem mi_93_35 : mI 93 35 = (5, 0, 0, 0, 0) := by decide +kernel
theorem mi_93_36 : mI 93 36 = (5, 0, 1, 0, 0) := by decide +kernel
theorem mi_93_37 : mI 93 37 = (3, 0, 6, 1, 0) := by decide +kernel
theorem mi_93_39 : mI 93 39 = (26, 847, 84, 91, 0) := by decide +kernel
theorem mi_93_42 : mI 93 42 = (14, 17, 0, 59, 0) := by decide +kernel
theorem mi_93_45 : mI 93 45 = (5, 0, 0, 0, 0) := by decide +kernel
theorem mi_93_46 : mI 93 46 = (5, 0, 1, 0, 0) := by decide +kernel
theorem mi_93_47 : mI 93 47 = (3, 0, 6, 1, 0) := by decide +kernel
theorem mi_93_49 : mI 93 49 = (5, 0, 0, 0, 0) := by decide +kernel
theorem mi_93_50 : mI 93 50 = (3, 0, 6, 1, 0) := by decide +kernel
theorem mi_93_52 : mI 93 52 = (26, 848, 88, 89, 0) := by decide +kernel
theorem mi_93_55 : mI 93 55 = (26, 849, 91, 92, 0) := by decide +kernel
theorem mi_93_58 : mI 93 58 = (22, 0, 2, 0, 0) := by decide +kernel
theorem mi_93_59 : mI 93 59 = (9, 1, 5, 0, 0) := by decide +kernel
theorem mi_93_62 : mI 93 62 = (16, (-54), 0, 8, 0) := by decide +kernel
theorem mi_93_65 : mI 93 65 = (5, 0, 0, 0, 0) := by decide +kernel
theorem mi_93_66 : mI 93 66 = (3, 0, 2, 0, 0) := by decide +kernel
theorem mi_93_67 : mI 93 67 = (3, 0, 3, 0, 0) := by decide +kernel
theorem mi_93_68 : mI 93 68 = (26, 590, 71, 88, 0) := by decide +kernel
theorem mi_93_71 : mI 93 71 = (5, 0, 1, 0, 0) := by decide +kernel
theorem mi_93_72 : mI 93 72 = (3, 0, 3, 0, 0) := by decide +kernel
theorem mi_93_73 : mI 93 73 = (26, 563, 64, 108, 0) := by decide +kernel
theorem mi_93_76 : mI 93 76 = (15, 7, 1, 83, 0) := by decide +kernel
theorem mi_93_79 : mI 93 79 = (1, 1, 0, 0, 0) := by decide +kernel
theorem mi_93_80 : mI 93 80 = (16, 4, 0, 84, 0) := by decide +kernel
theorem mi_93_83 : mI 93 83 = (1, 0, 0, 0, 0) := by decide +kernel
theorem mi_93_84 : mI 93 84 = (27, 0, 0, 0, 0) := by decide +kernel
theorem mi_97_0 : mI 97 0 = (4, 0, 2, 0, 0) := by decide +kernel
theorem mi_97_1 : mI 97 1 = (7, 0, 4, 1, 0) := by decide +kernel
theorem mi_97_3 : mI 97 3 = (5, 0, 0, 0, 0) := by decide +kernel
theorem mi_97_4 : mI 97 4 = (5, 0, 1, 0, 0) := by decide +kernel
theorem mi_97_5 : mI 97 5 = (26, 845, 77, 87, 0) := by decide +kernel
theorem mi_97_8 : mI 97 8 = (1, 0, 0, 0, 0) := by decide +kernel
theorem mi_97_9 : mI 97 9 = (6, 0, 6, 1, 0) := by decide +kernel
theorem mi_97_11 : mI 97 11 = (3, 0, 6, 1, 0) := by decide +kernel
theorem mi_97_13 : mI 97 13 = (5, 0, 1, 0, 0) := by decide +kernel
theorem mi_97_14 : mI 97 14 = (17, 108, 27, 2, 5) := by decide +kernel
theorem mi_97_17 : mI 97 17 = (15, 128, 3, 145, 0) := by decide +kernel
theorem mi_97_20 : mI 97 20 = (5, 0, 0, 0, 0) := by decide +kernel
theorem mi_97_21 : mI 97 21 = (3, 0, 6, 1, 0) := by decide +kernel
theorem mi_97_23 : mI 97 23 = (26, 846, 81, 90, 0) := by decide +kernel
theorem mi_97_26 : mI 97 26 = (6, 0, 7, 1, 0) := by decide +kernel
theorem mi_97_28 : mI 97 28 = (5, 0, 0, 0, 0) := by decide +kernel
theorem mi_97_29 : mI 97 29 = (5, 0, 1, 0, 0) := by decide +kernel
theorem mi_97_30 : mI 97 30 = (3, 0, 7, 1, 0) := by decide +kernel
theorem mi_97_32 : mI 97 32 = (26, 847, 84, 91, 0) := by decide +kernel
theorem mi_97_35 : mI 97 35 = (14, 104, 0, 139, 0) := by decide +kernel
theorem mi_97_38 : mI 97 38 = (5, 0, 0, 0, 0) := by decide +kernel
theorem mi_97_39 : mI 97 39 = (3, 0, 7, 1, 0) := by decide +kernel
theorem mi_97_41 : mI 97 41 = (26, 848, 88, 89, 0) := by decide +kernel
theorem mi_97_44 : mI 97 44 = (6, 0, 8, 1, 0) := by decide +kernel
theorem mi_97_46 : mI 97 46 = (1, 0, 0, 0, 0) := by decide +kernel
theorem mi_97_47 : mI 97 47 = (6, 0, 9, 1, 0) := by decide +kernel
theorem mi_97_49 : mI 97 49 = (3, 0, 9, 1, 0) := by decide +kernel
theorem mi_97_51 : mI 97 51 = (5, 0, 1, 0, 0) := by decide +kernel
theorem mi_97_52 : mI 97 52 = (17, 104, 50, 2, 4) := by decide +kernel
theorem mi_97_55 : mI 97 55 = (15, 74, 3, 129, 0) := by decide +kernel
theorem mi_97_58 : mI 97 58 = (5, 0, 0, 0, 0) := by decide +kernel
theorem mi_97_59 : mI 97 59 = (3, 0, 7, 1, 0) := by decide +kernel
theorem mi_97_61 : mI 97 61 = (26, 848, 88, 89, 0) := by decide +kernel
theorem mi_97_64 : mI 97 64 = (3, 0, 9, 1, 0) := by decide +kernel
theorem mi_97_66 : mI 97 66 = (10, 0, 9, 0, 0) := by decide +kernel
theorem mi_97_67 : mI 97 67 = (1, 1, 0, 0, 0) := by decide +kernel
theorem mi_97_68 : mI 97 68 = (10, 0, 5, 0, 0) := by decide +kernel
theorem mi_97_69 : mI 97 69 = (14, 54, 0, 123, 0) := by decide +kernel
theorem mi_97_72 : mI 97 72 = (2, 1103515245, 1, 105, 1131) := by decide +kernel
theorem mi_97_75 : mI 97 75 = (4, 0, 4, 1, 0) := by decide +kernel
theorem mi_97_77 : mI 97 77 = (11, 0, 2, 0, 0) := by decide +kernel
theorem mi_97_78 : mI 97 78 = (2, 12345, 1, 107, 1132) := by decide +kernel
theorem mi_97_81 : mI 97 81 = (11, 0, 0, 0, 0) := by decide +kernel
theorem mi_97_82 : mI 97 82 = (2, 2147483648, 1, 109, 1133) := by decide +kernel
theorem mi_97_85 : mI 97 85 = (11, 0, 4, 0, 0) := by decide +kernel
theorem mi_97_86 : mI 97 86 = (7, 0, 4, 1, 0) := by decide +kernel
theorem mi_97_88 : mI 97 88 = (4, 0, 4, 1, 0) := by decide +kernel
theorem mi_97_90 : mI 97 90 = (2, 65536, 1, 111, 1134) := by decide +kernel
theorem mi_97_93 : mI 97 93 = (11, 0, 3, 0, 0) := by decide +kernel
theorem mi_97_94 : mI 97 94 = (2, 100, 1, 113, 1135) := by decide +kernel
theorem mi_97_97 : mI 97 97 = (11, 0, 4, 0, 0) := by decide +kernel
theorem mi_97_98 : mI 97 98 = (5, 0, 1, 0, 0) := by decide +kernel
theorem mi_97_99 : mI 97 99 = (17, 123, 94, 2, 9) := by decide +kernel
theorem mi_97_102 : mI 97 102 = (3, 0, 9, 1, 0) := by decide +kernel
theorem mi_97_104 : mI 97 104 = (26, 536, 33, 147, 1) := by decide +kernel
theorem mi_97_107 : mI 97 107 = (12, 0, 1, 0, 0) := by decide +kernel
theorem mi_97_108 : mI 97 108 = (13, 0, 0, 0, 0) := by decide +kernel
theorem mi_97_109 : mI 97 109 = (14, 14, 3, 123, 0) := by decide +kernel
theorem mi_97_112 : mI 97 112 = (3, 0, 8, 1, 0) := by decide +kernel
theorem mi_97_114 : mI 97 114 = (1, 1, 0, 0, 0) := by decide +kernel
theorem mi_97_115 : mI 97 115 = (3, 0, 9, 1, 0) := by decide +kernel
theorem mi_97_117 : mI 97 117 = (10, 0, 8, 0, 0) := by decide +kernel
theorem mi_97_118 : mI 97 118 = (1, (-1), 0, 0, 0) := by decide +kernel
theorem mi_97_119 : mI 97 119 = (10, 0, 7, 0, 0) := by decide +kernel
theorem mi_97_120 : mI 97 120 = (10, 0, 5, 0, 0) := by decide +kernel
theorem mi_97_121 : mI 97 121 = (6, 0, 8, 1, 0) := by decide +kernel
theorem mi_97_123 : mI 97 123 = (9, 1, 9, 0, 0) := by decide +kernel
theorem mi_97_126 : mI 97 126 = (16, (-77), 0, 49, 0) := by decide +kernel
theorem mi_97_129 : mI 97 129 = (5, 0, 0, 0, 0) := by decide +kernel
theorem mi_97_130 : mI 97 130 = (5, 0, 1, 0, 0) := by decide +kernel
theorem mi_97_131 : mI 97 131 = (3, 0, 7, 1, 0) := by decide +kernel
theorem mi_97_133 : mI 97 133 = (3, 0, 8, 1, 0) := by decide +kernel
theorem mi_97_135 : mI 97 135 = (26, 849, 91, 92, 0) := by decide +kernel
theorem mi_97_138 : mI 97 138 = (22, 0, 2, 0, 0) := by decide +kernel
theorem mi_97_139 : mI 97 139 = (9, 1, 6, 0, 0) := by decide +kernel
theorem mi_97_142 : mI 97 142 = (16, (-131), 0, 11, 0) := by decide +kernel
theorem mi_97_145 : mI 97 145 = (27, 0, 2, 0, 0) := by decide +kernel
theorem mi_108_0 : mI 108 0 = (1, 1, 0, 0, 0) := by decide +kernel
theorem mi_108_1 : mI 108 1 = (5, 0, 0, 0, 0) := by decide +kernel
theorem mi_108_2 : mI 108 2 = (3, 0, 1, 0, 0) := by decide +kernel
theorem mi_108_3 : mI 108 3 = (26, 567, 78, 106, 0) := by decide +kernel
theorem mi_108_6 : mI 108 6 = (10, 0, 8, 0, 0) := by decide +kernel
theorem mi_108_7 : mI 108 7 = (1, 1, 0, 0, 0) := by decide +kernel
theorem mi_108_8 : mI 108 8 = (10, 0, 1, 0, 0) := by decide +kernel
theorem mi_108_9 : mI 108 9 = (27, 0, 0, 0, 0) := by decide +kernel
theorem mi_109_0 : mI 109 0 = (1, 1, 0, 0, 0) := by decide +kernel
theorem mi_109_1 : mI 109 1 = (5, 0, 0, 0, 0) := by decide +kernel
theorem mi_109_2 : mI 109 2 = (17, 103, 58, 2, 4) := by decide +kernel
theorem mi_109_5 : mI 109 5 = (10, 0, 8, 0, 0) := by decide +kernel
theorem mi_109_6 : mI 109 6 = (1, 1, 0, 0, 0) := by decide +kernel
theorem mi_109_7 : mI 109 7 = (10, 0, 1, 0, 0) := by decide +kernel
theorem mi_109_8 : mI 109 8 = (27, 0, 0, 0, 0) := by decide +kernel
theorem mi_113_0 : mI 113 0 = (1, 0, 0, 0, 0) := by decide +kernel
theorem mi_113_1 : mI 113 1 = (6, 0, 2, 0, 0) := by decide +kernel
theorem mi_113_2 : mI 113 2 = (1, 0, 0, 0, 0) := by decide +kernel
theorem mi_113_3 : mI 113 3 = (6, 0, 3, 0, 0) := by decide +kernel
theorem mi_113_4 : mI 113 4 = (3, 0, 3, 0, 0) := by decide +kernel
theorem mi_113_5 : mI 113 5 = (5, 0, 0, 0, 0) := by decide +kernel
theorem mi_113_6 : mI 113 6 = (17, 109, 61, 2, 5) := by decide +kernel
theorem mi_113_9 : mI 113 9 = (15, 27, 3, 36, 0) := by decide +kernel
theorem mi_113_12 : mI 113 12 = (5, 0, 0, 0, 0) := by decide +kernel
theorem mi_113_13 : mI 113 13 = (17, 135, 33, 2, 13) := by decide +kernel
theorem mi_113_16 : mI 113 16 = (3, 0, 3, 0, 0) := by decide +kernel
theorem mi_113_17 : mI 113 17 = (26, 520, 82, 147, 1) := by decide +kernel
theorem mi_113_20 : mI 113 20 = (3, 0, 1, 0, 0) := by decide +kernel
theorem mi_113_21 : mI 113 21 = (15, 9, 1, 30, 0) := by decide +kernel
theorem mi_113_24 : mI 113 24 = (3, 0, 2, 0, 0) := by decide +kernel
theorem mi_113_25 : mI 113 25 = (1, 1, 0, 0, 0) := by decide +kernel
theorem mi_113_26 : mI 113 26 = (3, 0, 3, 0, 0) := by decide +kernel
theorem mi_113_27 : mI 113 27 = (10, 0, 8, 0, 0) := by decide +kernel
theorem mi_113_28 : mI 113 28 = (10, 0, 6, 0, 0) := by decide +kernel
theorem mi_113_29 : mI 113 29 = (6, 0, 2, 0, 0) := by decide +kernel
theorem mi_113_30 : mI 113 30 = (9, 1, 3, 0, 0) := by decide +kernel
theorem mi_113_33 : mI 113 33 = (16, (-29), 0, 4, 0) := by decide +kernel
theorem mi_113_36 : mI 113 36 = (3, 0, 2, 0, 0) := by decide +kernel
theorem mi_113_37 : mI 113 37 = (27, 0, 0, 0, 0) := by decide +kernel
theorem mi_173_0 : mI 173 0 = (5, 0, 0, 0, 0) := by decide +kernel
theorem mi_173_1 : mI 173 1 = (1, 0, 0, 0, 0) := by decide +kernel
theorem mi_173_2 : mI 173 2 = (18, 211, 21, 8, 3) := by decide +kernel
theorem mi_173_5 : mI 173 5 = (5, 0, 0, 0, 0) := by decide +kernel
theorem mi_173_6 : mI 173 6 = (17, 207, 15, 8, 1) := by decide +kernel
theorem mi_173_9 : mI 173 9 = (1, 0, 0, 0, 0) := by decide +kernel
theorem mi_173_10 : mI 173 10 = (26, 557, 25, 149, 1) := by decide +kernel
theorem mi_173_13 : mI 173 13 = (5, 0, 0, 0, 0) := by decide +kernel
theorem mi_173_14 : mI 173 14 = (17, 209, 18, 8, 2) := by decide +kernel
theorem mi_173_17 : mI 173 17 = (1, 0, 0, 0, 0) := by decide +kernel
theorem mi_173_18 : mI 173 18 = (26, 557, 25, 149, 1) := by decide +kernel
theorem mi_173_21 : mI 173 21 = (5, 0, 2, 0, 0) := by decide +kernel
theorem mi_173_22 : mI 173 22 = (5, 0, 1, 0, 0) := by decide +kernel
theorem mi_173_23 : mI 173 23 = (26, 558, 31, 87, 0) := by decide +kernel
theorem mi_173_26 : mI 173 26 = (5, 0, 0, 0, 0) := by decide +kernel
theorem mi_173_27 : mI 173 27 = (5, 0, 2, 0, 0) := by decide +kernel
theorem mi_173_28 : mI 173 28 = (1, 0, 0, 0, 0) := by decide +kernel
theorem mi_173_29 : mI 173 29 = (26, 568, 37, 175, 0) := by decide +kernel
theorem mi_173_32 : mI 173 32 = (1, 0, 0, 0, 0) := by decide +kernel
theorem mi_173_33 : mI 173 33 = (6, 0, 3, 0, 0) := by decide +kernel
theorem mi_173_34 : mI 173 34 = (1, 0, 0, 0, 0) := by decide +kernel
theorem mi_173_35 : mI 173 35 = (6, 0, 4, 1, 0) := by decide +kernel
theorem mi_173_37 : mI 173 37 = (3, 0, 4, 1, 0) := by decide +kernel
theorem mi_173_39 : mI 173 39 = (5, 0, 1, 0, 0) := by decide +kernel
theorem mi_173_40 : mI 173 40 = (17, 97, 41, 2, 3) := by decide +kernel
theorem mi_173_43 : mI 173 43 = (15, 60, 3, 103, 0) := by decide +kernel
theorem mi_173_46 : mI 173 46 = (3, 0, 3, 0, 0) := by decide +kernel
theorem mi_173_47 : mI 173 47 = (5, 0, 1, 0, 0) := by decide +kernel
theorem mi_173_48 : mI 173 48 = (17, 110, 46, 2, 5) := by decide +kernel
theorem mi_173_51 : mI 173 51 = (15, 37, 3, 88, 0) := by decide +kernel
theorem mi_173_54 : mI 173 54 = (5, 0, 1, 0, 0) := by decide +kernel
theorem mi_173_55 : mI 173 55 = (17, 146, 49, 2, 16) := by decide +kernel
theorem mi_173_58 : mI 173 58 = (5, 0, 2, 0, 0) := by decide +kernel
theorem mi_173_59 : mI 173 59 = (3, 0, 3, 0, 0) := by decide +kernel
theorem mi_173_60 : mI 173 60 = (26, 577, 52, 90, 0) := by decide +kernel
theorem mi_173_63 : mI 173 63 = (26, 581, 56, 147, 1) := by decide +kernel
theorem mi_173_66 : mI 173 66 = (3, 0, 4, 1, 0) := by decide +kernel
theorem mi_173_68 : mI 173 68 = (15, 20, 1, 88, 0) := by decide +kernel
theorem mi_173_71 : mI 173 71 = (5, 0, 0, 0, 0) := by decide +kernel
theorem mi_173_72 : mI 173 72 = (5, 0, 1, 0, 0) := by decide +kernel
theorem mi_173_73 : mI 173 73 = (5, 0, 2, 0, 0) := by decide +kernel
theorem mi_173_74 : mI 173 74 = (5, 0, 2, 0, 0) := by decide +kernel
theorem mi_173_75 : mI 173 75 = (3, 0, 3, 0, 0) := by decide +kernel
theorem mi_173_76 : mI 173 76 = (26, 577, 52, 90, 0) := by decide +kernel
theorem mi_173_79 : mI 173 79 = (26, 582, 60, 174, 0) := by decide +kernel
theorem mi_173_82 : mI 173 82 = (9, 1, 3, 0, 0) := by decide +kernel
theorem mi_173_85 : mI 173 85 = (16, (-39), 0, 46, 0) := by decide +kernel
theorem mi_173_88 : mI 173 88 = (5, 0, 0, 0, 0) := by decide +kernel
theorem mi_173_89 : mI 173 89 = (5, 0, 2, 0, 0) := by decide +kernel
theorem mi_173_90 : mI 173 90 = (3, 0, 4, 1, 0) := by decide +kernel
theorem mi_173_92 : mI 173 92 = (1, 1, 0, 0, 0) := by decide +kernel
theorem mi_173_93 : mI 173 93 = (10, 0, 0, 0, 0) := by decide +kernel
theorem mi_173_94 : mI 173 94 = (26, 568, 37, 175, 0) := by decide +kernel
theorem mi_173_97 : mI 173 97 = (9, 1, 4, 0, 0) := by decide +kernel
theorem mi_173_100 : mI 173 100 = (16, (-63), 0, 37, 0) := by decide +kernel
theorem mi_173_103 : mI 173 103 = (27, 0, 2, 0, 0) := by decide +kernel
theorem mi_174_0 : mI 174 0 = (5, 0, 2, 0, 0) := by decide +kernel
theorem mi_174_1 : mI 174 1 = (5, 0, 1, 0, 0) := by decide +kernel
theorem mi_174_2 : mI 174 2 = (3, 0, 3, 0, 0) := by decide +kernel
theorem mi_174_3 : mI 174 3 = (26, 586, 64, 91, 0) := by decide +kernel
theorem mi_174_6 : mI 174 6 = (14, 47, 0, 53, 0) := by decide +kernel
theorem mi_174_9 : mI 174 9 = (5, 0, 0, 0, 0) := by decide +kernel
theorem mi_174_10 : mI 174 10 = (22, 0, 0, 0, 0) := by decide +kernel
theorem mi_174_11 : mI 174 11 = (17, 211, 21, 8, 3) := by decide +kernel
theorem mi_174_14 : mI 174 14 = (1, 1, 0, 0, 0) := by decide +kernel
theorem mi_174_15 : mI 174 15 = (3, 0, 3, 0, 0) := by decide +kernel
theorem mi_174_16 : mI 174 16 = (10, 0, 8, 0, 0) := by decide +kernel
theorem mi_174_17 : mI 174 17 = (10, 0, 6, 0, 0) := by decide +kernel
theorem mi_174_18 : mI 174 18 = (18, 211, 21, 8, 3) := by decide +kernel
theorem mi_174_21 : mI 174 21 = (5, 0, 0, 0, 0) := by decide +kernel
theorem mi_174_22 : mI 174 22 = (17, 207, 15, 8, 1) := by decide +kernel
theorem mi_174_25 : mI 174 25 = (3, 0, 3, 0, 0) := by decide +kernel
theorem mi_174_26 : mI 174 26 = (5, 0, 2, 0, 0) := by decide +kernel
theorem mi_174_27 : mI 174 27 = (3, 0, 3, 0, 0) := by decide +kernel
theorem mi_174_28 : mI 174 28 = (26, 591, 68, 89, 0) := by decide +kernel
theorem mi_174_31 : mI 174 31 = (26, 576, 71, 148, 1) := by decide +kernel
theorem mi_174_34 : mI 174 34 = (5, 0, 0, 0, 0) := by decide +kernel
theorem mi_174_35 : mI 174 35 = (17, 209, 18, 8, 2) := by decide +kernel
theorem mi_174_38 : mI 174 38 = (3, 0, 3, 0, 0) := by decide +kernel
theorem mi_174_39 : mI 174 39 = (5, 0, 2, 0, 0) := by decide +kernel
theorem mi_174_40 : mI 174 40 = (5, 0, 1, 0, 0) := by decide +kernel
theorem mi_174_41 : mI 174 41 = (3, 0, 3, 0, 0) := by decide +kernel
theorem mi_174_42 : mI 174 42 = (5, 0, 2, 0, 0) := by decide +kernel
theorem mi_174_43 : mI 174 43 = (3, 0, 3, 0, 0) := by decide +kernel
theorem mi_174_44 : mI 174 44 = (26, 591, 68, 89, 0) := by decide +kernel
theorem mi_174_47 : mI 174 47 = (26, 595, 75, 92, 0) := by decide +kernel
theorem mi_174_50 : mI 174 50 = (26, 576, 71, 148, 1) := by decide +kernel
theorem mi_174_53 : mI 174 53 = (27, 0, 2, 0, 0) := by decide +kernel
theorem mi_175_0 : mI 175 0 = (1, 0, 0, 0, 0) := by decide +kernel
theorem mi_175_1 : mI 175 1 = (6, 0, 3, 0, 0) := by decide +kernel
theorem mi_175_2 : mI 175 2 = (3, 0, 3, 0, 0) := by decide +kernel
theorem mi_175_3 : mI 175 3 = (1, 6, 1, 0, 0) := by decide +kernel
theorem mi_175_5 : mI 175 5 = (15, 51, 3, 56, 0) := by decide +kernel
theorem mi_175_8 : mI 175 8 = (1, 0, 0, 0, 0) := by decide +kernel
theorem mi_175_9 : mI 175 9 = (6, 0, 4, 1, 0) := by decide +kernel
theorem mi_175_11 : mI 175 11 = (3, 0, 4, 1, 0) := by decide +kernel
theorem mi_175_13 : mI 175 13 = (1, 6, 1, 0, 0) := by decide +kernel
theorem mi_175_15 : mI 175 15 = (15, 35, 3, 50, 0) := by decide +kernel
theorem mi_175_18 : mI 175 18 = (5, 0, 0, 0, 0) := by decide +kernel
theorem mi_175_19 : mI 175 19 = (17, 206, 9, 8, 0) := by decide +kernel
theorem mi_175_22 : mI 175 22 = (3, 0, 2, 0, 0) := by decide +kernel
theorem mi_175_23 : mI 175 23 = (1, 36, 1, 0, 0) := by decide +kernel
theorem mi_175_25 : mI 175 25 = (10, 0, 2, 0, 0) := by decide +kernel
theorem mi_175_26 : mI 175 26 = (3, 0, 3, 0, 0) := by decide +kernel
theorem mi_175_27 : mI 175 27 = (1, 6, 1, 0, 0) := by decide +kernel
theorem mi_175_29 : mI 175 29 = (10, 0, 2, 0, 0) := by decide +kernel
theorem mi_175_30 : mI 175 30 = (10, 0, 0, 0, 0) := by decide +kernel
theorem mi_175_31 : mI 175 31 = (3, 0, 4, 1, 0) := by decide +kernel
theorem mi_175_33 : mI 175 33 = (10, 0, 0, 0, 0) := by decide +kernel
theorem mi_175_34 : mI 175 34 = (5, 0, 1, 0, 0) := by decide +kernel
theorem mi_175_35 : mI 175 35 = (3, 0, 3, 0, 0) := by decide +kernel
theorem mi_175_36 : mI 175 36 = (3, 0, 4, 1, 0) := by decide +kernel
theorem mi_175_38 : mI 175 38 = (26, 572, 79, 88, 0) := by decide +kernel
theorem mi_175_41 : mI 175 41 = (26, 576, 71, 148, 1) := by decide +kernel
theorem mi_175_44 : mI 175 44 = (9, 1, 4, 0, 0) := by decide +kernel
theorem mi_175_47 : mI 175 47 = (16, (-36), 0, 11, 0) := by decide +kernel
theorem mi_175_50 : mI 175 50 = (9, 1, 3, 0, 0) := by decide +kernel
theorem mi_175_53 : mI 175 53 = (16, (-51), 0, 2, 0) := by decide +kernel
theorem mi_175_56 : mI 175 56 = (27, 0, 2, 0, 0) := by decide +kernel
theorem mi_176_0 : mI 176 0 = (5, 0, 0, 0, 0) := by decide +kernel
theorem mi_176_1 : mI 176 1 = (17, 206, 9, 8, 0) := by decide +kernel
theorem mi_176_4 : mI 176 4 = (3, 0, 3, 0, 0) := by decide +kernel
theorem mi_176_5 : mI 176 5 = (1, 36, 1, 0, 0) := by decide +kernel
theorem mi_176_7 : mI 176 7 = (10, 0, 2, 0, 0) := by decide +kernel
theorem mi_176_8 : mI 176 8 = (3, 0, 1, 0, 0) := by decide +kernel
theorem mi_176_9 : mI 176 9 = (1, 6, 1, 0, 0) := by decide +kernel
theorem mi_176_11 : mI 176 11 = (10, 0, 2, 0, 0) := by decide +kernel
theorem mi_176_12 : mI 176 12 = (10, 0, 0, 0, 0) := by decide +kernel
theorem mi_176_13 : mI 176 13 = (3, 0, 2, 0, 0) := by decide +kernel
theorem mi_176_14 : mI 176 14 = (10, 0, 0, 0, 0) := by decide +kernel
theorem mi_176_15 : mI 176 15 = (26, 581, 56, 147, 1) := by decide +kernel
theorem mi_176_18 : mI 176 18 = (27, 0, 0, 0, 0) := by decide +kernel
theorem mi_177_0 : mI 177 0 = (5, 0, 0, 0, 0) := by decide +kernel
theorem mi_177_1 : mI 177 1 = (3, 0, 2, 0, 0) := by decide +kernel
theorem mi_177_2 : mI 177 2 = (3, 0, 3, 0, 0) := by decide +kernel
theorem mi_177_3 : mI 177 3 = (3, 0, 4, 1, 0) := by decide +kernel
theorem mi_177_5 : mI 177 5 = (26, 680, 83, 176, 0) := by decide +kernel
theorem mi_177_8 : mI 177 8 = (5, 0, 1, 0, 0) := by decide +kernel
theorem mi_177_9 : mI 177 9 = (3, 0, 3, 0, 0) := by decide +kernel
theorem mi_177_10 : mI 177 10 = (26, 681, 86, 108, 0) := by decide +kernel
theorem mi_177_13 : mI 177 13 = (15, 7, 1, 20, 0) := by decide +kernel
theorem mi_177_16 : mI 177 16 = (1, 1, 0, 0, 0) := by decide +kernel
theorem mi_177_17 : mI 177 17 = (16, 4, 0, 21, 0) := by decide +kernel
theorem mi_177_20 : mI 177 20 = (1, 0, 0, 0, 0) := by decide +kernel
theorem mi_177_21 : mI 177 21 = (27, 0, 0, 0, 0) := by decide +kernel
theorem mi_178_0 : mI 178 0 = (1, 0, 0, 0, 0) := by decide +kernel
theorem mi_178_1 : mI 178 1 = (6, 0, 4, 1, 0) := by decide +kernel
theorem mi_178_3 : mI 178 3 = (3, 0, 4, 1, 0) := by decide +kernel
theorem mi_178_5 : mI 178 5 = (5, 0, 1, 0, 0) := by decide +kernel
theorem mi_178_6 : mI 178 6 = (17, 97, 41, 2, 3) := by decide +kernel
theorem mi_178_9 : mI 178 9 = (15, 24, 4, 33, 0) := by decide +kernel
theorem mi_178_12 : mI 178 12 = (5, 0, 0, 0, 0) := by decide +kernel
theorem mi_178_13 : mI 178 13 = (5, 0, 1, 0, 0) := by decide +kernel
theorem mi_178_14 : mI 178 14 = (3, 0, 2, 0, 0) := by decide +kernel
theorem mi_178_15 : mI 178 15 = (3, 0, 3, 0, 0) := by decide +kernel
theorem mi_178_16 : mI 178 16 = (3, 0, 4, 1, 0) := by decide +kernel
theorem mi_178_18 : mI 178 18 = (26, 676, 89, 177, 0) := by decide +kernel
theorem mi_178_21 : mI 178 21 = (14, 6, 0, 27, 0) := by decide +kernel
theorem mi_178_24 : mI 178 24 = (3, 0, 4, 1, 0) := by decide +kernel
theorem mi_178_26 : mI 178 26 = (27, 0, 0, 0, 0) := by decide +kernel
theorem mi_178_27 : mI 178 27 = (9, 1, 4, 0, 0) := by decide +kernel
theorem mi_178_30 : mI 178 30 = (16, (-27), 0, 3, 0) := by decide +kernel
theorem mi_178_33 : mI 178 33 = (1, (-1), 0, 0, 0) := by decide +kernel
theorem mi_178_34 : mI 178 34 = (27, 0, 0, 0, 0) := by decide +kernel
theorem mi_179_0 : mI 179 0 = (1, 0, 0, 0, 0) := by decide +kernel
theorem mi_179_1 : mI 179 1 = (6, 0, 4, 1, 0) := by decide +kernel
theorem mi_179_3 : mI 179 3 = (1, 0, 0, 0, 0) := by decide +kernel
theorem mi_179_4 : mI 179 4 = (6, 0, 5, 1, 0) := by decide +kernel
theorem mi_179_6 : mI 179 6 = (3, 0, 5, 1, 0) := by decide +kernel
theorem mi_179_8 : mI 179 8 = (5, 0, 1, 0, 0) := by decide +kernel
theorem mi_179_9 : mI 179 9 = (17, 106, 93, 2, 4) := by decide +kernel
theorem mi_179_12 : mI 179 12 = (15, 36, 3, 48, 0) := by decide +kernel
theorem mi_179_15 : mI 179 15 = (3, 0, 5, 1, 0) := by decide +kernel
theorem mi_179_17 : mI 179 17 = (3, 0, 2, 0, 0) := by decide +kernel
theorem mi_179_18 : mI 179 18 = (15, 24, 0, 42, 0) := by decide +kernel
theorem mi_179_21 : mI 179 21 = (5, 0, 0, 0, 0) := by decide +kernel
theorem mi_179_22 : mI 179 22 = (5, 0, 1, 0, 0) := by decide +kernel
theorem mi_179_23 : mI 179 23 = (3, 0, 5, 1, 0) := by decide +kernel
theorem mi_179_25 : mI 179 25 = (3, 0, 2, 0, 0) := by decide +kernel
theorem mi_179_26 : mI 179 26 = (3, 0, 3, 0, 0) := by decide +kernel
theorem mi_179_27 : mI 179 27 = (26, 676, 89, 177, 0) := by decide +kernel
theorem mi_179_30 : mI 179 30 = (14, 12, 0, 42, 0) := by decide +kernel
theorem mi_179_33 : mI 179 33 = (3, 0, 4, 1, 0) := by decide +kernel
theorem mi_179_35 : mI 179 35 = (1, 1, 0, 0, 0) := by decide +kernel
theorem mi_179_36 : mI 179 36 = (3, 0, 5, 1, 0) := by decide +kernel
theorem mi_179_38 : mI 179 38 = (10, 0, 8, 0, 0) := by decide +kernel
theorem mi_179_39 : mI 179 39 = (10, 0, 6, 0, 0) := by decide +kernel
theorem mi_179_40 : mI 179 40 = (6, 0, 4, 1, 0) := by decide +kernel
theorem mi_179_42 : mI 179 42 = (9, 1, 5, 0, 0) := by decide +kernel
theorem mi_179_45 : mI 179 45 = (16, (-39), 0, 6, 0) := by decide +kernel
theorem mi_179_48 : mI 179 48 = (3, 0, 4, 1, 0) := by decide +kernel
theorem mi_179_50 : mI 179 50 = (27, 0, 0, 0, 0) := by decide +kernel
theorem mi_180_0 : mI 180 0 = (1, (-1), 0, 0, 0) := by decide +kernel
theorem mi_180_1 : mI 180 1 = (6, 0, 3, 0, 0) := by decide +kernel
theorem mi_180_2 : mI 180 2 = (1, 25, 1, 0, 0) := by decide +kernel
theorem mi_180_4 : mI 180 4 = (6, 0, 4, 1, 0) := by decide +kernel
theorem mi_180_6 : mI 180 6 = (1, 0, 0, 0, 0) := by decide +kernel
theorem mi_180_7 : mI 180 7 = (6, 0, 5, 1, 0) := by decide +kernel
theorem mi_180_9 : mI 180 9 = (3, 0, 5, 1, 0) := by decide +kernel
theorem mi_180_11 : mI 180 11 = (5, 0, 1, 0, 0) := by decide +kernel
theorem mi_180_12 : mI 180 12 = (17, 106, 93, 2, 4) := by decide +kernel
theorem mi_180_15 : mI 180 15 = (15, 54, 3, 69, 0) := by decide +kernel
theorem mi_180_18 : mI 180 18 = (5, 0, 1, 0, 0) := by decide +kernel
theorem mi_180_19 : mI 180 19 = (17, 127, 96, 2, 10) := by decide +kernel
theorem mi_180_22 : mI 180 22 = (3, 0, 2, 0, 0) := by decide +kernel
theorem mi_180_23 : mI 180 23 = (26, 581, 56, 147, 1) := by decide +kernel
theorem mi_180_26 : mI 180 26 = (3, 0, 5, 1, 0) := by decide +kernel
theorem mi_180_28 : mI 180 28 = (10, 0, 9, 0, 0) := by decide +kernel
theorem mi_180_29 : mI 180 29 = (1, 1, 0, 0, 0) := by decide +kernel
theorem mi_180_30 : mI 180 30 = (10, 0, 5, 0, 0) := by decide +kernel
theorem mi_180_31 : mI 180 31 = (14, 32, 0, 63, 0) := by decide +kernel
theorem mi_180_34 : mI 180 34 = (5, 0, 0, 0, 0) := by decide +kernel
theorem mi_180_35 : mI 180 35 = (5, 0, 1, 0, 0) := by decide +kernel
theorem mi_180_36 : mI 180 36 = (3, 0, 5, 1, 0) := by decide +kernel
theorem mi_180_38 : mI 180 38 = (3, 0, 2, 0, 0) := by decide +kernel
theorem mi_180_39 : mI 180 39 = (26, 701, 99, 178, 0) := by decide +kernel
theorem mi_180_42 : mI 180 42 = (6, 0, 6, 1, 0) := by decide +kernel
theorem mi_180_44 : mI 180 44 = (3, 0, 6, 1, 0) := by decide +kernel
theorem mi_180_46 : mI 180 46 = (14, 17, 2, 63, 0) := by decide +kernel
theorem mi_180_49 : mI 180 49 = (3, 0, 6, 1, 0) := by decide +kernel
theorem mi_180_51 : mI 180 51 = (3, 0, 4, 1, 0) := by decide +kernel
theorem mi_180_53 : mI 180 53 = (15, 10, 3, 63, 0) := by decide +kernel
theorem mi_180_56 : mI 180 56 = (3, 0, 6, 1, 0) := by decide +kernel
theorem mi_180_58 : mI 180 58 = (6, 0, 4, 1, 0) := by decide +kernel
theorem mi_180_60 : mI 180 60 = (3, 0, 5, 1, 0) := by decide +kernel
theorem mi_180_62 : mI 180 62 = (6, 0, 3, 0, 0) := by decide +kernel
theorem mi_180_63 : mI 180 63 = (9, 1, 5, 0, 0) := by decide +kernel
theorem mi_180_66 : mI 180 66 = (16, (-57), 0, 9, 0) := by decide +kernel
theorem mi_180_69 : mI 180 69 = (3, 0, 3, 0, 0) := by decide +kernel
theorem mi_180_70 : mI 180 70 = (27, 0, 0, 0, 0) := by decide +kernel
theorem mi_181_0 : mI 181 0 = (1, 0, 0, 0, 0) := by decide +kernel
theorem mi_181_1 : mI 181 1 = (6, 0, 4, 1, 0) := by decide +kernel
theorem mi_181_3 : mI 181 3 = (1, 0, 0, 0, 0) := by decide +kernel
theorem mi_181_4 : mI 181 4 = (6, 0, 5, 1, 0) := by decide +kernel
theorem mi_181_6 : mI 181 6 = (3, 0, 5, 1, 0) := by decide +kernel
theorem mi_181_8 : mI 181 8 = (5, 0, 1, 0, 0) := by decide +kernel
theorem mi_181_9 : mI 181 9 = (17, 106, 93, 2, 4) := by decide +kernel
theorem mi_181_12 : mI 181 12 = (15, 31, 3, 43, 0) := by decide +kernel
theorem mi_181_15 : mI 181 15 = (3, 0, 5, 1, 0) := by decide +kernel
theorem mi_181_17 : mI 181 17 = (3, 0, 2, 0, 0) := by decide +kernel
theorem mi_181_18 : mI 181 18 = (15, 19, 0, 37, 0) := by decide +kernel
theorem mi_181_21 : mI 181 21 = (3, 0, 4, 1, 0) := by decide +kernel
theorem mi_181_23 : mI 181 23 = (5, 0, 0, 0, 0) := by decide +kernel
theorem mi_181_24 : mI 181 24 = (3, 0, 2, 0, 0) := by decide +kernel
theorem mi_181_25 : mI 181 25 = (3, 0, 5, 1, 0) := by decide +kernel
theorem mi_181_27 : mI 181 27 = (3, 0, 3, 0, 0) := by decide +kernel
theorem mi_181_28 : mI 181 28 = (26, 680, 83, 176, 0) := by decide +kernel
theorem mi_181_31 : mI 181 31 = (26, 718, 102, 344, 1) := by decide +kernel
theorem mi_181_34 : mI 181 34 = (10, 0, 0, 0, 0) := by decide +kernel
theorem mi_181_35 : mI 181 35 = (6, 0, 4, 1, 0) := by decide +kernel
theorem mi_181_37 : mI 181 37 = (9, 1, 5, 0, 0) := by decide +kernel
theorem mi_181_40 : mI 181 40 = (16, (-34), 0, 6, 0) := by decide +kernel
theorem mi_181_43 : mI 181 43 = (3, 0, 4, 1, 0) := by decide +kernel
theorem mi_181_45 : mI 181 45 = (27, 0, 0, 0, 0) := by decide +kernel
theorem mi_182_0 : mI 182 0 = (1, 0, 0, 0, 0) := by decide +kernel
theorem mi_182_1 : mI 182 1 = (6, 0, 5, 1, 0) := by decide +kernel
theorem mi_182_3 : mI 182 3 = (1, 0, 0, 0, 0) := by decide +kernel
theorem mi_182_4 : mI 182 4 = (6, 0, 6, 1, 0) := by decide +kernel
theorem mi_182_6 : mI 182 6 = (3, 0, 6, 1, 0) := by decide +kernel
theorem mi_182_8 : mI 182 8 = (5, 0, 1, 0, 0) := by decide +kernel
theorem mi_182_9 : mI 182 9 = (17, 106, 93, 2, 4) := by decide +kernel
theorem mi_182_12 : mI 182 12 = (15, 32, 3, 44, 0) := by decide +kernel
theorem mi_182_15 : mI 182 15 = (3, 0, 2, 0, 0) := by decide +kernel
theorem mi_182_16 : mI 182 16 = (3, 0, 6, 1, 0) := by decide +kernel
theorem mi_182_18 : mI 182 18 = (10, 0, 9, 0, 0) := by decide +kernel
theorem mi_182_19 : mI 182 19 = (1, 1, 0, 0, 0) := by decide +kernel
theorem mi_182_20 : mI 182 20 = (10, 0, 5, 0, 0) := by decide +kernel
theorem mi_182_21 : mI 182 21 = (14, 17, 0, 38, 0) := by decide +kernel
theorem mi_182_24 : mI 182 24 = (3, 0, 5, 1, 0) := by decide +kernel
theorem mi_182_26 : mI 182 26 = (5, 0, 0, 0, 0) := by decide +kernel
theorem mi_182_27 : mI 182 27 = (3, 0, 6, 1, 0) := by decide +kernel
theorem mi_182_29 : mI 182 29 = (3, 0, 3, 0, 0) := by decide +kernel
theorem mi_182_30 : mI 182 30 = (3, 0, 4, 1, 0) := by decide +kernel
theorem mi_182_32 : mI 182 32 = (26, 680, 83, 176, 0) := by decide +kernel
theorem mi_182_35 : mI 182 35 = (10, 0, 6, 0, 0) := by decide +kernel
theorem mi_182_36 : mI 182 36 = (6, 0, 5, 1, 0) := by decide +kernel
theorem mi_182_38 : mI 182 38 = (9, 1, 6, 0, 0) := by decide +kernel
theorem mi_182_41 : mI 182 41 = (16, (-35), 0, 6, 0) := by decide +kernel
theorem mi_182_44 : mI 182 44 = (3, 0, 5, 1, 0) := by decide +kernel
theorem mi_182_46 : mI 182 46 = (5, 0, 1, 0, 0) := by decide +kernel
theorem mi_182_47 : mI 182 47 = (3, 0, 3, 0, 0) := by decide +kernel
theorem mi_182_48 : mI 182 48 = (26, 681, 86, 108, 0) := by decide +kernel
theorem mi_182_51 : mI 182 51 = (15, 7, 1, 58, 0) := by decide +kernel
theorem mi_182_54 : mI 182 54 = (1, 1, 0, 0, 0) := by decide +kernel
theorem mi_182_55 : mI 182 55 = (16, 4, 0, 59, 0) := by decide +kernel
theorem mi_182_58 : mI 182 58 = (1, 0, 0, 0, 0) := by decide +kernel
theorem mi_182_59 : mI 182 59 = (27, 0, 0, 0, 0) := by decide +kernel
theorem mi_183_0 : mI 183 0 = (1, (-1), 0, 0, 0) := by decide +kernel
theorem mi_183_1 : mI 183 1 = (6, 0, 4, 1, 0) := by decide +kernel
theorem mi_183_3 : mI 183 3 = (1, 7, 1, 0, 0) := by decide +kernel
theorem mi_183_5 : mI 183 5 = (6, 0, 5, 1, 0) := by decide +kernel
theorem mi_183_7 : mI 183 7 = (1, 0, 0, 0, 0) := by decide +kernel
theorem mi_183_8 : mI 183 8 = (6, 0, 6, 1, 0) := by decide +kernel
theorem mi_183_10 : mI 183 10 = (3, 0, 6, 1, 0) := by decide +kernel
theorem mi_183_12 : mI 183 12 = (5, 0, 1, 0, 0) := by decide +kernel
theorem mi_183_13 : mI 183 13 = (26, 900, 107, 109, 0) := by decide +kernel
theorem mi_183_16 : mI 183 16 = (15, 63, 4, 79, 0) := by decide +kernel
theorem mi_183_19 : mI 183 19 = (3, 0, 6, 1, 0) := by decide +kernel
theorem mi_183_21 : mI 183 21 = (3, 0, 2, 0, 0) := by decide +kernel
theorem mi_183_22 : mI 183 22 = (10, 0, 9, 0, 0) := by decide +kernel
theorem mi_183_23 : mI 183 23 = (1, 1, 0, 0, 0) := by decide +kernel
theorem mi_183_24 : mI 183 24 = (10, 0, 5, 0, 0) := by decide +kernel
theorem mi_183_25 : mI 183 25 = (14, 7, 1, 32, 0) := by decide +kernel
theorem mi_183_28 : mI 183 28 = (1, 1, 0, 0, 0) := by decide +kernel
theorem mi_183_29 : mI 183 29 = (16, 4, 0, 33, 0) := by decide +kernel
theorem mi_183_32 : mI 183 32 = (1, 0, 0, 0, 0) := by decide +kernel
theorem mi_183_33 : mI 183 33 = (6, 0, 7, 1, 0) := by decide +kernel
theorem mi_183_35 : mI 183 35 = (3, 0, 7, 1, 0) := by decide +kernel
theorem mi_183_37 : mI 183 37 = (14, 36, 0, 73, 0) := by decide +kernel
theorem mi_183_40 : mI 183 40 = (3, 0, 6, 1, 0) := by decide +kernel
theorem mi_183_42 : mI 183 42 = (26, 718, 102, 344, 1) := by decide +kernel
theorem mi_183_45 : mI 183 45 = (3, 0, 5, 1, 0) := by decide +kernel
theorem mi_183_47 : mI 183 47 = (15, 26, 3, 73, 0) := by decide +kernel
theorem mi_183_50 : mI 183 50 = (5, 0, 0, 0, 0) := by decide +kernel
theorem mi_183_51 : mI 183 51 = (5, 0, 1, 0, 0) := by decide +kernel
theorem mi_183_52 : mI 183 52 = (3, 0, 6, 1, 0) := by decide +kernel
theorem mi_183_54 : mI 183 54 = (3, 0, 2, 0, 0) := by decide +kernel
theorem mi_183_55 : mI 183 55 = (3, 0, 3, 0, 0) := by decide +kernel
theorem mi_183_56 : mI 183 56 = (26, 901, 111, 182, 0) := by decide +kernel
theorem mi_183_59 : mI 183 59 = (14, 14, 0, 73, 0) := by decide +kernel
theorem mi_183_62 : mI 183 62 = (3, 0, 6, 1, 0) := by decide +kernel
theorem mi_183_64 : mI 183 64 = (6, 0, 4, 1, 0) := by decide +kernel
theorem mi_183_66 : mI 183 66 = (3, 0, 6, 1, 0) := by decide +kernel
theorem mi_183_68 : mI 183 68 = (26, 718, 102, 344, 1) := by decide +kernel
theorem mi_183_71 : mI 183 71 = (6, 0, 5, 1, 0) := by decide +kernel
theorem mi_183_73 : mI 183 73 = (9, 1, 6, 0, 0) := by decide +kernel
theorem mi_183_76 : mI 183 76 = (16, (-66), 0, 10, 0) := by decide +kernel
theorem mi_183_79 : mI 183 79 = (3, 0, 4, 1, 0) := by decide +kernel
theorem mi_183_81 : mI 183 81 = (27, 0, 0, 0, 0) := by decide +kernel
theorem mi_194_0 : mI 194 0 = (1, 0, 0, 0, 0) := by decide +kernel
theorem mi_194_1 : mI 194 1 = (6, 0, 1, 0, 0) := by decide +kernel
theorem mi_194_2 : mI 194 2 = (1, 0, 0, 0, 0) := by decide +kernel
theorem mi_194_3 : mI 194 3 = (6, 0, 2, 0, 0) := by decide +kernel
theorem mi_194_4 : mI 194 4 = (3, 0, 2, 0, 0) := by decide +kernel
theorem mi_194_5 : mI 194 5 = (1, 13, 1, 0, 0) := by decide +kernel
theorem mi_194_7 : mI 194 7 = (15, 17, 3, 24, 0) := by decide +kernel
theorem mi_194_10 : mI 194 10 = (3, 0, 1, 0, 0) := by decide +kernel
theorem mi_194_11 : mI 194 11 = (3, 0, 0, 0, 0) := by decide +kernel
theorem mi_194_12 : mI 194 12 = (3, 0, 2, 0, 0) := by decide +kernel
theorem mi_194_13 : mI 194 13 = (10, 0, 9, 0, 0) := by decide +kernel
theorem mi_194_14 : mI 194 14 = (1, 1, 0, 0, 0) := by decide +kernel
theorem mi_194_15 : mI 194 15 = (10, 0, 5, 0, 0) := by decide +kernel
theorem mi_194_16 : mI 194 16 = (10, 0, 0, 0, 0) := by decide +kernel
theorem mi_194_17 : mI 194 17 = (6, 0, 1, 0, 0) := by decide +kernel
theorem mi_194_18 : mI 194 18 = (9, 1, 2, 0, 0) := by decide +kernel
theorem mi_194_21 : mI 194 21 = (16, (-17), 0, 4, 0) := by decide +kernel
theorem mi_194_24 : mI 194 24 = (3, 0, 1, 0, 0) := by decide +kernel
theorem mi_194_25 : mI 194 25 = (27, 0, 0, 0, 0) := by decide +kernel
theorem mi_209_0 : mI 209 0 = (1, 1, 0, 0, 0) := by decide +kernel
theorem mi_209_1 : mI 209 1 = (5, 0, 0, 0, 0) := by decide +kernel
theorem mi_209_2 : mI 209 2 = (17, 1207, 9, 11, 1) := by decide +kernel
theorem mi_209_5 : mI 209 5 = (1, 3, 0, 0, 0) := by decide +kernel
theorem mi_209_6 : mI 209 6 = (19, 0, 0, 0, 0) := by decide +kernel
theorem mi_209_7 : mI 209 7 = (10, 0, 8, 0, 0) := by decide +kernel
theorem mi_209_8 : mI 209 8 = (1, 1, 0, 0, 0) := by decide +kernel
theorem mi_209_9 : mI 209 9 = (10, 0, 1, 0, 0) := by decide +kernel
theorem mi_209_10 : mI 209 10 = (27, 0, 0, 0, 0) := by decide +kernel
theorem mi_234_0 : mI 234 0 = (5, 0, 0, 0, 0) := by decide +kernel
theorem mi_234_1 : mI 234 1 = (2, 1103515245, 1, 231, 1528) := by decide +kernel
theorem mi_234_4 : mI 234 4 = (5, 0, 0, 0, 0) := by decide +kernel
theorem mi_234_5 : mI 234 5 = (17, 1231, 233, 11, 25) := by decide +kernel
theorem mi_234_8 : mI 234 8 = (11, 0, 2, 0, 0) := by decide +kernel
theorem mi_234_9 : mI 234 9 = (2, 12345, 1, 237, 1529) := by decide +kernel
theorem mi_234_12 : mI 234 12 = (11, 0, 0, 0, 0) := by decide +kernel
theorem mi_234_13 : mI 234 13 = (2, 2147483648, 1, 239, 1530) := by decide +kernel
theorem mi_234_16 : mI 234 16 = (11, 0, 4, 0, 0) := by decide +kernel
theorem mi_234_17 : mI 234 17 = (18, 1231, 233, 11, 25) := by decide +kernel
theorem mi_234_20 : mI 234 20 = (5, 0, 0, 0, 0) := by decide +kernel
theorem mi_234_21 : mI 234 21 = (17, 1231, 233, 11, 25) := by decide +kernel
theorem mi_234_24 : mI 234 24 = (2, 65536, 1, 241, 1531) := by decide +kernel
theorem mi_234_27 : mI 234 27 = (11, 0, 3, 0, 0) := by decide +kernel
theorem mi_234_28 : mI 234 28 = (2, 100, 1, 243, 1532) := by decide +kernel
theorem mi_234_31 : mI 234 31 = (11, 0, 4, 0, 0) := by decide +kernel
theorem mi_234_32 : mI 234 32 = (12, 0, 2, 0, 0) := by decide +kernel
theorem mi_234_33 : mI 234 33 = (27, 0, 0, 0, 0) := by decide +kernel
theorem mi_235_7 : mI 235 7 = (5, 0, 0, 0, 0) := by decide +kernel
theorem mi_235_8 : mI 235 8 = (26, 1524, 249, 234, 0) := by decide +kernel
theorem mi_235_11 : mI 235 11 = (5, 0, 0, 0, 0) := by decide +kernel
theorem mi_235_12 : mI 235 12 = (17, 1207, 9, 11, 1) := by decide +kernel
theorem mi_235_15 : mI 235 15 = (1, 54, 1, 0, 0) := by decide +kernel
theorem mi_235_17 : mI 235 17 = (3, 0, 1, 0, 0) := by decide +kernel
theorem mi_235_18 : mI 235 18 = (10, 0, 0, 0, 0) := by decide +kernel
theorem mi_235_19 : mI 235 19 = (19, 0, 0, 0, 0) := by decide +kernel
theorem mi_235_20 : mI 235 20 = (15, 7, 2, 27, 0) := by decide +kernel
theorem mi_235_23 : mI 235 23 = (1, 1, 0, 0, 0) := by decide +kernel
theorem mi_235_24 : mI 235 24 = (16, 4, 0, 28, 0) := by decide +kernel
theorem mi_235_27 : mI 235 27 = (1, 0, 0, 0, 0) := by decide +kernel
theorem mi_235_28 : mI 235 28 = (27, 0, 0, 0, 0) := by decide +kernel
theorem mi_236_122 : mI 236 122 = (16, 72, 0, 194, 0) := by decide +kernel
theorem mi_239_0 : mI 239 0 = (5, 0, 0, 0, 0) := by decide +kernel
theorem mi_239_1 : mI 239 1 = (17, 1222, 37, 11, 16) := by decide +kernel
theorem mi_239_4 : mI 239 4 = (1, 36, 1, 0, 0) := by decide +kernel
theorem mi_239_6 : mI 239 6 = (3, 0, 3, 0, 0) := by decide +kernel
theorem mi_239_7 : mI 239 7 = (10, 0, 2, 0, 0) := by decide +kernel
theorem mi_239_8 : mI 239 8 = (1, 6, 1, 0, 0) := by decide +kernel
theorem mi_239_10 : mI 239 10 = (3, 0, 1, 0, 0) := by decide +kernel
theorem mi_239_11 : mI 239 11 = (10, 0, 2, 0, 0) := by decide +kernel
theorem mi_239_12 : mI 239 12 = (10, 0, 0, 0, 0) := by decide +kernel
theorem mi_239_13 : mI 239 13 = (3, 0, 2, 0, 0) := by decide +kernel
theorem mi_239_14 : mI 239 14 = (10, 0, 0, 0, 0) := by decide +kernel
theorem mi_239_15 : mI 239 15 = (19, 0, 0, 0, 0) := by decide +kernel
theorem mi_239_16 : mI 239 16 = (27, 0, 0, 0, 0) := by decide +kernel
theorem mi_240_0 : mI 240 0 = (5, 0, 0, 0, 0) := by decide +kernel
theorem mi_240_1 : mI 240 1 = (3, 0, 1, 0, 0) := by decide +kernel
theorem mi_240_2 : mI 240 2 = (3, 0, 2, 0, 0) := by decide +kernel
theorem mi_240_3 : mI 240 3 = (5, 0, 0, 0, 0) := by decide +kernel
theorem mi_240_4 : mI 240 4 = (17, 1207, 9, 11, 1) := by decide +kernel
theorem mi_240_7 : mI 240 7 = (1, 2, 0, 0, 0) := by decide +kernel
theorem mi_240_8 : mI 240 8 = (19, 0, 0, 0, 0) := by decide +kernel
theorem mi_240_9 : mI 240 9 = (26, 1533, 282, 239, 0) := by decide +kernel
theorem mi_240_12 : mI 240 12 = (27, 0, 0, 0, 0) := by decide +kernel
theorem mi_241_0 : mI 241 0 = (5, 0, 0, 0, 0) := by decide +kernel
theorem mi_241_1 : mI 241 1 = (3, 0, 1, 0, 0) := by decide +kernel
theorem mi_241_2 : mI 241 2 = (3, 0, 2, 0, 0) := by decide +kernel
theorem mi_241_3 : mI 241 3 = (3, 0, 3, 0, 0) := by decide +kernel
theorem mi_241_4 : mI 241 4 = (26, 1533, 282, 239, 0) := by decide +kernel
theorem mi_241_7 : mI 241 7 = (5, 0, 0, 0, 0) := by decide +kernel
theorem mi_241_8 : mI 241 8 = (3, 0, 2, 0, 0) := by decide +kernel
theorem mi_241_9 : mI 241 9 = (26, 1497, 274, 206, 0) := by decide +kernel
theorem mi_241_12 : mI 241 12 = (15, 7, 1, 19, 0) := by decide +kernel
theorem mi_241_15 : mI 241 15 = (1, 1, 0, 0, 0) := by decide +kernel
theorem mi_241_16 : mI 241 16 = (16, 4, 0, 20, 0) := by decide +kernel
theorem mi_241_19 : mI 241 19 = (1, 0, 0, 0, 0) := by decide +kernel
theorem mi_241_20 : mI 241 20 = (27, 0, 0, 0, 0) := by decide +kernel
theorem mi_242_0 : mI 242 0 = (5, 0, 0, 0, 0) := by decide +kernel
theorem mi_242_1 : mI 242 1 = (3, 0, 1, 0, 0) := by decide +kernel
theorem mi_242_2 : mI 242 2 = (3, 0, 2, 0, 0) := by decide +kernel
theorem mi_242_3 : mI 242 3 = (5, 0, 0, 0, 0) := by decide +kernel
theorem mi_242_4 : mI 242 4 = (17, 1207, 9, 11, 1) := by decide +kernel
theorem mi_242_7 : mI 242 7 = (1, 2, 0, 0, 0) := by decide +kernel
theorem mi_242_8 : mI 242 8 = (19, 0, 0, 0, 0) := by decide +kernel
theorem mi_242_9 : mI 242 9 = (26, 1561, 286, 241, 0) := by decide +kernel
theorem mi_242_12 : mI 242 12 = (27, 0, 0, 0, 0) := by decide +kernel
theorem mi_248_0 : mI 248 0 = (5, 0, 0, 0, 0) := by decide +kernel
theorem mi_248_1 : mI 248 1 = (3, 0, 1, 0, 0) := by decide +kernel
theorem mi_248_2 : mI 248 2 = (26, 1448, 89, 199, 0) := by decide +kernel
theorem mi_248_5 : mI 248 5 = (14, 11, 0, 16, 0) := by decide +kernel
theorem mi_248_8 : mI 248 8 = (5, 0, 0, 0, 0) := by decide +kernel
theorem mi_248_9 : mI 248 9 = (3, 0, 2, 0, 0) := by decide +kernel
theorem mi_248_10 : mI 248 10 = (26, 1448, 89, 199, 0) := by decide +kernel
theorem mi_248_13 : mI 248 13 = (14, 8, 1, 21, 0) := by decide +kernel
theorem mi_248_16 : mI 248 16 = (1, (-2), 1, 0, 0) := by decide +kernel
theorem mi_248_18 : mI 248 18 = (16, 30, 0, 48, 0) := by decide +kernel
theorem mi_248_21 : mI 248 21 = (3, 0, 1, 0, 0) := by decide +kernel
theorem mi_248_22 : mI 248 22 = (3, 0, 2, 0, 0) := by decide +kernel
theorem mi_248_23 : mI 248 23 = (15, 11, 1, 34, 0) := by decide +kernel
theorem mi_248_26 : mI 248 26 = (5, 0, 0, 0, 0) := by decide +kernel
theorem mi_248_27 : mI 248 27 = (3, 0, 1, 0, 0) := by decide +kernel
theorem mi_248_28 : mI 248 28 = (26, 1497, 274, 206, 0) := by decide +kernel
theorem mi_248_31 : mI 248 31 = (16, 17, 0, 48, 0) := by decide +kernel
theorem mi_248_34 : mI 248 34 = (5, 0, 0, 0, 0) := by decide +kernel
theorem mi_248_35 : mI 248 35 = (17, 1207, 9, 11, 1) := by decide +kernel
theorem mi_248_38 : mI 248 38 = (1, 66, 1, 0, 0) := by decide +kernel
theorem mi_248_40 : mI 248 40 = (1, 6, 1, 0, 0) := by decide +kernel
theorem mi_248_42 : mI 248 42 = (3, 0, 1, 0, 0) := by decide +kernel
theorem mi_248_43 : mI 248 43 = (10, 0, 2, 0, 0) := by decide +kernel
theorem mi_248_44 : mI 248 44 = (10, 0, 0, 0, 0) := by decide +kernel
theorem mi_248_45 : mI 248 45 = (3, 0, 2, 0, 0) := by decide +kernel
theorem mi_248_46 : mI 248 46 = (10, 0, 0, 0, 0) := by decide +kernel
theorem mi_248_47 : mI 248 47 = (19, 0, 0, 0, 0) := by decide +kernel
theorem mi_248_48 : mI 248 48 = (27, 0, 0, 0, 0) := by decide +kernel
theorem mi_249_0 : mI 249 0 = (5, 0, 0, 0, 0) := by decide +kernel
theorem mi_249_1 : mI 249 1 = (3, 0, 1, 0, 0) := by decide +kernel
theorem mi_249_2 : mI 249 2 = (26, 1448, 89, 199, 0) := by decide +kernel
theorem mi_249_5 : mI 249 5 = (14, 19, 0, 24, 0) := by decide +kernel
theorem mi_249_8 : mI 249 8 = (5, 0, 0, 0, 0) := by decide +kernel
theorem mi_249_9 : mI 249 9 = (3, 0, 2, 0, 0) := by decide +kernel
theorem mi_249_10 : mI 249 10 = (26, 1448, 89, 199, 0) := by decide +kernel
theorem mi_249_13 : mI 249 13 = (14, 11, 0, 24, 0) := by decide +kernel
theorem mi_249_16 : mI 249 16 = (5, 0, 0, 0, 0) := by decide +kernel
theorem mi_249_17 : mI 249 17 = (3, 0, 3, 0, 0) := by decide +kernel
theorem mi_249_18 : mI 249 18 = (26, 1472, 293, 201, 0) := by decide +kernel
theorem mi_249_21 : mI 249 21 = (14, 6, 1, 27, 0) := by decide +kernel
theorem mi_249_24 : mI 249 24 = (1, (-2), 1, 0, 0) := by decide +kernel
theorem mi_249_26 : mI 249 26 = (27, 0, 0, 0, 0) := by decide +kernel
theorem mi_249_27 : mI 249 27 = (5, 0, 0, 0, 0) := by decide +kernel
theorem mi_249_28 : mI 249 28 = (26, 1505, 301, 238, 0) := by decide +kernel
theorem mi_249_31 : mI 249 31 = (5, 0, 0, 0, 0) := by decide +kernel
theorem mi_249_32 : mI 249 32 = (3, 0, 1, 0, 0) := by decide +kernel
theorem mi_249_33 : mI 249 33 = (3, 0, 2, 0, 0) := by decide +kernel
theorem mi_249_34 : mI 249 34 = (3, 0, 3, 0, 0) := by decide +kernel
theorem mi_249_35 : mI 249 35 = (1, 1, 0, 0, 0) := by decide +kernel
theorem mi_249_36 : mI 249 36 = (10, 0, 0, 0, 0) := by decide +kernel
theorem mi_249_37 : mI 249 37 = (26, 1533, 282, 239, 0) := by decide +kernel
theorem mi_249_40 : mI 249 40 = (27, 0, 0, 0, 0) := by decide +kernel
theorem mi_250_0 : mI 250 0 = (5, 0, 0, 0, 0) := by decide +kernel
theorem mi_250_1 : mI 250 1 = (3, 0, 1, 0, 0) := by decide +kernel
theorem mi_250_2 : mI 250 2 = (26, 1484, 296, 202, 0) := by decide +kernel
theorem mi_250_5 : mI 250 5 = (14, 6, 1, 11, 0) := by decide +kernel
theorem mi_250_8 : mI 250 8 = (1, (-2), 1, 0, 0) := by decide +kernel
theorem mi_250_10 : mI 250 10 = (27, 0, 0, 0, 0) := by decide +kernel
theorem mi_250_11 : mI 250 11 = (5, 0, 0, 0, 0) := by decide +kernel
theorem mi_250_12 : mI 250 12 = (26, 1505, 301, 238, 0) := by decide +kernel
theorem mi_250_15 : mI 250 15 = (5, 0, 0, 0, 0) := by decide +kernel
theorem mi_250_16 : mI 250 16 = (17, 1224, 264, 11, 18) := by decide +kernel
theorem mi_250_19 : mI 250 19 = (3, 0, 1, 0, 0) := by decide +kernel
theorem mi_250_20 : mI 250 20 = (26, 1517, 255, 195, 1) := by decide +kernel
theorem mi_250_23 : mI 250 23 = (27, 0, 0, 0, 0) := by decide +kernel
theorem mi_251_0 : mI 251 0 = (5, 0, 0, 0, 0) := by decide +kernel
theorem mi_251_1 : mI 251 1 = (3, 0, 1, 0, 0) := by decide +kernel
theorem mi_251_2 : mI 251 2 = (26, 1484, 296, 202, 0) := by decide +kernel
theorem mi_251_5 : mI 251 5 = (14, 6, 1, 11, 0) := by decide +kernel
theorem mi_251_8 : mI 251 8 = (1, (-2), 1, 0, 0) := by decide +kernel
theorem mi_251_10 : mI 251 10 = (27, 0, 0, 0, 0) := by decide +kernel
theorem mi_251_11 : mI 251 11 = (5, 0, 0, 0, 0) := by decide +kernel
theorem mi_251_12 : mI 251 12 = (26, 1505, 301, 238, 0) := by decide +kernel
theorem mi_251_15 : mI 251 15 = (5, 0, 0, 0, 0) := by decide +kernel
theorem mi_251_16 : mI 251 16 = (17, 1225, 43, 11, 19) := by decide +kernel
theorem mi_251_19 : mI 251 19 = (3, 0, 1, 0, 0) := by decide +kernel
theorem mi_251_20 : mI 251 20 = (19, 0, 0, 0, 0) := by decide +kernel
theorem mi_251_21 : mI 251 21 = (27, 0, 0, 0, 0) := by decide +kernel
theorem mi_252_0 : mI 252 0 = (5, 0, 0, 0, 0) := by decide +kernel
theorem mi_252_1 : mI 252 1 = (3, 0, 1, 0, 0) := by decide +kernel
theorem mi_252_2 : mI 252 2 = (26, 1484, 296, 202, 0) := by decide +kernel
theorem mi_252_5 : mI 252 5 = (14, 6, 1, 11, 0) := by decide +kernel
theorem mi_252_8 : mI 252 8 = (1, (-2), 1, 0, 0) := by decide +kernel
theorem mi_252_10 : mI 252 10 = (27, 0, 0, 0, 0) := by decide +kernel
theorem mi_252_11 : mI 252 11 = (5, 0, 0, 0, 0) := by decide +kernel
theorem mi_252_12 : mI 252 12 = (26, 1505, 301, 238, 0) := by decide +kernel
theorem mi_252_15 : mI 252 15 = (5, 0, 0, 0, 0) := by decide +kernel
theorem mi_252_16 : mI 252 16 = (17, 1226, 46, 11, 20) := by decide +kernel
theorem mi_252_19 : mI 252 19 = (3, 0, 1, 0, 0) := by decide +kernel
theorem mi_252_20 : mI 252 20 = (19, 0, 0, 0, 0) := by decide +kernel
theorem mi_252_21 : mI 252 21 = (27, 0, 0, 0, 0) := by decide +kernel
theorem mi_253_0 : mI 253 0 = (1, 0, 0, 0, 0) := by decide +kernel
theorem mi_253_1 : mI 253 1 = (6, 0, 3, 0, 0) := by decide +kernel
theorem mi_253_2 : mI 253 2 = (3, 0, 3, 0, 0) := by decide +kernel
theorem mi_253_3 : mI 253 3 = (5, 0, 0, 0, 0) := by decide +kernel
theorem mi_253_4 : mI 253 4 = (17, 1207, 9, 11, 1) := by decide +kernel
theorem mi_253_7 : mI 253 7 = (1, 2, 0, 0, 0) := by decide +kernel
theorem mi_253_8 : mI 253 8 = (19, 0, 0, 0, 0) := by decide +kernel
theorem mi_253_9 : mI 253 9 = (15, 32, 4, 41, 0) := by decide +kernel
theorem mi_253_12 : mI 253 12 = (5, 0, 0, 0, 0) := by decide +kernel
theorem mi_253_13 : mI 253 13 = (3, 0, 1, 0, 0) := by decide +kernel
theorem mi_253_14 : mI 253 14 = (3, 0, 2, 0, 0) := by decide +kernel
theorem mi_253_15 : mI 253 15 = (3, 0, 3, 0, 0) := by decide +kernel
theorem mi_253_16 : mI 253 16 = (26, 1561, 286, 241, 0) := by decide +kernel
theorem mi_253_19 : mI 253 19 = (14, 16, 0, 35, 0) := by decide +kernel
theorem mi_253_22 : mI 253 22 = (3, 0, 3, 0, 0) := by decide +kernel
theorem mi_253_23 : mI 253 23 = (14, 8, 1, 31, 0) := by decide +kernel
theorem mi_253_26 : mI 253 26 = (1, (-3), 1, 0, 0) := by decide +kernel
theorem mi_253_28 : mI 253 28 = (16, 6, 0, 34, 0) := by decide +kernel
theorem mi_253_31 : mI 253 31 = (3, 0, 3, 0, 0) := by decide +kernel
theorem mi_253_32 : mI 253 32 = (1, 1, 0, 0, 0) := by decide +kernel
theorem mi_253_33 : mI 253 33 = (10, 0, 1, 0, 0) := by decide +kernel
theorem mi_253_34 : mI 253 34 = (27, 0, 0, 0, 0) := by decide +kernel
theorem mi_253_35 : mI 253 35 = (9, 1, 3, 0, 0) := by decide +kernel
theorem mi_253_38 : mI 253 38 = (16, (-36), 0, 2, 0) := by decide +kernel
theorem mi_253_41 : mI 253 41 = (1, (-1), 0, 0, 0) := by decide +kernel
theorem mi_253_42 : mI 253 42 = (27, 0, 0, 0, 0) := by decide +kernel
theorem mi_254_0 : mI 254 0 = (5, 0, 0, 0, 0) := by decide +kernel
theorem mi_254_1 : mI 254 1 = (3, 0, 1, 0, 0) := by decide +kernel
theorem mi_254_2 : mI 254 2 = (3, 0, 2, 0, 0) := by decide +kernel
theorem mi_254_3 : mI 254 3 = (26, 1553, 304, 200, 0) := by decide +kernel
theorem mi_254_6 : mI 254 6 = (14, 6, 1, 12, 0) := by decide +kernel
theorem mi_254_9 : mI 254 9 = (1, (-2), 1, 0, 0) := by decide +kernel
theorem mi_254_11 : mI 254 11 = (27, 0, 0, 0, 0) := by decide +kernel
theorem mi_254_12 : mI 254 12 = (5, 0, 0, 0, 0) := by decide +kernel
theorem mi_254_13 : mI 254 13 = (26, 1505, 301, 238, 0) := by decide +kernel
theorem mi_254_16 : mI 254 16 = (5, 0, 0, 0, 0) := by decide +kernel
theorem mi_254_17 : mI 254 17 = (3, 0, 1, 0, 0) := by decide +kernel
theorem mi_254_18 : mI 254 18 = (3, 0, 2, 0, 0) := by decide +kernel
theorem mi_254_19 : mI 254 19 = (26, 1557, 307, 253, 0) := by decide +kernel
theorem mi_254_22 : mI 254 22 = (27, 0, 0, 0, 0) := by decide +kernel
theorem mi_255_0 : mI 255 0 = (1, 0, 0, 0, 0) := by decide +kernel
theorem mi_255_1 : mI 255 1 = (6, 0, 3, 0, 0) := by decide +kernel
theorem mi_255_2 : mI 255 2 = (1, 0, 0, 0, 0) := by decide +kernel
theorem mi_255_3 : mI 255 3 = (6, 0, 4, 1, 0) := by decide +kernel
theorem mi_255_5 : mI 255 5 = (3, 0, 4, 1, 0) := by decide +kernel
theorem mi_255_7 : mI 255 7 = (5, 0, 0, 0, 0) := by decide +kernel
theorem mi_255_8 : mI 255 8 = (17, 1207, 9, 11, 1) := by decide +kernel
theorem mi_255_11 : mI 255 11 = (1, 3, 0, 0, 0) := by decide +kernel
theorem mi_255_12 : mI 255 12 = (19, 0, 0, 0, 0) := by decide +kernel
theorem mi_255_13 : mI 255 13 = (15, 39, 3, 52, 0) := by decide +kernel
theorem mi_255_16 : mI 255 16 = (3, 0, 3, 0, 0) := by decide +kernel
theorem mi_255_17 : mI 255 17 = (3, 0, 4, 1, 0) := by decide +kernel
theorem mi_255_19 : mI 255 19 = (3, 0, 1, 0, 0) := by decide +kernel
theorem mi_255_20 : mI 255 20 = (15, 23, 0, 43, 0) := by decide +kernel
theorem mi_255_23 : mI 255 23 = (5, 0, 0, 0, 0) := by decide +kernel
theorem mi_255_24 : mI 255 24 = (3, 0, 4, 1, 0) := by decide +kernel
theorem mi_255_26 : mI 255 26 = (3, 0, 1, 0, 0) := by decide +kernel
theorem mi_255_27 : mI 255 27 = (3, 0, 2, 0, 0) := by decide +kernel
theorem mi_255_28 : mI 255 28 = (1, 1, 0, 0, 0) := by decide +kernel
theorem mi_255_29 : mI 255 29 = (10, 0, 0, 0, 0) := by decide +kernel
theorem mi_255_30 : mI 255 30 = (26, 1561, 286, 241, 0) := by decide +kernel
theorem mi_255_33 : mI 255 33 = (14, 10, 0, 43, 0) := by decide +kernel
theorem mi_255_36 : mI 255 36 = (1, 1, 0, 0, 0) := by decide +kernel
theorem mi_255_37 : mI 255 37 = (3, 0, 4, 1, 0) := by decide +kernel
theorem mi_255_39 : mI 255 39 = (10, 0, 8, 0, 0) := by decide +kernel
theorem mi_255_40 : mI 255 40 = (16, 4, 0, 44, 0) := by decide +kernel
theorem mi_255_43 : mI 255 43 = (1, 0, 0, 0, 0) := by decide +kernel
theorem mi_255_44 : mI 255 44 = (10, 0, 6, 0, 0) := by decide +kernel
theorem mi_255_45 : mI 255 45 = (6, 0, 3, 0, 0) := by decide +kernel
theorem mi_255_46 : mI 255 46 = (9, 1, 4, 0, 0) := by decide +kernel
theorem mi_255_49 : mI 255 49 = (16, (-44), 0, 5, 0) := by decide +kernel
theorem mi_255_52 : mI 255 52 = (3, 0, 3, 0, 0) := by decide +kernel
theorem mi_255_53 : mI 255 53 = (27, 0, 0, 0, 0) := by decide +kernel
theorem mi_256_0 : mI 256 0 = (5, 0, 0, 0, 0) := by decide +kernel
theorem mi_256_1 : mI 256 1 = (3, 0, 1, 0, 0) := by decide +kernel
theorem mi_256_2 : mI 256 2 = (26, 1448, 89, 199, 0) := by decide +kernel
theorem mi_256_5 : mI 256 5 = (14, 11, 0, 16, 0) := by decide +kernel
theorem mi_256_8 : mI 256 8 = (5, 0, 0, 0, 0) := by decide +kernel
theorem mi_256_9 : mI 256 9 = (3, 0, 2, 0, 0) := by decide +kernel
theorem mi_256_10 : mI 256 10 = (26, 1472, 293, 201, 0) := by decide +kernel
theorem mi_256_13 : mI 256 13 = (14, 6, 1, 19, 0) := by decide +kernel
theorem mi_256_16 : mI 256 16 = (1, (-2), 1, 0, 0) := by decide +kernel
theorem mi_256_18 : mI 256 18 = (27, 0, 0, 0, 0) := by decide +kernel
theorem mi_256_19 : mI 256 19 = (5, 0, 0, 0, 0) := by decide +kernel
theorem mi_256_20 : mI 256 20 = (26, 1505, 301, 238, 0) := by decide +kernel
theorem mi_256_23 : mI 256 23 = (5, 0, 0, 0, 0) := by decide +kernel
theorem mi_256_24 : mI 256 24 = (3, 0, 1, 0, 0) := by decide +kernel
theorem mi_256_25 : mI 256 25 = (3, 0, 2, 0, 0) := by decide +kernel
theorem mi_256_26 : mI 256 26 = (26, 1569, 310, 255, 0) := by decide +kernel
theorem mi_256_29 : mI 256 29 = (27, 0, 0, 0, 0) := by decide +kernel
theorem mi_257_0 : mI 257 0 = (1, (-1), 0, 0, 0) := by decide +kernel
theorem mi_257_1 : mI 257 1 = (6, 0, 2, 0, 0) := by decide +kernel
theorem mi_257_2 : mI 257 2 = (1, 1000000, 4, 313, 1581) := by decide +kernel
theorem mi_257_5 : mI 257 5 = (6, 0, 3, 0, 0) := by decide +kernel
theorem mi_257_6 : mI 257 6 = (1, 0, 0, 0, 0) := by decide +kernel
theorem mi_257_7 : mI 257 7 = (6, 0, 4, 1, 0) := by decide +kernel
theorem mi_257_9 : mI 257 9 = (3, 0, 4, 1, 0) := by decide +kernel
theorem mi_257_11 : mI 257 11 = (5, 0, 0, 0, 0) := by decide +kernel
theorem mi_257_12 : mI 257 12 = (17, 1207, 9, 11, 1) := by decide +kernel
theorem mi_257_15 : mI 257 15 = (1, 3, 0, 0, 0) := by decide +kernel
theorem mi_257_16 : mI 257 16 = (19, 0, 0, 0, 0) := by decide +kernel
theorem mi_257_17 : mI 257 17 = (15, 80, 3, 97, 0) := by decide +kernel
theorem mi_257_20 : mI 257 20 = (5, 0, 0, 0, 0) := by decide +kernel
theorem mi_257_21 : mI 257 21 = (17, 1207, 9, 11, 1) := by decide +kernel
theorem mi_257_24 : mI 257 24 = (1, 60, 1, 0, 0) := by decide +kernel
theorem mi_257_26 : mI 257 26 = (3, 0, 1, 0, 0) := by decide +kernel
theorem mi_257_27 : mI 257 27 = (10, 0, 0, 0, 0) := by decide +kernel
theorem mi_257_28 : mI 257 28 = (19, 0, 0, 0, 0) := by decide +kernel
theorem mi_257_29 : mI 257 29 = (3, 0, 4, 1, 0) := by decide +kernel
theorem mi_257_31 : mI 257 31 = (26, 1517, 255, 195, 1) := by decide +kernel
theorem mi_257_34 : mI 257 34 = (14, 6, 1, 40, 0) := by decide +kernel
theorem mi_257_37 : mI 257 37 = (16, 54, 0, 91, 0) := by decide +kernel
theorem mi_257_40 : mI 257 40 = (5, 0, 0, 0, 0) := by decide +kernel
theorem mi_257_41 : mI 257 41 = (3, 0, 4, 1, 0) := by decide +kernel
theorem mi_257_43 : mI 257 43 = (3, 0, 1, 0, 0) := by decide +kernel
theorem mi_257_44 : mI 257 44 = (26, 1557, 307, 253, 0) := by decide +kernel
theorem mi_257_47 : mI 257 47 = (6, 0, 5, 1, 0) := by decide +kernel
theorem mi_257_49 : mI 257 49 = (3, 0, 5, 1, 0) := by decide +kernel
theorem mi_257_51 : mI 257 51 = (1, (-3), 1, 0, 0) := by decide +kernel
theorem mi_257_53 : mI 257 53 = (15, 7, 1, 60, 0) := by decide +kernel
theorem mi_257_56 : mI 257 56 = (1, (-1), 0, 0, 0) := by decide +kernel
theorem mi_257_57 : mI 257 57 = (16, 17, 0, 74, 0) := by decide +kernel
theorem mi_257_60 : mI 257 60 = (3, 0, 5, 1, 0) := by decide +kernel
theorem mi_257_62 : mI 257 62 = (1, (-1), 0, 0, 0) := by decide +kernel
theorem mi_257_63 : mI 257 63 = (15, 9, 1, 72, 0) := by decide +kernel
theorem mi_257_66 : mI 257 66 = (1, 1000000, 4, 313, 1581) := by decide +kernel
theorem mi_257_69 : mI 257 69 = (16, 5, 0, 74, 0) := by decide +kernel
theorem mi_257_72 : mI 257 72 = (3, 0, 5, 1, 0) := by decide +kernel
theorem mi_257_74 : mI 257 74 = (6, 0, 6, 1, 0) := by decide +kernel
theorem mi_257_76 : mI 257 76 = (3, 0, 6, 1, 0) := by decide +kernel
theorem mi_257_78 : mI 257 78 = (3, 0, 3, 0, 0) := by decide +kernel
theorem mi_257_79 : mI 257 79 = (15, 6, 2, 85, 0) := by decide +kernel
theorem mi_257_82 : mI 257 82 = (16, 9, 0, 91, 0) := by decide +kernel
theorem mi_257_85 : mI 257 85 = (3, 0, 6, 1, 0) := by decide +kernel
theorem mi_257_87 : mI 257 87 = (6, 0, 3, 0, 0) := by decide +kernel
theorem mi_257_88 : mI 257 88 = (3, 0, 4, 1, 0) := by decide +kernel
theorem mi_257_90 : mI 257 90 = (6, 0, 2, 0, 0) := by decide +kernel
theorem mi_257_91 : mI 257 91 = (9, 1, 4, 0, 0) := by decide +kernel
theorem mi_257_94 : mI 257 94 = (16, (-85), 0, 9, 0) := by decide +kernel
theorem mi_257_97 : mI 257 97 = (3, 0, 2, 0, 0) := by decide +kernel
theorem mi_257_98 : mI 257 98 = (27, 0, 0, 0, 0) := by decide +kernel
theorem mi_258_0 : mI 258 0 = (5, 0, 0, 0, 0) := by decide +kernel
theorem mi_258_1 : mI 258 1 = (3, 0, 1, 0, 0) := by decide +kernel
theorem mi_258_2 : mI 258 2 = (26, 1448, 89, 199, 0) := by decide +kernel
theorem mi_258_5 : mI 258 5 = (14, 6, 1, 11, 0) := by decide +kernel
theorem mi_258_8 : mI 258 8 = (1, (-2), 1, 0, 0) := by decide +kernel
theorem mi_258_10 : mI 258 10 = (27, 0, 0, 0, 0) := by decide +kernel
theorem mi_258_11 : mI 258 11 = (5, 0, 0, 0, 0) := by decide +kernel
theorem mi_258_12 : mI 258 12 = (26, 1505, 301, 238, 0) := by decide +kernel
theorem mi_258_15 : mI 258 15 = (5, 0, 0, 0, 0) := by decide +kernel
theorem mi_258_16 : mI 258 16 = (3, 0, 1, 0, 0) := by decide +kernel
theorem mi_258_17 : mI 258 17 = (26, 1577, 314, 257, 0) := by decide +kernel
theorem mi_258_20 : mI 258 20 = (6, 0, 2, 0, 0) := by decide +kernel
theorem mi_258_21 : mI 258 21 = (3, 0, 2, 0, 0) := by decide +kernel
theorem mi_258_22 : mI 258 22 = (1, (-1), 0, 0, 0) := by decide +kernel
theorem mi_258_23 : mI 258 23 = (15, 7, 1, 30, 0) := by decide +kernel
theorem mi_258_26 : mI 258 26 = (1, (-1), 0, 0, 0) := by decide +kernel
theorem mi_258_27 : mI 258 27 = (16, 9, 0, 36, 0) := by decide +kernel
theorem mi_258_30 : mI 258 30 = (5, 0, 0, 0, 0) := by decide +kernel
theorem mi_258_31 : mI 258 31 = (3, 0, 2, 0, 0) := by decide +kernel
theorem mi_258_32 : mI 258 32 = (3, 0, 1, 0, 0) := by decide +kernel
theorem mi_258_33 : mI 258 33 = (26, 1557, 307, 253, 0) := by decide +kernel
theorem mi_258_36 : mI 258 36 = (27, 0, 0, 0, 0) := by decide +kernel
theorem mi_259_0 : mI 259 0 = (5, 0, 0, 0, 0) := by decide +kernel
theorem mi_259_1 : mI 259 1 = (3, 0, 1, 0, 0) := by decide +kernel
theorem mi_259_2 : mI 259 2 = (26, 1448, 89, 199, 0) := by decide +kernel
theorem mi_259_5 : mI 259 5 = (14, 6, 1, 11, 0) := by decide +kernel
theorem mi_259_8 : mI 259 8 = (1, (-2), 1, 0, 0) := by decide +kernel
theorem mi_259_10 : mI 259 10 = (27, 0, 0, 0, 0) := by decide +kernel
theorem mi_259_11 : mI 259 11 = (5, 0, 0, 0, 0) := by decide +kernel
theorem mi_259_12 : mI 259 12 = (26, 1505, 301, 238, 0) := by decide +kernel
theorem mi_259_15 : mI 259 15 = (5, 0, 0, 0, 0) := by decide +kernel
theorem mi_259_16 : mI 259 16 = (3, 0, 1, 0, 0) := by decide +kernel
theorem mi_259_17 : mI 259 17 = (26, 1577, 314, 257, 0) := by decide +kernel
theorem mi_259_20 : mI 259 20 = (27, 0, 0, 0, 0) := by decide +kernel
theorem mi_260_0 : mI 260 0 = (5, 0, 0, 0, 0) := by decide +kernel
theorem mi_260_1 : mI 260 1 = (3, 0, 1, 0, 0) := by decide +kernel
theorem mi_260_2 : mI 260 2 = (26, 1472, 293, 201, 0) := by decide +kernel
theorem mi_260_5 : mI 260 5 = (14, 6, 1, 11, 0) := by decide +kernel
theorem mi_260_8 : mI 260 8 = (1, (-2), 1, 0, 0) := by decide +kernel
theorem mi_260_10 : mI 260 10 = (27, 0, 0, 0, 0) := by decide +kernel
theorem mi_260_11 : mI 260 11 = (5, 0, 0, 0, 0) := by decide +kernel
theorem mi_260_12 : mI 260 12 = (26, 1505, 301, 238, 0) := by decide +kernel
theorem mi_260_15 : mI 260 15 = (1, 0, 0, 0, 0) := by decide +kernel
theorem mi_260_16 : mI 260 16 = (6, 0, 2, 0, 0) := by decide +kernel
theorem mi_260_17 : mI 260 17 = (1, 0, 0, 0, 0) := by decide +kernel
theorem mi_260_18 : mI 260 18 = (6, 0, 3, 0, 0) := by decide +kernel
theorem mi_260_19 : mI 260 19 = (3, 0, 3, 0, 0) := by decide +kernel
theorem mi_260_20 : mI 260 20 = (5, 0, 0, 0, 0) := by decide +kernel
theorem mi_260_21 : mI 260 21 = (17, 1207, 9, 11, 1) := by decide +kernel
theorem mi_260_24 : mI 260 24 = (1, 3, 0, 0, 0) := by decide +kernel
theorem mi_260_25 : mI 260 25 = (19, 0, 0, 0, 0) := by decide +kernel
theorem mi_260_26 : mI 260 26 = (15, 28, 3, 54, 0) := by decide +kernel
theorem mi_260_29 : mI 260 29 = (3, 0, 2, 0, 0) := by decide +kernel
theorem mi_260_30 : mI 260 30 = (5, 0, 0, 0, 0) := by decide +kernel
theorem mi_260_31 : mI 260 31 = (3, 0, 3, 0, 0) := by decide +kernel
theorem mi_260_32 : mI 260 32 = (3, 0, 1, 0, 0) := by decide +kernel
theorem mi_260_33 : mI 260 33 = (26, 1569, 310, 255, 0) := by decide +kernel
theorem mi_260_36 : mI 260 36 = (14, 9, 1, 45, 0) := by decide +kernel
theorem mi_260_39 : mI 260 39 = (1, 1, 0, 0, 0) := by decide +kernel
theorem mi_260_40 : mI 260 40 = (3, 0, 3, 0, 0) := by decide +kernel
theorem mi_260_41 : mI 260 41 = (10, 0, 8, 0, 0) := by decide +kernel
theorem mi_260_42 : mI 260 42 = (16, 4, 0, 46, 0) := by decide +kernel
theorem mi_260_45 : mI 260 45 = (1, 0, 0, 0, 0) := by decide +kernel
theorem mi_260_46 : mI 260 46 = (10, 0, 6, 0, 0) := by decide +kernel
theorem mi_260_47 : mI 260 47 = (6, 0, 2, 0, 0) := by decide +kernel
theorem mi_260_48 : mI 260 48 = (9, 1, 3, 0, 0) := by decide +kernel
theorem mi_260_51 : mI 260 51 = (16, (-32), 0, 19, 0) := by decide +kernel
theorem mi_260_54 : mI 260 54 = (3, 0, 2, 0, 0) := by decide +kernel
theorem mi_260_55 : mI 260 55 = (27, 0, 0, 0, 0) := by decide +kernel
theorem mi_261_0 : mI 261 0 = (1, 0, 0, 0, 0) := by decide +kernel
theorem mi_261_1 : mI 261 1 = (6, 0, 3, 0, 0) := by decide +kernel
theorem mi_261_2 : mI 261 2 = (1, 0, 0, 0, 0) := by decide +kernel
theorem mi_261_3 : mI 261 3 = (6, 0, 4, 1, 0) := by decide +kernel
theorem mi_261_5 : mI 261 5 = (3, 0, 4, 1, 0) := by decide +kernel
theorem mi_261_7 : mI 261 7 = (5, 0, 0, 0, 0) := by decide +kernel
theorem mi_261_8 : mI 261 8 = (17, 1207, 9, 11, 1) := by decide +kernel
theorem mi_261_11 : mI 261 11 = (1, 3, 0, 0, 0) := by decide +kernel
theorem mi_261_12 : mI 261 12 = (19, 0, 0, 0, 0) := by decide +kernel
theorem mi_261_13 : mI 261 13 = (15, 35, 3, 48, 0) := by decide +kernel
theorem mi_261_16 : mI 261 16 = (3, 0, 3, 0, 0) := by decide +kernel
theorem mi_261_17 : mI 261 17 = (3, 0, 4, 1, 0) := by decide +kernel
theorem mi_261_19 : mI 261 19 = (3, 0, 1, 0, 0) := by decide +kernel
theorem mi_261_20 : mI 261 20 = (15, 7, 1, 27, 0) := by decide +kernel
theorem mi_261_23 : mI 261 23 = (1, 0, 0, 0, 0) := by decide +kernel
theorem mi_261_24 : mI 261 24 = (16, 16, 0, 40, 0) := by decide +kernel
theorem mi_261_27 : mI 261 27 = (5, 0, 0, 0, 0) := by decide +kernel
theorem mi_261_28 : mI 261 28 = (3, 0, 1, 0, 0) := by decide +kernel
theorem mi_261_29 : mI 261 29 = (3, 0, 4, 1, 0) := by decide +kernel
theorem mi_261_31 : mI 261 31 = (3, 0, 2, 0, 0) := by decide +kernel
theorem mi_261_32 : mI 261 32 = (1, 1, 0, 0, 0) := by decide +kernel
theorem mi_261_33 : mI 261 33 = (10, 0, 0, 0, 0) := by decide +kernel
theorem mi_261_34 : mI 261 34 = (26, 1533, 282, 239, 0) := by decide +kernel
theorem mi_261_37 : mI 261 37 = (26, 1598, 317, 194, 1) := by decide +kernel
theorem mi_261_40 : mI 261 40 = (10, 0, 0, 0, 0) := by decide +kernel
theorem mi_261_41 : mI 261 41 = (6, 0, 3, 0, 0) := by decide +kernel
theorem mi_261_42 : mI 261 42 = (9, 1, 4, 0, 0) := by decide +kernel
theorem mi_261_45 : mI 261 45 = (16, (-40), 0, 5, 0) := by decide +kernel
theorem mi_261_48 : mI 261 48 = (3, 0, 3, 0, 0) := by decide +kernel
theorem mi_261_49 : mI 261 49 = (27, 0, 0, 0, 0) := by decide +kernel
theorem mi_262_0 : mI 262 0 = (5, 0, 0, 0, 0) := by decide +kernel
theorem mi_262_1 : mI 262 1 = (3, 0, 1, 0, 0) := by decide +kernel
theorem mi_262_2 : mI 262 2 = (26, 1448, 89, 199, 0) := by decide +kernel
theorem mi_262_5 : mI 262 5 = (14, 11, 0, 16, 0) := by decide +kernel
theorem mi_262_8 : mI 262 8 = (5, 0, 0, 0, 0) := by decide +kernel
theorem mi_262_9 : mI 262 9 = (3, 0, 2, 0, 0) := by decide +kernel
theorem mi_262_10 : mI 262 10 = (26, 1472, 293, 201, 0) := by decide +kernel
theorem mi_262_13 : mI 262 13 = (14, 6, 1, 19, 0) := by decide +kernel
theorem mi_262_16 : mI 262 16 = (1, (-2), 1, 0, 0) := by decide +kernel
theorem mi_262_18 : mI 262 18 = (27, 0, 0, 0, 0) := by decide +kernel
theorem mi_262_19 : mI 262 19 = (5, 0, 0, 0, 0) := by decide +kernel
theorem mi_262_20 : mI 262 20 = (26, 1505, 301, 238, 0) := by decide +kernel
theorem mi_262_23 : mI 262 23 = (5, 0, 0, 0, 0) := by decide +kernel
theorem mi_262_24 : mI 262 24 = (3, 0, 1, 0, 0) := by decide +kernel
theorem mi_262_25 : mI 262 25 = (3, 0, 2, 0, 0) := by decide +kernel
theorem mi_262_26 : mI 262 26 = (26, 1594, 320, 261, 0) := by decide +kernel
theorem mi_262_29 : mI 262 29 = (27, 0, 0, 0, 0) := by decide +kernel
theorem mi_263_0 : mI 263 0 = (5, 0, 0, 0, 0) := by decide +kernel
theorem mi_263_1 : mI 263 1 = (3, 0, 1, 0, 0) := by decide +kernel
theorem mi_263_2 : mI 263 2 = (26, 1472, 293, 201, 0) := by decide +kernel
theorem mi_263_5 : mI 263 5 = (14, 6, 1, 11, 0) := by decide +kernel
theorem mi_263_8 : mI 263 8 = (1, (-2), 1, 0, 0) := by decide +kernel
theorem mi_263_10 : mI 263 10 = (27, 0, 0, 0, 0) := by decide +kernel
theorem mi_263_11 : mI 263 11 = (5, 0, 0, 0, 0) := by decide +kernel
theorem mi_263_12 : mI 263 12 = (26, 1505, 301, 238, 0) := by decide +kernel
theorem mi_263_15 : mI 263 15 = (1, (-1), 0, 0, 0) := by decide +kernel
theorem mi_263_16 : mI 263 16 = (6, 0, 2, 0, 0) := by decide +kernel
theorem mi_263_17 : mI 263 17 = (1, 0, 0, 0, 0) := by decide +kernel
theorem mi_263_18 : mI 263 18 = (6, 0, 3, 0, 0) := by decide +kernel
theorem mi_263_19 : mI 263 19 = (3, 0, 3, 0, 0) := by decide +kernel
theorem mi_263_20 : mI 263 20 = (5, 0, 0, 0, 0) := by decide +kernel
theorem mi_263_21 : mI 263 21 = (17, 1207, 9, 11, 1) := by decide +kernel
theorem mi_263_24 : mI 263 24 = (1, 3, 0, 0, 0) := by decide +kernel
theorem mi_263_25 : mI 263 25 = (19, 0, 0, 0, 0) := by decide +kernel
theorem mi_263_26 : mI 263 26 = (15, 31, 3, 57, 0) := by decide +kernel
theorem mi_263_29 : mI 263 29 = (3, 0, 2, 0, 0) := by decide +kernel
theorem mi_263_30 : mI 263 30 = (1, (-1), 0, 0, 0) := by decide +kernel
theorem mi_263_31 : mI 263 31 = (15, 18, 0, 49, 0) := by decide +kernel
theorem mi_263_34 : mI 263 34 = (5, 0, 0, 0, 0) := by decide +kernel
theorem mi_263_35 : mI 263 35 = (3, 0, 3, 0, 0) := by decide +kernel
theorem mi_263_36 : mI 263 36 = (3, 0, 1, 0, 0) := by decide +kernel
theorem mi_263_37 : mI 263 37 = (26, 1594, 320, 261, 0) := by decide +kernel
theorem mi_263_40 : mI 263 40 = (5, 0, 0, 0, 0) := by decide +kernel
theorem mi_263_41 : mI 263 41 = (3, 0, 2, 0, 0) := by decide +kernel
theorem mi_263_42 : mI 263 42 = (3, 0, 1, 0, 0) := by decide +kernel
theorem mi_263_43 : mI 263 43 = (26, 1594, 320, 261, 0) := by decide +kernel
theorem mi_263_46 : mI 263 46 = (15, 5, 5, 51, 0) := by decide +kernel
theorem mi_263_49 : mI 263 49 = (3, 0, 3, 0, 0) := by decide +kernel
theorem mi_263_50 : mI 263 50 = (6, 0, 2, 0, 0) := by decide +kernel
theorem mi_263_51 : mI 263 51 = (9, 1, 3, 0, 0) := by decide +kernel
theorem mi_263_54 : mI 263 54 = (16, (-35), 0, 19, 0) := by decide +kernel
theorem mi_263_57 : mI 263 57 = (3, 0, 2, 0, 0) := by decide +kernel
theorem mi_263_58 : mI 263 58 = (27, 0, 0, 0, 0) := by decide +kernel
theorem mi_265_0 : mI 265 0 = (5, 0, 0, 0, 0) := by decide +kernel
theorem mi_265_1 : mI 265 1 = (3, 0, 1, 0, 0) := by decide +kernel
theorem mi_265_2 : mI 265 2 = (3, 0, 2, 0, 0) := by decide +kernel
theorem mi_265_3 : mI 265 3 = (3, 0, 3, 0, 0) := by decide +kernel
theorem mi_265_4 : mI 265 4 = (26, 1561, 286, 241, 0) := by decide +kernel
theorem mi_265_7 : mI 265 7 = (14, 6, 1, 13, 0) := by decide +kernel
theorem mi_265_10 : mI 265 10 = (1, (-5), 1, 0, 0) := by decide +kernel
theorem mi_265_12 : mI 265 12 = (27, 0, 0, 0, 0) := by decide +kernel
theorem mi_265_13 : mI 265 13 = (3, 0, 3, 0, 0) := by decide +kernel
theorem mi_265_14 : mI 265 14 = (5, 0, 0, 0, 0) := by decide +kernel
theorem mi_265_15 : mI 265 15 = (3, 0, 2, 0, 0) := by decide +kernel
theorem mi_265_16 : mI 265 16 = (26, 1452, 93, 204, 0) := by decide +kernel
theorem mi_265_19 : mI 265 19 = (5, 0, 0, 0, 0) := by decide +kernel
theorem mi_265_20 : mI 265 20 = (17, 1207, 9, 11, 1) := by decide +kernel
theorem mi_265_23 : mI 265 23 = (1, 48, 1, 0, 0) := by decide +kernel
theorem mi_265_25 : mI 265 25 = (3, 0, 1, 0, 0) := by decide +kernel
theorem mi_265_26 : mI 265 26 = (10, 0, 0, 0, 0) := by decide +kernel
theorem mi_265_27 : mI 265 27 = (19, 0, 0, 0, 0) := by decide +kernel
theorem mi_265_28 : mI 265 28 = (10, 0, 2, 0, 0) := by decide +kernel
theorem mi_265_29 : mI 265 29 = (10, 0, 0, 0, 0) := by decide +kernel
theorem mi_265_30 : mI 265 30 = (1, 1, 0, 0, 0) := by decide +kernel
theorem mi_265_31 : mI 265 31 = (10, 0, 1, 0, 0) := by decide +kernel
theorem mi_265_32 : mI 265 32 = (6, 0, 4, 1, 0) := by decide +kernel
theorem mi_265_34 : mI 265 34 = (3, 0, 4, 1, 0) := by decide +kernel
theorem mi_265_36 : mI 265 36 = (5, 0, 0, 0, 0) := by decide +kernel
theorem mi_265_37 : mI 265 37 = (17, 1207, 9, 11, 1) := by decide +kernel
theorem mi_265_40 : mI 265 40 = (1, 2, 0, 0, 0) := by decide +kernel
theorem mi_265_41 : mI 265 41 = (19, 0, 0, 0, 0) := by decide +kernel
theorem mi_265_42 : mI 265 42 = (15, 5, 2, 47, 0) := by decide +kernel
theorem mi_265_45 : mI 265 45 = (1, (-1), 0, 0, 0) := by decide +kernel
theorem mi_265_46 : mI 265 46 = (27, 0, 0, 0, 0) := by decide +kernel
theorem mi_265_47 : mI 265 47 = (3, 0, 3, 0, 0) := by decide +kernel
theorem mi_265_48 : mI 265 48 = (6, 0, 5, 1, 0) := by decide +kernel
theorem mi_265_50 : mI 265 50 = (3, 0, 5, 1, 0) := by decide +kernel
theorem mi_265_52 : mI 265 52 = (3, 0, 4, 1, 0) := by decide +kernel
theorem mi_265_54 : mI 265 54 = (15, 22, 4, 76, 0) := by decide +kernel
theorem mi_265_57 : mI 265 57 = (5, 0, 0, 0, 0) := by decide +kernel
theorem mi_265_58 : mI 265 58 = (3, 0, 1, 0, 0) := by decide +kernel
theorem mi_265_59 : mI 265 59 = (3, 0, 2, 0, 0) := by decide +kernel
theorem mi_265_60 : mI 265 60 = (3, 0, 5, 1, 0) := by decide +kernel
theorem mi_265_62 : mI 265 62 = (26, 1613, 323, 264, 0) := by decide +kernel
theorem mi_265_65 : mI 265 65 = (14, 5, 1, 70, 0) := by decide +kernel
theorem mi_265_68 : mI 265 68 = (1, (-1), 0, 0, 0) := by decide +kernel
theorem mi_265_69 : mI 265 69 = (27, 0, 0, 0, 0) := by decide +kernel
theorem mi_265_70 : mI 265 70 = (9, 1, 5, 0, 0) := by decide +kernel
theorem mi_265_73 : mI 265 73 = (16, (-23), 0, 50, 0) := by decide +kernel
theorem mi_265_76 : mI 265 76 = (3, 0, 4, 1, 0) := by decide +kernel
theorem mi_265_78 : mI 265 78 = (27, 0, 0, 0, 0) := by decide +kernel
theorem mi_266_0 : mI 266 0 = (5, 0, 0, 0, 0) := by decide +kernel
theorem mi_266_1 : mI 266 1 = (3, 0, 1, 0, 0) := by decide +kernel
theorem mi_266_2 : mI 266 2 = (3, 0, 2, 0, 0) := by decide +kernel
theorem mi_266_3 : mI 266 3 = (26, 1553, 304, 200, 0) := by decide +kernel
theorem mi_266_6 : mI 266 6 = (14, 11, 0, 17, 0) := by decide +kernel
theorem mi_266_9 : mI 266 9 = (5, 0, 0, 0, 0) := by decide +kernel
theorem mi_266_10 : mI 266 10 = (3, 0, 3, 0, 0) := by decide +kernel
theorem mi_266_11 : mI 266 11 = (26, 1472, 293, 201, 0) := by decide +kernel
theorem mi_266_14 : mI 266 14 = (14, 6, 1, 20, 0) := by decide +kernel
theorem mi_266_17 : mI 266 17 = (1, (-2), 1, 0, 0) := by decide +kernel
theorem mi_266_19 : mI 266 19 = (27, 0, 0, 0, 0) := by decide +kernel
theorem mi_266_20 : mI 266 20 = (5, 0, 0, 0, 0) := by decide +kernel
theorem mi_266_21 : mI 266 21 = (26, 1505, 301, 238, 0) := by decide +kernel
theorem mi_266_24 : mI 266 24 = (5, 0, 0, 0, 0) := by decide +kernel
theorem mi_266_25 : mI 266 25 = (3, 0, 1, 0, 0) := by decide +kernel
theorem mi_266_26 : mI 266 26 = (3, 0, 2, 0, 0) := by decide +kernel
theorem mi_266_27 : mI 266 27 = (3, 0, 3, 0, 0) := by decide +kernel
theorem mi_266_28 : mI 266 28 = (26, 1609, 326, 265, 0) := by decide +kernel
theorem mi_266_31 : mI 266 31 = (27, 0, 0, 0, 0) := by decide +kernel
theorem mi_267_0 : mI 267 0 = (5, 0, 0, 0, 0) := by decide +kernel
theorem mi_267_1 : mI 267 1 = (3, 0, 1, 0, 0) := by decide +kernel
theorem mi_267_2 : mI 267 2 = (3, 0, 2, 0, 0) := by decide +kernel
theorem mi_267_3 : mI 267 3 = (26, 1553, 304, 200, 0) := by decide +kernel
theorem mi_267_6 : mI 267 6 = (14, 6, 1, 12, 0) := by decide +kernel
theorem mi_267_9 : mI 267 9 = (1, (-2), 1, 0, 0) := by decide +kernel
theorem mi_267_11 : mI 267 11 = (27, 0, 0, 0, 0) := by decide +kernel
theorem mi_267_12 : mI 267 12 = (5, 0, 0, 0, 0) := by decide +kernel
theorem mi_267_13 : mI 267 13 = (26, 1505, 301, 238, 0) := by decide +kernel
theorem mi_267_16 : mI 267 16 = (1, 0, 0, 0, 0) := by decide +kernel
theorem mi_267_17 : mI 267 17 = (6, 0, 3, 0, 0) := by decide +kernel
theorem mi_267_18 : mI 267 18 = (3, 0, 3, 0, 0) := by decide +kernel
theorem mi_267_19 : mI 267 19 = (5, 0, 0, 0, 0) := by decide +kernel
theorem mi_267_20 : mI 267 20 = (17, 1207, 9, 11, 1) := by decide +kernel
theorem mi_267_23 : mI 267 23 = (1, 2, 0, 0, 0) := by decide +kernel
theorem mi_267_24 : mI 267 24 = (19, 0, 0, 0, 0) := by decide +kernel
theorem mi_267_25 : mI 267 25 = (15, 21, 3, 46, 0) := by decide +kernel
theorem mi_267_28 : mI 267 28 = (5, 0, 0, 0, 0) := by decide +kernel
theorem mi_267_29 : mI 267 29 = (3, 0, 1, 0, 0) := by decide +kernel
theorem mi_267_30 : mI 267 30 = (3, 0, 2, 0, 0) := by decide +kernel
theorem mi_267_31 : mI 267 31 = (3, 0, 3, 0, 0) := by decide +kernel
theorem mi_267_32 : mI 267 32 = (26, 1609, 326, 265, 0) := by decide +kernel
theorem mi_267_35 : mI 267 35 = (14, 5, 2, 40, 0) := by decide +kernel
theorem mi_267_38 : mI 267 38 = (3, 0, 3, 0, 0) := by decide +kernel
theorem mi_267_39 : mI 267 39 = (27, 0, 0, 0, 0) := by decide +kernel
theorem mi_267_40 : mI 267 40 = (9, 1, 3, 0, 0) := by decide +kernel
theorem mi_267_43 : mI 267 43 = (16, (-25), 0, 18, 0) := by decide +kernel
theorem mi_267_46 : mI 267 46 = (1, (-1), 0, 0, 0) := by decide +kernel
theorem mi_267_47 : mI 267 47 = (27, 0, 0, 0, 0) := by decide +kernel
theorem mi_268_0 : mI 268 0 = (5, 0, 0, 0, 0) := by decide +kernel
theorem mi_268_1 : mI 268 1 = (3, 0, 1, 0, 0) := by decide +kernel
theorem mi_268_2 : mI 268 2 = (3, 0, 2, 0, 0) := by decide +kernel
theorem mi_268_3 : mI 268 3 = (26, 1553, 304, 200, 0) := by decide +kernel
theorem mi_268_6 : mI 268 6 = (14, 6, 1, 12, 0) := by decide +kernel
theorem mi_268_9 : mI 268 9 = (1, (-2), 1, 0, 0) := by decide +kernel
theorem mi_268_11 : mI 268 11 = (27, 0, 0, 0, 0) := by decide +kernel
theorem mi_268_12 : mI 268 12 = (5, 0, 0, 0, 0) := by decide +kernel
theorem mi_268_13 : mI 268 13 = (26, 1505, 301, 238, 0) := by decide +kernel
theorem mi_268_16 : mI 268 16 = (5, 0, 0, 0, 0) := by decide +kernel
theorem mi_268_17 : mI 268 17 = (17, 1207, 9, 11, 1) := by decide +kernel
theorem mi_268_20 : mI 268 20 = (1, 2, 0, 0, 0) := by decide +kernel
theorem mi_268_21 : mI 268 21 = (19, 0, 0, 0, 0) := by decide +kernel
theorem mi_268_22 : mI 268 22 = (1, 1, 0, 0, 0) := by decide +kernel
theorem mi_268_23 : mI 268 23 = (10, 0, 1, 0, 0) := by decide +kernel
theorem mi_268_24 : mI 268 24 = (6, 0, 3, 0, 0) := by decide +kernel
theorem mi_268_25 : mI 268 25 = (3, 0, 3, 0, 0) := by decide +kernel
theorem mi_268_26 : mI 268 26 = (14, 21, 2, 47, 0) := by decide +kernel
theorem mi_268_29 : mI 268 29 = (5, 0, 0, 0, 0) := by decide +kernel
theorem mi_268_30 : mI 268 30 = (3, 0, 1, 0, 0) := by decide +kernel
theorem mi_268_31 : mI 268 31 = (3, 0, 2, 0, 0) := by decide +kernel
theorem mi_268_32 : mI 268 32 = (3, 0, 3, 0, 0) := by decide +kernel
theorem mi_268_33 : mI 268 33 = (26, 1609, 326, 265, 0) := by decide +kernel
theorem mi_268_36 : mI 268 36 = (14, 5, 2, 41, 0) := by decide +kernel
theorem mi_268_39 : mI 268 39 = (3, 0, 3, 0, 0) := by decide +kernel
theorem mi_268_40 : mI 268 40 = (27, 0, 0, 0, 0) := by decide +kernel
theorem mi_268_41 : mI 268 41 = (9, (-1), 3, 0, 0) := by decide +kernel
theorem mi_268_44 : mI 268 44 = (16, (-19), 0, 25, 0) := by decide +kernel
theorem mi_268_47 : mI 268 47 = (1, (-1), 0, 0, 0) := by decide +kernel
theorem mi_268_48 : mI 268 48 = (27, 0, 0, 0, 0) := by decide +kernel
theorem mi_269_0 : mI 269 0 = (5, 0, 0, 0, 0) := by decide +kernel
theorem mi_269_1 : mI 269 1 = (3, 0, 1, 0, 0) := by decide +kernel
theorem mi_269_2 : mI 269 2 = (26, 1448, 89, 199, 0) := by decide +kernel
theorem mi_269_5 : mI 269 5 = (14, 11, 0, 16, 0) := by decide +kernel
theorem mi_269_8 : mI 269 8 = (5, 0, 0, 0, 0) := by decide +kernel
theorem mi_269_9 : mI 269 9 = (3, 0, 2, 0, 0) := by decide +kernel
theorem mi_269_10 : mI 269 10 = (26, 1472, 293, 201, 0) := by decide +kernel
theorem mi_269_13 : mI 269 13 = (14, 6, 1, 19, 0) := by decide +kernel
theorem mi_269_16 : mI 269 16 = (1, (-2), 1, 0, 0) := by decide +kernel
theorem mi_269_18 : mI 269 18 = (27, 0, 0, 0, 0) := by decide +kernel
theorem mi_269_19 : mI 269 19 = (5, 0, 0, 0, 0) := by decide +kernel
theorem mi_269_20 : mI 269 20 = (26, 1505, 301, 238, 0) := by decide +kernel
theorem mi_269_23 : mI 269 23 = (1, 0, 0, 0, 0) := by decide +kernel
theorem mi_269_24 : mI 269 24 = (6, 0, 3, 0, 0) := by decide +kernel
theorem mi_269_25 : mI 269 25 = (1, 0, 0, 0, 0) := by decide +kernel
theorem mi_269_26 : mI 269 26 = (6, 0, 4, 1, 0) := by decide +kernel
theorem mi_269_28 : mI 269 28 = (3, 0, 4, 1, 0) := by decide +kernel
theorem mi_269_30 : mI 269 30 = (5, 0, 0, 0, 0) := by decide +kernel
theorem mi_269_31 : mI 269 31 = (17, 1207, 9, 11, 1) := by decide +kernel
theorem mi_269_34 : mI 269 34 = (1, 3, 0, 0, 0) := by decide +kernel
theorem mi_269_35 : mI 269 35 = (19, 0, 0, 0, 0) := by decide +kernel
theorem mi_269_36 : mI 269 36 = (15, 37, 3, 73, 0) := by decide +kernel
theorem mi_269_39 : mI 269 39 = (3, 0, 3, 0, 0) := by decide +kernel
theorem mi_269_40 : mI 269 40 = (3, 0, 4, 1, 0) := by decide +kernel
theorem mi_269_42 : mI 269 42 = (3, 0, 1, 0, 0) := by decide +kernel
theorem mi_269_43 : mI 269 43 = (15, 21, 0, 64, 0) := by decide +kernel
theorem mi_269_46 : mI 269 46 = (5, 0, 0, 0, 0) := by decide +kernel
theorem mi_269_47 : mI 269 47 = (3, 0, 4, 1, 0) := by decide +kernel
theorem mi_269_49 : mI 269 49 = (3, 0, 1, 0, 0) := by decide +kernel
theorem mi_269_50 : mI 269 50 = (3, 0, 2, 0, 0) := by decide +kernel
theorem mi_269_51 : mI 269 51 = (26, 1609, 326, 265, 0) := by decide +kernel
theorem mi_269_54 : mI 269 54 = (14, 10, 2, 64, 0) := by decide +kernel
theorem mi_269_57 : mI 269 57 = (1, 1, 0, 0, 0) := by decide +kernel
theorem mi_269_58 : mI 269 58 = (3, 0, 4, 1, 0) := by decide +kernel
theorem mi_269_60 : mI 269 60 = (10, 0, 8, 0, 0) := by decide +kernel
theorem mi_269_61 : mI 269 61 = (16, 4, 0, 65, 0) := by decide +kernel
theorem mi_269_64 : mI 269 64 = (1, 0, 0, 0, 0) := by decide +kernel
theorem mi_269_65 : mI 269 65 = (10, 0, 6, 0, 0) := by decide +kernel
theorem mi_269_66 : mI 269 66 = (6, 0, 3, 0, 0) := by decide +kernel
theorem mi_269_67 : mI 269 67 = (9, 1, 4, 0, 0) := by decide +kernel
theorem mi_269_70 : mI 269 70 = (16, (-42), 0, 28, 0) := by decide +kernel
theorem mi_269_73 : mI 269 73 = (3, 0, 3, 0, 0) := by decide +kernel
theorem mi_269_74 : mI 269 74 = (27, 0, 0, 0, 0) := by decide +kernel
theorem mi_271_0 : mI 271 0 = (5, 0, 0, 0, 0) := by decide +kernel
theorem mi_271_1 : mI 271 1 = (3, 0, 1, 0, 0) := by decide +kernel
theorem mi_271_2 : mI 271 2 = (26, 1448, 89, 199, 0) := by decide +kernel
theorem mi_271_5 : mI 271 5 = (14, 6, 1, 11, 0) := by decide +kernel
theorem mi_271_8 : mI 271 8 = (1, (-2), 1, 0, 0) := by decide +kernel
theorem mi_271_10 : mI 271 10 = (27, 0, 0, 0, 0) := by decide +kernel
theorem mi_271_11 : mI 271 11 = (5, 0, 0, 0, 0) := by decide +kernel
theorem mi_271_12 : mI 271 12 = (26, 1505, 301, 238, 0) := by decide +kernel
theorem mi_271_15 : mI 271 15 = (1, 0, 0, 0, 0) := by decide +kernel
theorem mi_271_16 : mI 271 16 = (6, 0, 2, 0, 0) := by decide +kernel
theorem mi_271_17 : mI 271 17 = (1, 0, 0, 0, 0) := by decide +kernel
theorem mi_271_18 : mI 271 18 = (6, 0, 3, 0, 0) := by decide +kernel
theorem mi_271_19 : mI 271 19 = (3, 0, 3, 0, 0) := by decide +kernel
theorem mi_271_20 : mI 271 20 = (5, 0, 0, 0, 0) := by decide +kernel
theorem mi_271_21 : mI 271 21 = (17, 1207, 9, 11, 1) := by decide +kernel
theorem mi_271_24 : mI 271 24 = (1, 4, 0, 0, 0) := by decide +kernel
theorem mi_271_25 : mI 271 25 = (19, 0, 0, 0, 0) := by decide +kernel
theorem mi_271_26 : mI 271 26 = (15, 35, 3, 61, 0) := by decide +kernel
theorem mi_271_29 : mI 271 29 = (3, 0, 2, 0, 0) := by decide +kernel
theorem mi_271_30 : mI 271 30 = (5, 0, 0, 0, 0) := by decide +kernel
theorem mi_271_31 : mI 271 31 = (3, 0, 3, 0, 0) := by decide +kernel
theorem mi_271_32 : mI 271 32 = (1, 0, 0, 0, 0) := by decide +kernel
theorem mi_271_33 : mI 271 33 = (26, 1489, 258, 208, 0) := by decide +kernel
theorem mi_271_36 : mI 271 36 = (3, 0, 1, 0, 0) := by decide +kernel
theorem mi_271_37 : mI 271 37 = (15, 15, 1, 52, 0) := by decide +kernel
theorem mi_271_40 : mI 271 40 = (5, 0, 0, 0, 0) := by decide +kernel
theorem mi_271_41 : mI 271 41 = (17, 1226, 46, 11, 20) := by decide +kernel
theorem mi_271_44 : mI 271 44 = (3, 0, 3, 0, 0) := by decide +kernel
theorem mi_271_45 : mI 271 45 = (19, 0, 0, 0, 0) := by decide +kernel
theorem mi_271_46 : mI 271 46 = (26, 1598, 317, 194, 1) := by decide +kernel
theorem mi_271_49 : mI 271 49 = (16, 4, 0, 53, 0) := by decide +kernel
theorem mi_271_52 : mI 271 52 = (1, 0, 0, 0, 0) := by decide +kernel
theorem mi_271_53 : mI 271 53 = (10, 0, 0, 0, 0) := by decide +kernel
theorem mi_271_54 : mI 271 54 = (6, 0, 2, 0, 0) := by decide +kernel
theorem mi_271_55 : mI 271 55 = (9, 1, 3, 0, 0) := by decide +kernel
theorem mi_271_58 : mI 271 58 = (16, (-39), 0, 19, 0) := by decide +kernel
theorem mi_271_61 : mI 271 61 = (3, 0, 2, 0, 0) := by decide +kernel
theorem mi_271_62 : mI 271 62 = (27, 0, 0, 0, 0) := by decide +kernel
theorem mi_276_0 : mI 276 0 = (1, 0, 0, 0, 0) := by decide +kernel
theorem mi_276_1 : mI 276 1 = (6, 0, 3, 0, 0) := by decide +kernel
theorem mi_276_2 : mI 276 2 = (1, 0, 0, 0, 0) := by decide +kernel
theorem mi_276_3 : mI 276 3 = (6, 0, 4, 1, 0) := by decide +kernel
theorem mi_276_5 : mI 276 5 = (3, 0, 4, 1, 0) := by decide +kernel
theorem mi_276_7 : mI 276 7 = (5, 0, 0, 0, 0) := by decide +kernel
theorem mi_276_8 : mI 276 8 = (17, 1207, 9, 11, 1) := by decide +kernel
theorem mi_276_11 : mI 276 11 = (1, 3, 0, 0, 0) := by decide +kernel
theorem mi_276_12 : mI 276 12 = (19, 0, 0, 0, 0) := by decide +kernel
theorem mi_276_13 : mI 276 13 = (15, 33, 3, 46, 0) := by decide +kernel
theorem mi_276_16 : mI 276 16 = (3, 0, 3, 0, 0) := by decide +kernel
theorem mi_276_17 : mI 276 17 = (3, 0, 1, 0, 0) := by decide +kernel
theorem mi_276_18 : mI 276 18 = (3, 0, 4, 1, 0) := by decide +kernel
theorem mi_276_20 : mI 276 20 = (26, 1517, 255, 195, 1) := by decide +kernel
theorem mi_276_23 : mI 276 23 = (1, 1, 0, 0, 0) := by decide +kernel
theorem mi_276_24 : mI 276 24 = (15, 13, 1, 37, 0) := by decide +kernel
theorem mi_276_27 : mI 276 27 = (5, 0, 0, 0, 0) := by decide +kernel
theorem mi_276_28 : mI 276 28 = (3, 0, 4, 1, 0) := by decide +kernel
theorem mi_276_30 : mI 276 30 = (3, 0, 2, 0, 0) := by decide +kernel
theorem mi_276_31 : mI 276 31 = (26, 1669, 332, 240, 0) := by decide +kernel
theorem mi_276_34 : mI 276 34 = (16, 4, 0, 38, 0) := by decide +kernel
theorem mi_276_37 : mI 276 37 = (1, 0, 0, 0, 0) := by decide +kernel
theorem mi_276_38 : mI 276 38 = (10, 0, 6, 0, 0) := by decide +kernel
theorem mi_276_39 : mI 276 39 = (6, 0, 3, 0, 0) := by decide +kernel
theorem mi_276_40 : mI 276 40 = (9, 1, 4, 0, 0) := by decide +kernel
theorem mi_276_43 : mI 276 43 = (16, (-38), 0, 5, 0) := by decide +kernel
theorem mi_276_46 : mI 276 46 = (3, 0, 3, 0, 0) := by decide +kernel
theorem mi_276_47 : mI 276 47 = (5, 0, 0, 0, 0) := by decide +kernel
theorem mi_276_48 : mI 276 48 = (3, 0, 2, 0, 0) := by decide +kernel
theorem mi_276_49 : mI 276 49 = (26, 1497, 274, 206, 0) := by decide +kernel
theorem mi_276_52 : mI 276 52 = (15, 7, 1, 59, 0) := by decide +kernel
theorem mi_276_55 : mI 276 55 = (1, 1, 0, 0, 0) := by decide +kernel
theorem mi_276_56 : mI 276 56 = (16, 4, 0, 60, 0) := by decide +kernel
theorem mi_276_59 : mI 276 59 = (1, 0, 0, 0, 0) := by decide +kernel
theorem mi_276_60 : mI 276 60 = (27, 0, 0, 0, 0) := by decide +kernel
theorem mi_278_0 : mI 278 0 = (5, 0, 0, 0, 0) := by decide +kernel
theorem mi_278_1 : mI 278 1 = (3, 0, 1, 0, 0) := by decide +kernel
theorem mi_278_2 : mI 278 2 = (26, 1448, 89, 199, 0) := by decide +kernel
theorem mi_278_5 : mI 278 5 = (14, 6, 1, 11, 0) := by decide +kernel
theorem mi_278_8 : mI 278 8 = (1, (-2), 1, 0, 0) := by decide +kernel
theorem mi_278_10 : mI 278 10 = (27, 0, 0, 0, 0) := by decide +kernel
theorem mi_278_11 : mI 278 11 = (5, 0, 0, 0, 0) := by decide +kernel
theorem mi_278_12 : mI 278 12 = (26, 1505, 301, 238, 0) := by decide +kernel
theorem mi_278_15 : mI 278 15 = (5, 0, 0, 0, 0) := by decide +kernel
theorem mi_278_16 : mI 278 16 = (3, 0, 1, 0, 0) := by decide +kernel
theorem mi_278_17 : mI 278 17 = (5, 0, 0, 0, 0) := by decide +kernel
theorem mi_278_18 : mI 278 18 = (26, 1657, 338, 209, 0) := by decide +kernel
theorem mi_278_21 : mI 278 21 = (26, 1661, 341, 277, 0) := by decide +kernel
theorem mi_278_24 : mI 278 24 = (1, 1, 0, 0, 0) := by decide +kernel
theorem mi_278_25 : mI 278 25 = (3, 0, 1, 0, 0) := by decide +kernel
theorem mi_278_26 : mI 278 26 = (10, 0, 8, 0, 0) := by decide +kernel
theorem mi_278_27 : mI 278 27 = (1, (-1), 0, 0, 0) := by decide +kernel
theorem mi_278_28 : mI 278 28 = (10, 0, 7, 0, 0) := by decide +kernel
theorem mi_278_29 : mI 278 29 = (10, 0, 5, 0, 0) := by decide +kernel
theorem mi_278_30 : mI 278 30 = (27, 0, 0, 0, 0) := by decide +kernel
theorem mi_279_0 : mI 279 0 = (1, (-1), 0, 0, 0) := by decide +kernel
theorem mi_279_1 : mI 279 1 = (6, 0, 3, 0, 0) := by decide +kernel
theorem mi_279_2 : mI 279 2 = (1, 0, 0, 0, 0) := by decide +kernel
theorem mi_279_3 : mI 279 3 = (6, 0, 4, 1, 0) := by decide +kernel
theorem mi_279_5 : mI 279 5 = (3, 0, 4, 1, 0) := by decide +kernel
theorem mi_279_7 : mI 279 7 = (5, 0, 0, 0, 0) := by decide +kernel
theorem mi_279_8 : mI 279 8 = (26, 1657, 338, 209, 0) := by decide +kernel
theorem mi_279_11 : mI 279 11 = (15, 71, 4, 82, 0) := by decide +kernel
theorem mi_279_14 : mI 279 14 = (3, 0, 4, 1, 0) := by decide +kernel
theorem mi_279_16 : mI 279 16 = (3, 0, 2, 0, 0) := by decide +kernel
theorem mi_279_17 : mI 279 17 = (26, 1517, 255, 195, 1) := by decide +kernel
theorem mi_279_20 : mI 279 20 = (14, 56, 0, 76, 0) := by decide +kernel
theorem mi_279_23 : mI 279 23 = (3, 0, 4, 1, 0) := by decide +kernel
theorem mi_279_25 : mI 279 25 = (3, 0, 1, 0, 0) := by decide +kernel
theorem mi_279_26 : mI 279 26 = (26, 1517, 255, 195, 1) := by decide +kernel
theorem mi_279_29 : mI 279 29 = (1, 1, 0, 0, 0) := by decide +kernel
theorem mi_279_30 : mI 279 30 = (15, 46, 0, 76, 0) := by decide +kernel
theorem mi_279_33 : mI 279 33 = (3, 0, 3, 0, 0) := by decide +kernel
theorem mi_279_34 : mI 279 34 = (1, (-1), 0, 0, 0) := by decide +kernel
theorem mi_279_35 : mI 279 35 = (15, 18, 0, 53, 0) := by decide +kernel
theorem mi_279_38 : mI 279 38 = (3, 0, 4, 1, 0) := by decide +kernel
theorem mi_279_40 : mI 279 40 = (26, 1598, 317, 194, 1) := by decide +kernel
theorem mi_279_43 : mI 279 43 = (3, 0, 3, 0, 0) := by decide +kernel
theorem mi_279_44 : mI 279 44 = (26, 1598, 317, 194, 1) := by decide +kernel
theorem mi_279_47 : mI 279 47 = (15, 6, 2, 53, 0) := by decide +kernel
theorem mi_279_50 : mI 279 50 = (16, 26, 0, 76, 0) := by decide +kernel
theorem mi_279_53 : mI 279 53 = (5, 0, 0, 0, 0) := by decide +kernel
theorem mi_279_54 : mI 279 54 = (3, 0, 1, 0, 0) := by decide +kernel
theorem mi_279_55 : mI 279 55 = (3, 0, 4, 1, 0) := by decide +kernel
theorem mi_279_57 : mI 279 57 = (26, 1661, 341, 277, 0) := by decide +kernel
theorem mi_279_60 : mI 279 60 = (3, 0, 4, 1, 0) := by decide +kernel
theorem mi_279_62 : mI 279 62 = (1, 1, 0, 0, 0) := by decide +kernel
theorem mi_279_63 : mI 279 63 = (3, 0, 1, 0, 0) := by decide +kernel
theorem mi_279_64 : mI 279 64 = (10, 0, 8, 0, 0) := by decide +kernel
theorem mi_279_65 : mI 279 65 = (10, 0, 6, 0, 0) := by decide +kernel
theorem mi_279_66 : mI 279 66 = (15, 8, 1, 74, 0) := by decide +kernel
theorem mi_279_69 : mI 279 69 = (3, 0, 4, 1, 0) := by decide +kernel
theorem mi_279_71 : mI 279 71 = (16, 4, 0, 75, 0) := by decide +kernel
theorem mi_279_74 : mI 279 74 = (3, 0, 3, 0, 0) := by decide +kernel
theorem mi_279_75 : mI 279 75 = (6, 0, 3, 0, 0) := by decide +kernel
theorem mi_279_76 : mI 279 76 = (9, 1, 4, 0, 0) := by decide +kernel
theorem mi_279_79 : mI 279 79 = (16, (-74), 0, 5, 0) := by decide +kernel
theorem mi_279_82 : mI 279 82 = (3, 0, 3, 0, 0) := by decide +kernel
theorem mi_279_83 : mI 279 83 = (27, 0, 0, 0, 0) := by decide +kernel
theorem mi_280_0 : mI 280 0 = (5, 0, 0, 0, 0) := by decide +kernel
theorem mi_280_1 : mI 280 1 = (3, 0, 1, 0, 0) := by decide +kernel
theorem mi_280_2 : mI 280 2 = (3, 0, 2, 0, 0) := by decide +kernel
theorem mi_280_3 : mI 280 3 = (26, 1553, 304, 200, 0) := by decide +kernel
theorem mi_280_6 : mI 280 6 = (14, 6, 1, 12, 0) := by decide +kernel
theorem mi_280_9 : mI 280 9 = (1, (-2), 1, 0, 0) := by decide +kernel
theorem mi_280_11 : mI 280 11 = (27, 0, 0, 0, 0) := by decide +kernel
theorem mi_280_12 : mI 280 12 = (5, 0, 0, 0, 0) := by decide +kernel
theorem mi_280_13 : mI 280 13 = (26, 1505, 301, 238, 0) := by decide +kernel
theorem mi_280_16 : mI 280 16 = (5, 0, 0, 0, 0) := by decide +kernel
theorem mi_280_17 : mI 280 17 = (3, 0, 1, 0, 0) := by decide +kernel
theorem mi_280_18 : mI 280 18 = (3, 0, 2, 0, 0) := by decide +kernel
theorem mi_280_19 : mI 280 19 = (26, 1677, 344, 279, 0) := by decide +kernel
theorem mi_280_22 : mI 280 22 = (6, 0, 3, 0, 0) := by decide +kernel
theorem mi_280_23 : mI 280 23 = (3, 0, 3, 0, 0) := by decide +kernel
theorem mi_280_24 : mI 280 24 = (1, (-1), 0, 0, 0) := by decide +kernel
theorem mi_280_25 : mI 280 25 = (15, 7, 1, 32, 0) := by decide +kernel
theorem mi_280_28 : mI 280 28 = (1, (-1), 0, 0, 0) := by decide +kernel
theorem mi_280_29 : mI 280 29 = (16, 7, 0, 36, 0) := by decide +kernel
theorem mi_280_32 : mI 280 32 = (3, 0, 3, 0, 0) := by decide +kernel
theorem mi_280_33 : mI 280 33 = (26, 1598, 317, 194, 1) := by decide +kernel
theorem mi_280_36 : mI 280 36 = (27, 0, 0, 0, 0) := by decide +kernel
theorem mi_281_0 : mI 281 0 = (5, 0, 0, 0, 0) := by decide +kernel
theorem mi_281_1 : mI 281 1 = (3, 0, 1, 0, 0) := by decide +kernel
theorem mi_281_2 : mI 281 2 = (3, 0, 2, 0, 0) := by decide +kernel
theorem mi_281_3 : mI 281 3 = (26, 1553, 304, 200, 0) := by decide +kernel
theorem mi_281_6 : mI 281 6 = (14, 6, 1, 12, 0) := by decide +kernel
theorem mi_281_9 : mI 281 9 = (1, (-2), 1, 0, 0) := by decide +kernel
theorem mi_281_11 : mI 281 11 = (27, 0, 0, 0, 0) := by decide +kernel
theorem mi_281_12 : mI 281 12 = (5, 0, 0, 0, 0) := by decide +kernel
theorem mi_281_13 : mI 281 13 = (26, 1505, 301, 238, 0) := by decide +kernel
theorem mi_281_16 : mI 281 16 = (5, 0, 0, 0, 0) := by decide +kernel
theorem mi_281_17 : mI 281 17 = (3, 0, 1, 0, 0) := by decide +kernel
theorem mi_281_18 : mI 281 18 = (3, 0, 2, 0, 0) := by decide +kernel
theorem mi_281_19 : mI 281 19 = (26, 1677, 344, 279, 0) := by decide +kernel
theorem mi_281_22 : mI 281 22 = (27, 0, 0, 0, 0) := by decide +kernel
theorem mi_282_0 : mI 282 0 = (1, 0, 0, 0, 0) := by decide +kernel
theorem mi_282_1 : mI 282 1 = (6, 0, 2, 0, 0) := by decide +kernel
theorem mi_282_2 : mI 282 2 = (1, 0, 0, 0, 0) := by decide +kernel
theorem mi_282_3 : mI 282 3 = (6, 0, 3, 0, 0) := by decide +kernel
theorem mi_282_4 : mI 282 4 = (3, 0, 3, 0, 0) := by decide +kernel
theorem mi_282_5 : mI 282 5 = (5, 0, 0, 0, 0) := by decide +kernel
theorem mi_282_6 : mI 282 6 = (17, 1207, 9, 11, 1) := by decide +kernel
theorem mi_282_9 : mI 282 9 = (1, 3, 0, 0, 0) := by decide +kernel
theorem mi_282_10 : mI 282 10 = (19, 0, 0, 0, 0) := by decide +kernel
theorem mi_282_11 : mI 282 11 = (15, 33, 3, 44, 0) := by decide +kernel
theorem mi_282_14 : mI 282 14 = (3, 0, 2, 0, 0) := by decide +kernel
theorem mi_282_15 : mI 282 15 = (3, 0, 3, 0, 0) := by decide +kernel
theorem mi_282_16 : mI 282 16 = (3, 0, 1, 0, 0) := by decide +kernel
theorem mi_282_17 : mI 282 17 = (15, 18, 0, 35, 0) := by decide +kernel
theorem mi_282_20 : mI 282 20 = (5, 0, 0, 0, 0) := by decide +kernel
theorem mi_282_21 : mI 282 21 = (3, 0, 1, 0, 0) := by decide +kernel
theorem mi_282_22 : mI 282 22 = (3, 0, 3, 0, 0) := by decide +kernel
theorem mi_282_23 : mI 282 23 = (26, 1697, 347, 242, 0) := by decide +kernel
theorem mi_282_26 : mI 282 26 = (14, 9, 0, 35, 0) := by decide +kernel
theorem mi_282_29 : mI 282 29 = (1, 1, 0, 0, 0) := by decide +kernel
theorem mi_282_30 : mI 282 30 = (3, 0, 3, 0, 0) := by decide +kernel
theorem mi_282_31 : mI 282 31 = (10, 0, 8, 0, 0) := by decide +kernel
theorem mi_282_32 : mI 282 32 = (16, 4, 0, 36, 0) := by decide +kernel
theorem mi_282_35 : mI 282 35 = (1, 0, 0, 0, 0) := by decide +kernel
theorem mi_282_36 : mI 282 36 = (10, 0, 6, 0, 0) := by decide +kernel
theorem mi_282_37 : mI 282 37 = (6, 0, 2, 0, 0) := by decide +kernel
theorem mi_282_38 : mI 282 38 = (9, 1, 3, 0, 0) := by decide +kernel
theorem mi_282_41 : mI 282 41 = (16, (-37), 0, 4, 0) := by decide +kernel
theorem mi_282_44 : mI 282 44 = (3, 0, 2, 0, 0) := by decide +kernel
theorem mi_282_45 : mI 282 45 = (27, 0, 0, 0, 0) := by decide +kernel
theorem mi_283_0 : mI 283 0 = (5, 0, 0, 0, 0) := by decide +kernel
theorem mi_283_1 : mI 283 1 = (26, 1689, 350, 198, 0) := by decide +kernel
theorem mi_283_4 : mI 283 4 = (14, 6, 1, 10, 0) := by decide +kernel
theorem mi_283_7 : mI 283 7 = (1, (-2), 1, 0, 0) := by decide +kernel
theorem mi_283_9 : mI 283 9 = (27, 0, 0, 0, 0) := by decide +kernel
theorem mi_283_10 : mI 283 10 = (5, 0, 0, 0, 0) := by decide +kernel
theorem mi_283_11 : mI 283 11 = (26, 1505, 301, 238, 0) := by decide +kernel
theorem mi_283_14 : mI 283 14 = (1, 0, 0, 0, 0) := by decide +kernel
theorem mi_283_15 : mI 283 15 = (6, 0, 1, 0, 0) := by decide +kernel
theorem mi_283_16 : mI 283 16 = (1, 0, 0, 0, 0) := by decide +kernel
theorem mi_283_17 : mI 283 17 = (6, 0, 2, 0, 0) := by decide +kernel
theorem mi_283_18 : mI 283 18 = (3, 0, 2, 0, 0) := by decide +kernel
theorem mi_283_19 : mI 283 19 = (5, 0, 0, 0, 0) := by decide +kernel
theorem mi_283_20 : mI 283 20 = (17, 1207, 9, 11, 1) := by decide +kernel
theorem mi_283_23 : mI 283 23 = (1, 3, 0, 0, 0) := by decide +kernel
theorem mi_283_24 : mI 283 24 = (19, 0, 0, 0, 0) := by decide +kernel
theorem mi_283_25 : mI 283 25 = (15, 84, 3, 109, 0) := by decide +kernel
theorem mi_283_28 : mI 283 28 = (5, 0, 0, 0, 0) := by decide +kernel
theorem mi_283_29 : mI 283 29 = (3, 0, 2, 0, 0) := by decide +kernel
theorem mi_283_30 : mI 283 30 = (26, 1693, 353, 282, 0) := by decide +kernel
theorem mi_283_33 : mI 283 33 = (6, 0, 3, 0, 0) := by decide +kernel
theorem mi_283_34 : mI 283 34 = (1, 0, 0, 0, 0) := by decide +kernel
theorem mi_283_35 : mI 283 35 = (6, 0, 4, 1, 0) := by decide +kernel
theorem mi_283_37 : mI 283 37 = (3, 0, 4, 1, 0) := by decide +kernel
theorem mi_283_39 : mI 283 39 = (1, 6, 1, 0, 0) := by decide +kernel
theorem mi_283_41 : mI 283 41 = (15, 52, 3, 93, 0) := by decide +kernel
theorem mi_283_44 : mI 283 44 = (1, 0, 0, 0, 0) := by decide +kernel
theorem mi_283_45 : mI 283 45 = (6, 0, 5, 1, 0) := by decide +kernel
theorem mi_283_47 : mI 283 47 = (3, 0, 5, 1, 0) := by decide +kernel
theorem mi_283_49 : mI 283 49 = (5, 0, 0, 0, 0) := by decide +kernel
theorem mi_283_50 : mI 283 50 = (17, 1207, 9, 11, 1) := by decide +kernel
theorem mi_283_53 : mI 283 53 = (1, 3, 0, 0, 0) := by decide +kernel
theorem mi_283_54 : mI 283 54 = (19, 0, 0, 0, 0) := by decide +kernel
theorem mi_283_55 : mI 283 55 = (15, 32, 3, 87, 0) := by decide +kernel
theorem mi_283_58 : mI 283 58 = (3, 0, 3, 0, 0) := by decide +kernel
theorem mi_283_59 : mI 283 59 = (3, 0, 3, 0, 0) := by decide +kernel
theorem mi_283_60 : mI 283 60 = (3, 0, 5, 1, 0) := by decide +kernel
theorem mi_283_62 : mI 283 62 = (26, 1517, 255, 195, 1) := by decide +kernel
theorem mi_283_65 : mI 283 65 = (1, 1, 0, 0, 0) := by decide +kernel
theorem mi_283_66 : mI 283 66 = (15, 12, 1, 78, 0) := by decide +kernel
theorem mi_283_69 : mI 283 69 = (5, 0, 0, 0, 0) := by decide +kernel
theorem mi_283_70 : mI 283 70 = (3, 0, 5, 1, 0) := by decide +kernel
theorem mi_283_72 : mI 283 72 = (26, 1693, 353, 282, 0) := by decide +kernel
theorem mi_283_75 : mI 283 75 = (16, 4, 0, 79, 0) := by decide +kernel
theorem mi_283_78 : mI 283 78 = (1, 0, 0, 0, 0) := by decide +kernel
theorem mi_283_79 : mI 283 79 = (10, 0, 6, 0, 0) := by decide +kernel
theorem mi_283_80 : mI 283 80 = (6, 0, 3, 0, 0) := by decide +kernel
theorem mi_283_81 : mI 283 81 = (9, 1, 5, 0, 0) := by decide +kernel
theorem mi_283_84 : mI 283 84 = (16, (-37), 0, 47, 0) := by decide +kernel
theorem mi_283_87 : mI 283 87 = (9, 1, 4, 0, 0) := by decide +kernel
theorem mi_283_90 : mI 283 90 = (16, (-53), 0, 37, 0) := by decide +kernel
theorem mi_283_93 : mI 283 93 = (3, 0, 1, 0, 0) := by decide +kernel
theorem mi_283_94 : mI 283 94 = (3, 0, 3, 0, 0) := by decide +kernel
theorem mi_283_95 : mI 283 95 = (3, 0, 2, 0, 0) := by decide +kernel
theorem mi_283_96 : mI 283 96 = (26, 1517, 255, 195, 1) := by decide +kernel
theorem mi_283_99 : mI 283 99 = (3, 0, 2, 0, 0) := by decide +kernel
theorem mi_283_100 : mI 283 100 = (10, 0, 8, 0, 0) := by decide +kernel
theorem mi_283_101 : mI 283 101 = (10, 0, 6, 0, 0) := by decide +kernel
theorem mi_283_102 : mI 283 102 = (6, 0, 1, 0, 0) := by decide +kernel
theorem mi_283_103 : mI 283 103 = (9, 1, 2, 0, 0) := by decide +kernel
theorem mi_283_106 : mI 283 106 = (16, (-88), 0, 18, 0) := by decide +kernel
theorem mi_283_109 : mI 283 109 = (3, 0, 1, 0, 0) := by decide +kernel
theorem mi_283_110 : mI 283 110 = (27, 0, 0, 0, 0) := by decide +kernel
theorem mi_284_0 : mI 284 0 = (5, 0, 0, 0, 0) := by decide +kernel
theorem mi_284_1 : mI 284 1 = (3, 0, 3, 0, 0) := by decide +kernel
theorem mi_284_2 : mI 284 2 = (18, 1227, 261, 11, 21) := by decide +kernel
theorem mi_284_5 : mI 284 5 = (5, 0, 0, 0, 0) := by decide +kernel
theorem mi_284_6 : mI 284 6 = (26, 1509, 279, 237, 0) := by decide +kernel
theorem mi_284_9 : mI 284 9 = (5, 0, 0, 0, 0) := by decide +kernel
theorem mi_284_10 : mI 284 10 = (1, 0, 0, 0, 0) := by decide +kernel
theorem mi_284_11 : mI 284 11 = (18, 1227, 261, 11, 21) := by decide +kernel
theorem mi_284_14 : mI 284 14 = (5, 0, 0, 0, 0) := by decide +kernel
theorem mi_284_15 : mI 284 15 = (3, 0, 1, 0, 0) := by decide +kernel
theorem mi_284_16 : mI 284 16 = (3, 0, 2, 0, 0) := by decide +kernel
theorem mi_284_17 : mI 284 17 = (26, 1697, 347, 242, 0) := by decide +kernel
theorem mi_284_20 : mI 284 20 = (27, 0, 0, 0, 0) := by decide +kernel
theorem mi_285_0 : mI 285 0 = (1, 0, 0, 0, 0) := by decide +kernel
theorem mi_285_1 : mI 285 1 = (6, 0, 2, 0, 0) := by decide +kernel
theorem mi_285_2 : mI 285 2 = (1, 0, 0, 0, 0) := by decide +kernel
theorem mi_285_3 : mI 285 3 = (6, 0, 3, 0, 0) := by decide +kernel
theorem mi_285_4 : mI 285 4 = (3, 0, 3, 0, 0) := by decide +kernel
theorem mi_285_5 : mI 285 5 = (5, 0, 0, 0, 0) := by decide +kernel
theorem mi_285_6 : mI 285 6 = (17, 1207, 9, 11, 1) := by decide +kernel
theorem mi_285_9 : mI 285 9 = (1, 4, 0, 0, 0) := by decide +kernel
theorem mi_285_10 : mI 285 10 = (19, 0, 0, 0, 0) := by decide +kernel
theorem mi_285_11 : mI 285 11 = (15, 29, 3, 40, 0) := by decide +kernel
theorem mi_285_14 : mI 285 14 = (3, 0, 2, 0, 0) := by decide +kernel
theorem mi_285_15 : mI 285 15 = (5, 0, 0, 0, 0) := by decide +kernel
theorem mi_285_16 : mI 285 16 = (3, 0, 3, 0, 0) := by decide +kernel
theorem mi_285_17 : mI 285 17 = (1, 0, 0, 0, 0) := by decide +kernel
theorem mi_285_18 : mI 285 18 = (26, 1489, 258, 208, 0) := by decide +kernel
theorem mi_285_21 : mI 285 21 = (3, 0, 1, 0, 0) := by decide +kernel
theorem mi_285_22 : mI 285 22 = (15, 9, 1, 31, 0) := by decide +kernel
theorem mi_285_25 : mI 285 25 = (1, 1, 0, 0, 0) := by decide +kernel
theorem mi_285_26 : mI 285 26 = (3, 0, 3, 0, 0) := by decide +kernel
theorem mi_285_27 : mI 285 27 = (10, 0, 8, 0, 0) := by decide +kernel
theorem mi_285_28 : mI 285 28 = (16, 4, 0, 32, 0) := by decide +kernel
theorem mi_285_31 : mI 285 31 = (1, 0, 0, 0, 0) := by decide +kernel
theorem mi_285_32 : mI 285 32 = (10, 0, 6, 0, 0) := by decide +kernel
theorem mi_285_33 : mI 285 33 = (6, 0, 2, 0, 0) := by decide +kernel
theorem mi_285_34 : mI 285 34 = (9, 1, 3, 0, 0) := by decide +kernel
theorem mi_285_37 : mI 285 37 = (16, (-33), 0, 4, 0) := by decide +kernel
theorem mi_285_40 : mI 285 40 = (3, 0, 2, 0, 0) := by decide +kernel
theorem mi_285_41 : mI 285 41 = (27, 0, 0, 0, 0) := by decide +kernel
theorem mi_286_0 : mI 286 0 = (5, 0, 0, 0, 0) := by decide +kernel
theorem mi_286_1 : mI 286 1 = (3, 0, 1, 0, 0) := by decide +kernel
theorem mi_286_2 : mI 286 2 = (3, 0, 2, 0, 0) := by decide +kernel
theorem mi_286_3 : mI 286 3 = (26, 1553, 304, 200, 0) := by decide +kernel
theorem mi_286_6 : mI 286 6 = (14, 6, 1, 12, 0) := by decide +kernel
theorem mi_286_9 : mI 286 9 = (1, (-2), 1, 0, 0) := by decide +kernel
theorem mi_286_11 : mI 286 11 = (27, 0, 0, 0, 0) := by decide +kernel
theorem mi_286_12 : mI 286 12 = (1, 0, 0, 0, 0) := by decide +kernel
theorem mi_286_13 : mI 286 13 = (6, 0, 3, 0, 0) := by decide +kernel
theorem mi_286_14 : mI 286 14 = (5, 0, 0, 0, 0) := by decide +kernel
theorem mi_286_15 : mI 286 15 = (3, 0, 1, 0, 0) := by decide +kernel
theorem mi_286_16 : mI 286 16 = (3, 0, 2, 0, 0) := by decide +kernel
theorem mi_286_17 : mI 286 17 = (1, 0, 0, 0, 0) := by decide +kernel
theorem mi_286_18 : mI 286 18 = (26, 1705, 356, 284, 0) := by decide +kernel
theorem mi_286_21 : mI 286 21 = (14, 5, 1, 26, 0) := by decide +kernel
theorem mi_286_24 : mI 286 24 = (1, 0, 0, 0, 0) := by decide +kernel
theorem mi_286_25 : mI 286 25 = (27, 0, 0, 0, 0) := by decide +kernel
theorem mi_286_26 : mI 286 26 = (1, 0, 0, 0, 0) := by decide +kernel
theorem mi_286_27 : mI 286 27 = (6, 0, 4, 1, 0) := by decide +kernel
theorem mi_286_29 : mI 286 29 = (3, 0, 4, 1, 0) := by decide +kernel
theorem mi_286_31 : mI 286 31 = (5, 0, 0, 0, 0) := by decide +kernel
theorem mi_286_32 : mI 286 32 = (17, 1207, 9, 11, 1) := by decide +kernel
theorem mi_286_35 : mI 286 35 = (1, 3, 0, 0, 0) := by decide +kernel
theorem mi_286_36 : mI 286 36 = (19, 0, 0, 0, 0) := by decide +kernel
theorem mi_286_37 : mI 286 37 = (15, 47, 3, 84, 0) := by decide +kernel
theorem mi_286_40 : mI 286 40 = (3, 0, 3, 0, 0) := by decide +kernel
theorem mi_286_41 : mI 286 41 = (3, 0, 4, 1, 0) := by decide +kernel
theorem mi_286_43 : mI 286 43 = (3, 0, 1, 0, 0) := by decide +kernel
theorem mi_286_44 : mI 286 44 = (15, 31, 0, 75, 0) := by decide +kernel
theorem mi_286_47 : mI 286 47 = (3, 0, 4, 1, 0) := by decide +kernel
theorem mi_286_49 : mI 286 49 = (3, 0, 2, 0, 0) := by decide +kernel
theorem mi_286_50 : mI 286 50 = (15, 25, 0, 75, 0) := by decide +kernel
theorem mi_286_53 : mI 286 53 = (5, 0, 0, 0, 0) := by decide +kernel
theorem mi_286_54 : mI 286 54 = (3, 0, 1, 0, 0) := by decide +kernel
theorem mi_286_55 : mI 286 55 = (3, 0, 2, 0, 0) := by decide +kernel
theorem mi_286_56 : mI 286 56 = (5, 0, 0, 0, 0) := by decide +kernel
theorem mi_286_57 : mI 286 57 = (3, 0, 4, 1, 0) := by decide +kernel
theorem mi_286_59 : mI 286 59 = (26, 1709, 359, 285, 0) := by decide +kernel
theorem mi_286_62 : mI 286 62 = (26, 1705, 356, 284, 0) := by decide +kernel
theorem mi_286_65 : mI 286 65 = (14, 10, 1, 75, 0) := by decide +kernel
theorem mi_286_68 : mI 286 68 = (1, 1, 0, 0, 0) := by decide +kernel
theorem mi_286_69 : mI 286 69 = (3, 0, 4, 1, 0) := by decide +kernel
theorem mi_286_71 : mI 286 71 = (10, 0, 8, 0, 0) := by decide +kernel
theorem mi_286_72 : mI 286 72 = (16, 4, 0, 76, 0) := by decide +kernel
theorem mi_286_75 : mI 286 75 = (1, 0, 0, 0, 0) := by decide +kernel
theorem mi_286_76 : mI 286 76 = (10, 0, 6, 0, 0) := by decide +kernel
theorem mi_286_77 : mI 286 77 = (6, 0, 3, 0, 0) := by decide +kernel
theorem mi_286_78 : mI 286 78 = (9, 1, 4, 0, 0) := by decide +kernel
theorem mi_286_81 : mI 286 81 = (16, (-52), 0, 29, 0) := by decide +kernel
theorem mi_286_84 : mI 286 84 = (3, 0, 3, 0, 0) := by decide +kernel
theorem mi_286_85 : mI 286 85 = (27, 0, 0, 0, 0) := by decide +kernel
theorem mi_287_0 : mI 287 0 = (5, 0, 0, 0, 0) := by decide +kernel
theorem mi_287_1 : mI 287 1 = (3, 0, 1, 0, 0) := by decide +kernel
theorem mi_287_2 : mI 287 2 = (3, 0, 2, 0, 0) := by decide +kernel
theorem mi_287_3 : mI 287 3 = (26, 1553, 304, 200, 0) := by decide +kernel
theorem mi_287_6 : mI 287 6 = (14, 6, 1, 12, 0) := by decide +kernel
theorem mi_287_9 : mI 287 9 = (1, (-2), 1, 0, 0) := by decide +kernel
theorem mi_287_11 : mI 287 11 = (27, 0, 0, 0, 0) := by decide +kernel
theorem mi_287_12 : mI 287 12 = (1, 0, 0, 0, 0) := by decide +kernel
theorem mi_287_13 : mI 287 13 = (6, 0, 3, 0, 0) := by decide +kernel
theorem mi_287_14 : mI 287 14 = (5, 0, 0, 0, 0) := by decide +kernel
theorem mi_287_15 : mI 287 15 = (3, 0, 1, 0, 0) := by decide +kernel
theorem mi_287_16 : mI 287 16 = (3, 0, 2, 0, 0) := by decide +kernel
theorem mi_287_17 : mI 287 17 = (1, 0, 0, 0, 0) := by decide +kernel
theorem mi_287_18 : mI 287 18 = (26, 1705, 356, 284, 0) := by decide +kernel
theorem mi_287_21 : mI 287 21 = (14, 5, 1, 26, 0) := by decide +kernel
theorem mi_287_24 : mI 287 24 = (1, 0, 0, 0, 0) := by decide +kernel
theorem mi_287_25 : mI 287 25 = (27, 0, 0, 0, 0) := by decide +kernel
theorem mi_287_26 : mI 287 26 = (1, 0, 0, 0, 0) := by decide +kernel
theorem mi_287_27 : mI 287 27 = (6, 0, 4, 1, 0) := by decide +kernel
theorem mi_287_29 : mI 287 29 = (3, 0, 4, 1, 0) := by decide +kernel
theorem mi_287_31 : mI 287 31 = (5, 0, 0, 0, 0) := by decide +kernel
theorem mi_287_32 : mI 287 32 = (17, 1207, 9, 11, 1) := by decide +kernel
theorem mi_287_35 : mI 287 35 = (1, 4, 0, 0, 0) := by decide +kernel
theorem mi_287_36 : mI 287 36 = (19, 0, 0, 0, 0) := by decide +kernel
theorem mi_287_37 : mI 287 37 = (15, 33, 3, 70, 0) := by decide +kernel
theorem mi_287_40 : mI 287 40 = (3, 0, 3, 0, 0) := by decide +kernel
theorem mi_287_41 : mI 287 41 = (5, 0, 0, 0, 0) := by decide +kernel
theorem mi_287_42 : mI 287 42 = (3, 0, 1, 0, 0) := by decide +kernel
theorem mi_287_43 : mI 287 43 = (3, 0, 2, 0, 0) := by decide +kernel
theorem mi_287_44 : mI 287 44 = (1, 1, 0, 0, 0) := by decide +kernel
theorem mi_287_45 : mI 287 45 = (3, 0, 4, 1, 0) := by decide +kernel
theorem mi_287_47 : mI 287 47 = (10, 0, 8, 0, 0) := by decide +kernel
theorem mi_287_48 : mI 287 48 = (26, 1705, 356, 284, 0) := by decide +kernel
theorem mi_287_51 : mI 287 51 = (14, 7, 0, 58, 0) := by decide +kernel
theorem mi_287_54 : mI 287 54 = (1, 0, 0, 0, 0) := by decide +kernel
theorem mi_287_55 : mI 287 55 = (16, 7, 0, 62, 0) := by decide +kernel
theorem mi_287_58 : mI 287 58 = (1, 1, 0, 0, 0) := by decide +kernel
theorem mi_287_59 : mI 287 59 = (3, 0, 4, 1, 0) := by decide +kernel
theorem mi_287_61 : mI 287 61 = (10, 0, 8, 0, 0) := by decide +kernel
theorem mi_287_62 : mI 287 62 = (10, 0, 6, 0, 0) := by decide +kernel
theorem mi_287_63 : mI 287 63 = (6, 0, 3, 0, 0) := by decide +kernel
theorem mi_287_64 : mI 287 64 = (9, 1, 4, 0, 0) := by decide +kernel
theorem mi_287_67 : mI 287 67 = (16, (-38), 0, 29, 0) := by decide +kernel
theorem mi_287_70 : mI 287 70 = (3, 0, 3, 0, 0) := by decide +kernel
theorem mi_287_71 : mI 287 71 = (27, 0, 0, 0, 0) := by decide +kernel
theorem mi_295_0 : mI 295 0 = (1, 0, 0, 0, 0) := by decide +kernel
theorem mi_295_1 : mI 295 1 = (6, 0, 4, 1, 0) := by decide +kernel
theorem mi_295_3 : mI 295 3 = (1, 0, 0, 0, 0) := by decide +kernel
theorem mi_295_4 : mI 295 4 = (6, 0, 5, 1, 0) := by decide +kernel
theorem mi_295_6 : mI 295 6 = (3, 0, 5, 1, 0) := by decide +kernel
theorem mi_295_8 : mI 295 8 = (5, 0, 0, 0, 0) := by decide +kernel
theorem mi_295_9 : mI 295 9 = (17, 1207, 9, 11, 1) := by decide +kernel
theorem mi_295_12 : mI 295 12 = (1, 3, 0, 0, 0) := by decide +kernel
theorem mi_295_13 : mI 295 13 = (19, 0, 0, 0, 0) := by decide +kernel
theorem mi_295_14 : mI 295 14 = (15, 38, 3, 52, 0) := by decide +kernel
theorem mi_295_17 : mI 295 17 = (3, 0, 4, 1, 0) := by decide +kernel
theorem mi_295_19 : mI 295 19 = (3, 0, 1, 0, 0) := by decide +kernel
theorem mi_295_20 : mI 295 20 = (3, 0, 5, 1, 0) := by decide +kernel
theorem mi_295_22 : mI 295 22 = (26, 1517, 255, 195, 1) := by decide +kernel
theorem mi_295_25 : mI 295 25 = (1, 1, 0, 0, 0) := by decide +kernel
theorem mi_295_26 : mI 295 26 = (15, 16, 1, 42, 0) := by decide +kernel
theorem mi_295_29 : mI 295 29 = (5, 0, 0, 0, 0) := by decide +kernel
theorem mi_295_30 : mI 295 30 = (3, 0, 5, 1, 0) := by decide +kernel
theorem mi_295_32 : mI 295 32 = (3, 0, 2, 0, 0) := by decide +kernel
theorem mi_295_33 : mI 295 33 = (3, 0, 3, 0, 0) := by decide +kernel
theorem mi_295_34 : mI 295 34 = (1, 1, 0, 0, 0) := by decide +kernel
theorem mi_295_35 : mI 295 35 = (10, 0, 0, 0, 0) := by decide +kernel
theorem mi_295_36 : mI 295 36 = (26, 1533, 282, 239, 0) := by decide +kernel
theorem mi_295_39 : mI 295 39 = (16, 4, 0, 43, 0) := by decide +kernel
theorem mi_295_42 : mI 295 42 = (1, 0, 0, 0, 0) := by decide +kernel
theorem mi_295_43 : mI 295 43 = (10, 0, 6, 0, 0) := by decide +kernel
theorem mi_295_44 : mI 295 44 = (6, 0, 4, 1, 0) := by decide +kernel
theorem mi_295_46 : mI 295 46 = (9, 1, 5, 0, 0) := by decide +kernel
theorem mi_295_49 : mI 295 49 = (16, (-43), 0, 6, 0) := by decide +kernel
theorem mi_295_52 : mI 295 52 = (3, 0, 4, 1, 0) := by decide +kernel
theorem mi_295_54 : mI 295 54 = (5, 0, 0, 0, 0) := by decide +kernel
theorem mi_295_55 : mI 295 55 = (3, 0, 2, 0, 0) := by decide +kernel
theorem mi_295_56 : mI 295 56 = (26, 1497, 274, 206, 0) := by decide +kernel
theorem mi_295_59 : mI 295 59 = (15, 7, 1, 66, 0) := by decide +kernel
theorem mi_295_62 : mI 295 62 = (1, 1, 0, 0, 0) := by decide +kernel
theorem mi_295_63 : mI 295 63 = (16, 4, 0, 67, 0) := by decide +kernel
theorem mi_295_66 : mI 295 66 = (1, 0, 0, 0, 0) := by decide +kernel
theorem mi_295_67 : mI 295 67 = (27, 0, 0, 0, 0) := by decide +kernel
theorem mi_296_0 : mI 296 0 = (3, 0, 1, 0, 0) := by decide +kernel
theorem mi_296_1 : mI 296 1 = (12, 0, 1, 0, 0) := by decide +kernel
theorem mi_296_2 : mI 296 2 = (2, 0, 0, 0, 0) := by decide +kernel
theorem mi_296_3 : mI 296 3 = (5, 0, 0, 0, 0) := by decide +kernel
theorem mi_296_4 : mI 296 4 = (26, 1657, 338, 209, 0) := by decide +kernel
theorem mi_296_7 : mI 296 7 = (12, 0, 1, 0, 0) := by decide +kernel
theorem mi_296_8 : mI 296 8 = (26, 1321, 85, 193, 1) := by decide +kernel
theorem mi_296_11 : mI 296 11 = (14, 19, 0, 30, 0) := by decide +kernel
theorem mi_296_14 : mI 296 14 = (5, 0, 0, 0, 0) := by decide +kernel
theorem mi_296_15 : mI 296 15 = (3, 0, 2, 0, 0) := by decide +kernel
theorem mi_296_16 : mI 296 16 = (26, 1448, 89, 199, 0) := by decide +kernel
theorem mi_296_19 : mI 296 19 = (14, 11, 0, 30, 0) := by decide +kernel
theorem mi_296_22 : mI 296 22 = (5, 0, 0, 0, 0) := by decide +kernel
theorem mi_296_23 : mI 296 23 = (3, 0, 3, 0, 0) := by decide +kernel
theorem mi_296_24 : mI 296 24 = (26, 1472, 293, 201, 0) := by decide +kernel
theorem mi_296_27 : mI 296 27 = (14, 6, 1, 33, 0) := by decide +kernel
theorem mi_296_30 : mI 296 30 = (1, (-2), 1, 0, 0) := by decide +kernel
theorem mi_296_32 : mI 296 32 = (27, 0, 0, 0, 0) := by decide +kernel
theorem mi_296_33 : mI 296 33 = (5, 0, 0, 0, 0) := by decide +kernel
theorem mi_296_34 : mI 296 34 = (26, 1505, 301, 238, 0) := by decide +kernel
theorem mi_296_37 : mI 296 37 = (5, 0, 0, 0, 0) := by decide +kernel
theorem mi_296_38 : mI 296 38 = (3, 0, 1, 0, 0) := by decide +kernel
theorem mi_296_39 : mI 296 39 = (3, 0, 2, 0, 0) := by decide +kernel
theorem mi_296_40 : mI 296 40 = (3, 0, 3, 0, 0) := by decide +kernel
theorem mi_296_41 : mI 296 41 = (26, 1749, 365, 295, 0) := by decide +kernel
theorem mi_296_44 : mI 296 44 = (14, 7, 0, 51, 0) := by decide +kernel
theorem mi_296_47 : mI 296 47 = (1, 1, 0, 0, 0) := by decide +kernel
theorem mi_296_48 : mI 296 48 = (16, 4, 0, 52, 0) := by decide +kernel
theorem mi_296_51 : mI 296 51 = (1, 0, 0, 0, 0) := by decide +kernel
theorem mi_296_52 : mI 296 52 = (27, 0, 0, 0, 0) := by decide +kernel
theorem mi_297_0 : mI 297 0 = (1, (-1), 0, 0, 0) := by decide +kernel
theorem mi_297_1 : mI 297 1 = (6, 0, 3, 0, 0) := by decide +kernel
theorem mi_297_2 : mI 297 2 = (1, 0, 0, 0, 0) := by decide +kernel
theorem mi_297_3 : mI 297 3 = (6, 0, 4, 1, 0) := by decide +kernel
theorem mi_297_5 : mI 297 5 = (3, 0, 4, 1, 0) := by decide +kernel
theorem mi_297_7 : mI 297 7 = (5, 0, 0, 0, 0) := by decide +kernel
theorem mi_297_8 : mI 297 8 = (26, 1657, 338, 209, 0) := by decide +kernel
theorem mi_297_11 : mI 297 11 = (15, 49, 4, 60, 0) := by decide +kernel
theorem mi_297_14 : mI 297 14 = (3, 0, 4, 1, 0) := by decide +kernel
theorem mi_297_16 : mI 297 16 = (3, 0, 1, 0, 0) := by decide +kernel
theorem mi_297_17 : mI 297 17 = (26, 1517, 255, 195, 1) := by decide +kernel
theorem mi_297_20 : mI 297 20 = (14, 34, 1, 54, 0) := by decide +kernel
theorem mi_297_23 : mI 297 23 = (3, 0, 3, 0, 0) := by decide +kernel
theorem mi_297_24 : mI 297 24 = (1, (-1), 0, 0, 0) := by decide +kernel
theorem mi_297_25 : mI 297 25 = (15, 15, 0, 40, 0) := by decide +kernel
theorem mi_297_28 : mI 297 28 = (3, 0, 4, 1, 0) := by decide +kernel
theorem mi_297_30 : mI 297 30 = (26, 1598, 317, 194, 1) := by decide +kernel
theorem mi_297_33 : mI 297 33 = (3, 0, 3, 0, 0) := by decide +kernel
theorem mi_297_34 : mI 297 34 = (26, 1598, 317, 194, 1) := by decide +kernel
theorem mi_297_37 : mI 297 37 = (15, 17, 3, 54, 0) := by decide +kernel
theorem mi_297_40 : mI 297 40 = (5, 0, 0, 0, 0) := by decide +kernel
theorem mi_297_41 : mI 297 41 = (3, 0, 4, 1, 0) := by decide +kernel
theorem mi_297_43 : mI 297 43 = (3, 0, 1, 0, 0) := by decide +kernel
theorem mi_297_44 : mI 297 44 = (3, 0, 2, 0, 0) := by decide +kernel
theorem mi_297_45 : mI 297 45 = (26, 1749, 365, 295, 0) := by decide +kernel
theorem mi_297_48 : mI 297 48 = (14, 6, 0, 54, 0) := by decide +kernel
theorem mi_297_51 : mI 297 51 = (3, 0, 4, 1, 0) := by decide +kernel
theorem mi_297_53 : mI 297 53 = (6, 0, 3, 0, 0) := by decide +kernel
theorem mi_297_54 : mI 297 54 = (9, 1, 4, 0, 0) := by decide +kernel
theorem mi_297_57 : mI 297 57 = (16, (-52), 0, 5, 0) := by decide +kernel
theorem mi_297_60 : mI 297 60 = (3, 0, 3, 0, 0) := by decide +kernel
theorem mi_297_61 : mI 297 61 = (27, 0, 0, 0, 0) := by decide +kernel
theorem mi_298_0 : mI 298 0 = (5, 0, 0, 0, 0) := by decide +kernel
theorem mi_298_1 : mI 298 1 = (3, 0, 1, 0, 0) := by decide +kernel
theorem mi_298_2 : mI 298 2 = (26, 1448, 89, 199, 0) := by decide +kernel
theorem mi_298_5 : mI 298 5 = (14, 11, 0, 16, 0) := by decide +kernel
theorem mi_298_8 : mI 298 8 = (5, 0, 0, 0, 0) := by decide +kernel
theorem mi_298_9 : mI 298 9 = (3, 0, 2, 0, 0) := by decide +kernel
theorem mi_298_10 : mI 298 10 = (26, 1472, 293, 201, 0) := by decide +kernel
theorem mi_298_13 : mI 298 13 = (14, 6, 1, 19, 0) := by decide +kernel
theorem mi_298_16 : mI 298 16 = (1, (-2), 1, 0, 0) := by decide +kernel
theorem mi_298_18 : mI 298 18 = (27, 0, 0, 0, 0) := by decide +kernel
theorem mi_298_19 : mI 298 19 = (5, 0, 0, 0, 0) := by decide +kernel
theorem mi_298_20 : mI 298 20 = (26, 1505, 301, 238, 0) := by decide +kernel
theorem mi_298_23 : mI 298 23 = (5, 0, 0, 0, 0) := by decide +kernel
theorem mi_298_24 : mI 298 24 = (3, 0, 1, 0, 0) := by decide +kernel
theorem mi_298_25 : mI 298 25 = (3, 0, 2, 0, 0) := by decide +kernel
theorem mi_298_26 : mI 298 26 = (26, 1757, 368, 297, 0) := by decide +kernel
theorem mi_298_29 : mI 298 29 = (6, 0, 3, 0, 0) := by decide +kernel
theorem mi_298_30 : mI 298 30 = (3, 0, 3, 0, 0) := by decide +kernel
theorem mi_298_31 : mI 298 31 = (1, (-1), 0, 0, 0) := by decide +kernel
theorem mi_298_32 : mI 298 32 = (15, 7, 1, 39, 0) := by decide +kernel
theorem mi_298_35 : mI 298 35 = (1, (-1), 0, 0, 0) := by decide +kernel
theorem mi_298_36 : mI 298 36 = (16, 7, 0, 43, 0) := by decide +kernel
theorem mi_298_39 : mI 298 39 = (3, 0, 3, 0, 0) := by decide +kernel
theorem mi_298_40 : mI 298 40 = (26, 1598, 317, 194, 1) := by decide +kernel
theorem mi_298_43 : mI 298 43 = (27, 0, 0, 0, 0) := by decide +kernel
theorem mi_299_0 : mI 299 0 = (5, 0, 0, 0, 0) := by decide +kernel
theorem mi_299_1 : mI 299 1 = (3, 0, 1, 0, 0) := by decide +kernel
theorem mi_299_2 : mI 299 2 = (26, 1448, 89, 199, 0) := by decide +kernel
theorem mi_299_5 : mI 299 5 = (14, 11, 0, 16, 0) := by decide +kernel
theorem mi_299_8 : mI 299 8 = (5, 0, 0, 0, 0) := by decide +kernel
theorem mi_299_9 : mI 299 9 = (3, 0, 2, 0, 0) := by decide +kernel
theorem mi_299_10 : mI 299 10 = (26, 1472, 293, 201, 0) := by decide +kernel
theorem mi_299_13 : mI 299 13 = (14, 6, 1, 19, 0) := by decide +kernel
theorem mi_299_16 : mI 299 16 = (1, (-2), 1, 0, 0) := by decide +kernel
theorem mi_299_18 : mI 299 18 = (27, 0, 0, 0, 0) := by decide +kernel
theorem mi_299_19 : mI 299 19 = (5, 0, 0, 0, 0) := by decide +kernel
theorem mi_299_20 : mI 299 20 = (26, 1505, 301, 238, 0) := by decide +kernel
theorem mi_299_23 : mI 299 23 = (5, 0, 0, 0, 0) := by decide +kernel
theorem mi_299_24 : mI 299 24 = (3, 0, 1, 0, 0) := by decide +kernel
theorem mi_299_25 : mI 299 25 = (3, 0, 2, 0, 0) := by decide +kernel
theorem mi_299_26 : mI 299 26 = (26, 1757, 368, 297, 0) := by decide +kernel
theorem mi_299_29 : mI 299 29 = (27, 0, 0, 0, 0) := by decide +kernel
theorem mi_331_0 : mI 331 0 = (5, 0, 0, 0, 0) := by decide +kernel
theorem mi_331_1 : mI 331 1 = (4, 0, 1, 0, 0) := by decide +kernel
theorem mi_331_2 : mI 331 2 = (18, 1231, 233, 11, 25) := by decide +kernel
theorem mi_331_5 : mI 331 5 = (5, 0, 0, 0, 0) := by decide +kernel
theorem mi_331_6 : mI 331 6 = (1, 1, 0, 0, 0) := by decide +kernel
theorem mi_331_7 : mI 331 7 = (18, 1230, 245, 11, 24) := by decide +kernel
theorem mi_331_10 : mI 331 10 = (5, 0, 0, 0, 0) := by decide +kernel
theorem mi_331_11 : mI 331 11 = (26, 1505, 301, 238, 0) := by decide +kernel
theorem mi_331_14 : mI 331 14 = (5, 0, 0, 0, 0) := by decide +kernel
theorem mi_331_15 : mI 331 15 = (1, 0, 0, 0, 0) := by decide +kernel
theorem mi_331_16 : mI 331 16 = (18, 1230, 245, 11, 24) := by decide +kernel
theorem mi_331_19 : mI 331 19 = (27, 0, 2, 0, 0) := by decide +kernel
theorem mi_332_0 : mI 332 0 = (3, 0, 0, 0, 0) := by decide +kernel
theorem mi_332_1 : mI 332 1 = (12, 0, 1, 0, 0) := by decide +kernel
theorem mi_332_2 : mI 332 2 = (2, 0, 0, 0, 0) := by decide +kernel
theorem mi_332_3 : mI 332 3 = (2, 2000000000, 1, 460, 1909) := by decide +kernel
theorem mi_332_6 : mI 332 6 = (26, 1321, 85, 193, 1) := by decide +kernel
theorem mi_332_9 : mI 332 9 = (27, 0, 0, 0, 0) := by decide +kernel
theorem mi_333_0 : mI 333 0 = (3, 0, 1, 0, 0) := by decide +kernel
theorem mi_333_1 : mI 333 1 = (26, 1906, 462, 332, 1) := by decide +kernel
theorem mi_333_4 : mI 333 4 = (14, 19, 0, 23, 0) := by decide +kernel
theorem mi_333_7 : mI 333 7 = (5, 0, 0, 0, 0) := by decide +kernel
theorem mi_333_8 : mI 333 8 = (3, 0, 2, 0, 0) := by decide +kernel
theorem mi_333_9 : mI 333 9 = (26, 1448, 89, 199, 0) := by decide +kernel
theorem mi_333_12 : mI 333 12 = (14, 11, 0, 23, 0) := by decide +kernel
theorem mi_333_15 : mI 333 15 = (5, 0, 0, 0, 0) := by decide +kernel
theorem mi_333_16 : mI 333 16 = (3, 0, 3, 0, 0) := by decide +kernel
theorem mi_333_17 : mI 333 17 = (26, 1448, 89, 199, 0) := by decide +kernel
theorem mi_333_20 : mI 333 20 = (14, 6, 1, 26, 0) := by decide +kernel
theorem mi_333_23 : mI 333 23 = (1, (-2), 1, 0, 0) := by decide +kernel
theorem mi_333_25 : mI 333 25 = (27, 0, 0, 0, 0) := by decide +kernel
theorem mi_333_26 : mI 333 26 = (5, 0, 0, 0, 0) := by decide +kernel
theorem mi_333_27 : mI 333 27 = (3, 0, 1, 0, 0) := by decide +kernel
theorem mi_333_28 : mI 333 28 = (12, 0, 1, 0, 0) := by decide +kernel
theorem mi_333_29 : mI 333 29 = (26, 1910, 465, 331, 0) := by decide +kernel
theorem mi_333_32 : mI 333 32 = (5, 0, 0, 0, 0) := by decide +kernel
theorem mi_333_33 : mI 333 33 = (3, 0, 2, 0, 0) := by decide +kernel
theorem mi_333_34 : mI 333 34 = (3, 0, 3, 0, 0) := by decide +kernel
theorem mi_333_35 : mI 333 35 = (26, 1669, 332, 240, 0) := by decide +kernel
theorem mi_333_38 : mI 333 38 = (27, 0, 0, 0, 0) := by decide +kernel
theorem mi_344_0 : mI 344 0 = (3, 0, 0, 0, 0) := by decide +kernel
theorem mi_344_1 : mI 344 1 = (3, 0, 0, 0, 0) := by decide +kernel
theorem mi_344_2 : mI 344 2 = (1, 1, 0, 0, 0) := by decide +kernel
theorem mi_344_3 : mI 344 3 = (10, 0, 10, 0, 0) := by decide +kernel
theorem mi_344_4 : mI 344 4 = (1, 1431655765, 4, 265, 721) := by decide +kernel
theorem mi_344_7 : mI 344 7 = (10, 0, 5, 0, 0) := by decide +kernel
theorem mi_344_8 : mI 344 8 = (10, 0, 1, 0, 0) := by decide +kernel
theorem mi_344_9 : mI 344 9 = (6, 0, 0, 0, 0) := by decide +kernel
theorem mi_344_10 : mI 344 10 = (3, 0, 0, 0, 0) := by decide +kernel
theorem mi_344_11 : mI 344 11 = (1, 858993459, 4, 266, 722) := by decide +kernel
theorem mi_344_14 : mI 344 14 = (10, 0, 5, 0, 0) := by decide +kernel
theorem mi_344_15 : mI 344 15 = (3, 0, 0, 0, 0) := by decide +kernel
theorem mi_344_16 : mI 344 16 = (1, 2, 0, 0, 0) := by decide +kernel
theorem mi_344_17 : mI 344 17 = (10, 0, 10, 0, 0) := by decide +kernel
theorem mi_344_18 : mI 344 18 = (1, 858993459, 4, 266, 722) := by decide +kernel
theorem mi_344_21 : mI 344 21 = (10, 0, 5, 0, 0) := by decide +kernel
theorem mi_344_22 : mI 344 22 = (10, 0, 0, 0, 0) := by decide +kernel
theorem mi_344_23 : mI 344 23 = (6, 0, 0, 0, 0) := by decide +kernel
theorem mi_344_24 : mI 344 24 = (3, 0, 0, 0, 0) := by decide +kernel
theorem mi_344_25 : mI 344 25 = (3, 0, 0, 0, 0) := by decide +kernel
theorem mi_344_26 : mI 344 26 = (1, 4, 0, 0, 0) := by decide +kernel
theorem mi_344_27 : mI 344 27 = (10, 0, 10, 0, 0) := by decide +kernel
theorem mi_344_28 : mI 344 28 = (10, 0, 0, 0, 0) := by decide +kernel
theorem mi_344_29 : mI 344 29 = (1, 252645135, 4, 267, 723) := by decide +kernel
theorem mi_344_32 : mI 344 32 = (10, 0, 5, 0, 0) := by decide +kernel
theorem mi_344_33 : mI 344 33 = (6, 0, 0, 0, 0) := by decide +kernel
theorem mi_344_34 : mI 344 34 = (3, 0, 0, 0, 0) := by decide +kernel
theorem mi_344_35 : mI 344 35 = (3, 0, 0, 0, 0) := by decide +kernel
theorem mi_344_36 : mI 344 36 = (1, 8, 1, 0, 0) := by decide +kernel
theorem mi_344_38 : mI 344 38 = (10, 0, 10, 0, 0) := by decide +kernel
theorem mi_344_39 : mI 344 39 = (10, 0, 0, 0, 0) := by decide +kernel
theorem mi_344_40 : mI 344 40 = (6, 0, 0, 0, 0) := by decide +kernel
theorem mi_344_41 : mI 344 41 = (3, 0, 0, 0, 0) := by decide +kernel
theorem mi_344_42 : mI 344 42 = (3, 0, 0, 0, 0) := by decide +kernel
theorem mi_344_43 : mI 344 43 = (1, 16, 1, 0, 0) := by decide +kernel
theorem mi_344_45 : mI 344 45 = (10, 0, 10, 0, 0) := by decide +kernel
theorem mi_344_46 : mI 344 46 = (10, 0, 0, 0, 0) := by decide +kernel
theorem mi_344_47 : mI 344 47 = (6, 0, 0, 0, 0) := by decide +kernel
theorem mi_344_48 : mI 344 48 = (3, 0, 0, 0, 0) := by decide +kernel
theorem mi_344_49 : mI 344 49 = (1, 63, 1, 0, 0) := by decide +kernel
theorem mi_344_51 : mI 344 51 = (10, 0, 5, 0, 0) := by decide +kernel
theorem mi_344_52 : mI 344 52 = (27, 0, 0, 0, 0) := by decide +kernel
section XSE
variable {l : Launch} {D : va_G} {tys : List (ClassId × FieldType)} {A : Nat → Prop} {ad : Nat → Nat} {ws : va_W}
theorem g28o : gO 28 1 3 := ⟨_, rfl⟩
theorem g32o : gO 32 8 4 := ⟨_, rfl⟩
theorem g28r0 : gOr 28 1 3 0 29 := ⟨_, rfl, by decide +kernel⟩
theorem g28r1 : gOr 28 1 3 1 30 := ⟨_, rfl, by decide +kernel⟩
theorem g28r2 : gOr 28 1 3 2 31 := ⟨_, rfl, by decide +kernel⟩
theorem g32r0 : gOr 32 8 4 0 33 := ⟨_, rfl, by decide +kernel⟩
theorem g32r1 : gOr 32 8 4 1 34 := ⟨_, rfl, by decide +kernel⟩
theorem g32r2 : gOr 32 8 4 2 35 := ⟨_, rfl, by decide +kernel⟩
theorem g32f3 : gOf 32 8 4 3 (-2147483648) 2147483647 := ⟨_, rfl, by decide +kernel⟩
theorem a29 : gA 29 12 (-2147483648) 2147483647 := gA_of rfl
theorem a30 : gA 30 12 (-2147483648) 2147483647 := gA_of rfl
theorem a31 : gA 31 36 (-2147483648) 2147483647 := gA_of rfl
theorem a33 : gA 33 900 (-2147483648) 2147483647 := gA_of rfl
theorem a34 : gA 34 12 (-2147483648) 2147483647 := gA_of rfl
theorem a35 : gA 35 12 (-2147483648) 2147483647 := gA_of rfl
theorem atk_ct {c n j : Nat} {lo hi : Int} {v : Int32} (hg : gA c n lo hi) (hG : GOK ad tys GG ws) (hn : n ≤ 100000) (hj : j < n) (h : rd ws c j = some (.int v)) : CT l D tys A 147 0 0 0 [.ref (ad c), .int (Int32.ofInt (j : Int))] ws (fun r w => w = ws ∧ r = some (.int v)) :=
  CT_post (atx_ct hg hG hn) (fun r w q => by
    obtain ⟨e, u, e2, k⟩ := q
    refine ⟨e, ?_⟩
    have z := k j hj rfl
    rw [h] at z
    rw [e2, z])
theorem putk_ct {c n j : Nat} {v : Int32} (hg : gA c n (-2147483648) 2147483647) (hG : GOK ad tys GG ws) (hn : n ≤ 100000) (hj : j < n) : CT l D tys A 148 0 0 0 [.ref (ad c), .int (Int32.ofInt (j : Int)), .int v] ws (fun r w => r = none ∧ GOK ad tys GG w ∧ Upd1 ws w c j (.int v)) :=
  CT_post (putx_ct hg hG hn (i32b _).1 (i32b _).2) (fun r w q => ⟨q.1, q.2.1, q.2.2.2 j hj rfl⟩)
theorem say_rd {G : Nat → Int} {w : va_W} (hX : HX 4 G w) {k r : Nat} (hk : k < 12) (hr : r < 4) : rd w (12 + r) k = some (.int (Int32.ofInt (G (246 + 4 * k + r)))) := by
  obtain ⟨a, b, c⟩ := say_hy hk hr
  rw [b]
  have q := hX _ a
  rw [← c] at q
  exact q
/-- whose sayings are by folk that are there, at hours that are there -/
def WF (G : Nat → Int) : Prop := ∀ s : Nat, (s : Int) < G 4 → G (246 + 4 * s) < G 3 ∧ G (246 + 4 * s + 3) < G 2
def othP (G : Nat → Int) (f h o : Nat) : Bool := !(Nat.beq o f) && decide (G (102 + (24 * o + h)) = G (102 + (24 * f + h)))
theorem orI_s1 {P : Nat → Bool} {o : Nat} (h : P o = true) : orI P (o + 1) = bitO (orI P o) (o : Int) := by
  show (if P o = true then bitO (orI P o) (o : Int) else orI P o) = _
  rw [if_pos h]
theorem orI_s0 {P : Nat → Bool} {o : Nat} (h : P o = false) : orI P (o + 1) = orI P o := by
  show (if P o = true then bitO (orI P o) (o : Int) else orI P o) = _
  rw [if_neg (by rw [h]; exact Bool.false_ne_true)]
theorem othP_f {G : Nat → Int} {f h : Nat} : othP G f h f = false := by
  unfold othP
  rw [Nat.beq_refl]
  rfl
theorem othP_n {G : Nat → Int} {f h o : Nat} (n : o ≠ f) : othP G f h o = decide (G (102 + (24 * o + h)) = G (102 + (24 * f + h))) := by
  unfold othP
  rw [show Nat.beq o f = false from Bool.eq_false_iff.mpr (fun e => n (Nat.eq_of_beq_eq_true e))]
  rfl
theorem ow_5 {G : Nat → Int} (hG : GOK ad tys GG ws) (hX : HX 4 G ws) (hB : HB G) {f h : Nat} {post : Option Value → va_W → Prop} (hf : (f : Int) < G 3) (hh : (h : Int) < G 2) : ∀ (m o : Nat), ((o + m : Nat) : Int) = G 3 → post (some (.int (Int32.ofInt (orI (othP G f h) (G 3).toNat)))) ws → V l D tys A 86 2 0 0 post 0 0 5 [(0, .ref (ad 4)), (1, .int (Int32.ofInt ((f : Int)))), (2, .int (Int32.ofInt ((h : Int)))), (3, .int (Int32.ofInt (orI (othP G f h) o))), (4, .int (Int32.ofInt ((o : Int))))] [] ws
  | 0, o, hm, kk => by
    have b2 := hB.b2
    have b3 := hB.b3
    refine V_iload (v := Int32.ofInt ((o : Int))) mi_86_5 (by simp [stL, lv_args, Value.category]) ?_
    refine V_aload (v := ad 4) mi_86_7 (by simp [stL, lv_args, Value.category]) ?_
    refine V_gO mi_86_8 g4o hG (show rd _ 4 4 = some (.int (Int32.ofInt (G 3))) from hx0 hX (i := 4) (by omega)) ?_
    refine V_cge mi_86_11 ⟨by omega, by omega⟩ ⟨by omega, by omega⟩ (fun q => ?_) (fun q => ?_)
    · have e : o = (G 3).toNat := by omega
      rw [← e] at kk
      refine V_iload (v := Int32.ofInt (orI (othP G f h) o)) mi_86_49 (by simp [stL, lv_args, Value.category]) ?_
      exact V_retI mi_86_50 (fun h => absurd h (by decide +kernel)) kk
    · exact absurd q (by omega)
  | m + 1, o, hm, kk => by
    have b2 := hB.b2
    have b3 := hB.b3
    refine V_iload (v := Int32.ofInt ((o : Int))) mi_86_5 (by simp [stL, lv_args, Value.category]) ?_
    refine V_aload (v := ad 4) mi_86_7 (by simp [stL, lv_args, Value.category]) ?_
    refine V_gO mi_86_8 g4o hG (show rd _ 4 4 = some (.int (Int32.ofInt (G 3))) from hx0 hX (i := 4) (by omega)) ?_
    refine V_cge mi_86_11 ⟨by omega, by omega⟩ ⟨by omega, by omega⟩ (fun q => ?_) (fun q => ?_)
    · exact absurd q (by omega)
    · refine V_iload (v := Int32.ofInt ((o : Int))) mi_86_14 (by simp [stL, lv_args, Value.category]) ?_
      refine V_iload (v := Int32.ofInt ((f : Int))) mi_86_16 (by simp [stL, lv_args, Value.category]) ?_
      refine V_ceq mi_86_17 ⟨by omega, by omega⟩ ⟨by omega, by omega⟩ (fun q2 => ?_) (fun q2 => ?_)
      · have z : orI (othP G f h) (o + 1) = orI (othP G f h) o := orI_s0 (by rw [show o = f by omega]; exact othP_f)
        rw [← z]
        refine V_iinc (v := Int32.ofInt ((o : Int))) mi_86_43 (by simp [stL, lv_args, Value.category]) ?_
        rw [ia2]
        refine V_goto mi_86_46 ?_
        refine V_sub (lv' := [(0, .ref (ad 4)), (1, .int (Int32.ofInt ((f : Int)))), (2, .int (Int32.ofInt ((h : Int)))), (3, .int (Int32.ofInt (orI (othP G f h) (o + 1)))), (4, .int (Int32.ofInt (((o + 1 : Nat) : Int))))]) (fun q hq => ?_) ?_
        · simp only [List.mem_cons, List.not_mem_nil, or_false] at hq
          rcases hq with rfl | rfl | rfl | rfl | rfl <;> simp [stL, lv_args, Value.category]
        exact ow_5 hG hX hB hf hh m (o + 1) (by omega) kk
      · have bo := hB.bp (24 * o + h) (by omega)
        have bf := hB.bp (24 * f + h) (by omega)
        have hn : o ≠ f := by omega
        refine V_aload (v := ad 4) mi_86_20 (by simp [stL, lv_args, Value.category]) ?_
        refine V_iload (v := Int32.ofInt ((o : Int))) mi_86_21 (by simp [stL, lv_args, Value.category]) ?_
        refine V_iload (v := Int32.ofInt ((h : Int))) mi_86_23 (by simp [stL, lv_args, Value.category]) ?_
        refine V_cO (As := [.int (Int32.ofInt ((o : Int))), .int (Int32.ofInt ((h : Int)))]) (st := []) mi_86_24 (by omega) (by decide +kernel) (by decide +kernel) (by omega) g4o hG (hpl_ct (f := o) (h := h) hG hX hB (by omega) hh) (by omega) (show 2 = mN 110 by decide +kernel) (by simp [Value.category]) ?_
        rintro r w1 ⟨e1, rfl⟩
        rw [e1]
        refine V_aload (v := ad 4) mi_86_27 (by simp [stL, lv_args, Value.category]) ?_
        refine V_iload (v := Int32.ofInt ((f : Int))) mi_86_28 (by simp [stL, lv_args, Value.category]) ?_
        refine V_iload (v := Int32.ofInt ((h : Int))) mi_86_29 (by simp [stL, lv_args, Value.category]) ?_
        refine V_cO (As := [.int (Int32.ofInt ((f : Int))), .int (Int32.ofInt ((h : Int)))]) (st := [.int (Int32.ofInt (G (102 + (24 * o + h))))]) mi_86_30 (by omega) (by decide +kernel) (by decide +kernel) (by omega) g4o hG (hpl_ct (f := f) (h := h) hG hX hB hf hh) (by omega) (show 2 = mN 110 by decide +kernel) (by simp [Value.category]) ?_
        rintro r w1 ⟨e1, rfl⟩
        rw [e1]
        refine V_cne mi_86_33 ⟨by omega, by omega⟩ ⟨by omega, by omega⟩ (fun q3 => ?_) (fun q3 => ?_)
        · have z : orI (othP G f h) (o + 1) = orI (othP G f h) o := orI_s0 (by rw [othP_n hn]; exact decide_eq_false q3)
          rw [← z]
          refine V_iinc (v := Int32.ofInt ((o : Int))) mi_86_43 (by simp [stL, lv_args, Value.category]) ?_
          rw [ia2]
          refine V_goto mi_86_46 ?_
          refine V_sub (lv' := [(0, .ref (ad 4)), (1, .int (Int32.ofInt ((f : Int)))), (2, .int (Int32.ofInt ((h : Int)))), (3, .int (Int32.ofInt (orI (othP G f h) (o + 1)))), (4, .int (Int32.ofInt (((o + 1 : Nat) : Int))))]) (fun q hq => ?_) ?_
          · simp only [List.mem_cons, List.not_mem_nil, or_false] at hq
            rcases hq with rfl | rfl | rfl | rfl | rfl <;> simp [stL, lv_args, Value.category]
          exact ow_5 hG hX hB hf hh m (o + 1) (by omega) kk
        · refine V_iload (v := Int32.ofInt (orI (othP G f h) o)) mi_86_36 (by simp [stL, lv_args, Value.category]) ?_
          refine V_ipush mi_86_37 ?_
          refine V_iload (v := Int32.ofInt ((o : Int))) mi_86_38 (by simp [stL, lv_args, Value.category]) ?_
          refine V_ibin mi_86_40 (by omega) ?_
          refine V_ibin mi_86_41 (by omega) ?_
          rw [bitO_i, ← orI_s1 (P := othP G f h) (by rw [othP_n hn]; exact decide_eq_true q3)]
          refine V_istore mi_86_42 ?_
          refine V_iinc (v := Int32.ofInt ((o : Int))) mi_86_43 (by simp [stL, lv_args, Value.category]) ?_
          rw [ia2]
          refine V_goto mi_86_46 ?_
          refine V_sub (lv' := [(0, .ref (ad 4)), (1, .int (Int32.ofInt ((f : Int)))), (2, .int (Int32.ofInt ((h : Int)))), (3, .int (Int32.ofInt (orI (othP G f h) (o + 1)))), (4, .int (Int32.ofInt (((o + 1 : Nat) : Int))))]) (fun q hq => ?_) ?_
          · simp only [List.mem_cons, List.not_mem_nil, or_false] at hq
            rcases hq with rfl | rfl | rfl | rfl | rfl <;> simp [stL, lv_args, Value.category]
          exact ow_5 hG hX hB hf hh m (o + 1) (by omega) kk
theorem ow_ct {G : Nat → Int} (hG : GOK ad tys GG ws) (hX : HX 4 G ws) (hB : HB G) {f h : Nat} (hf : (f : Int) < G 3) (hh : (h : Int) < G 2) : CT l D tys A 86 2 0 0 [.ref (ad 4), .int (Int32.ofInt ((f : Int))), .int (Int32.ofInt ((h : Int)))] ws (fun r w => w = ws ∧ r = some (.int (Int32.ofInt (orI (othP G f h) (G 3).toNat)))) := by
  refine CT_of_V (by omega) (show (3 : Nat) ≤ mML 86 by decide +kernel) ?_
  refine V_ipush mi_86_0 ?_
  refine V_istore mi_86_1 ?_
  refine V_ipush mi_86_2 ?_
  refine V_istore mi_86_3 ?_
  refine V_sub (lv' := [(0, .ref (ad 4)), (1, .int (Int32.ofInt ((f : Int)))), (2, .int (Int32.ofInt ((h : Int)))), (3, .int (Int32.ofInt (0))), (4, .int (Int32.ofInt (((0 : Nat) : Int))))]) (fun q hq => ?_) ?_
  · simp only [List.mem_cons, List.not_mem_nil, or_false] at hq
    rcases hq with rfl | rfl | rfl | rfl | rfl <;> simp [stL, lv_args, Value.category]
  have b3 := hB.b3
  exact ow_5 hG hX hB hf hh (G 3).toNat 0 (by omega) ⟨rfl, rfl⟩
theorem pre_oth {G : Nat → Int} {s : Nat} : preP G s = othP G (sWho G s) (sWhn G s) := rfl
/-- how many of the first s sayings are in hour h -/
def cntS (G : Nat → Int) (h : Nat) : Nat → Nat
  | 0 => 0
  | s + 1 => cntS G h s + (if sWhn G s = h then 1 else 0)
/-- how many of the first n are ahead of hour h -/
def cntH (G : Nat → Int) (n : Nat) : Nat → Nat
  | 0 => 0
  | h + 1 => cntH G n h + cntS G h n
theorem cntS_le {G : Nat → Int} {h s : Nat} : ∀ t : Nat, s ≤ t → cntS G h s ≤ cntS G h t
  | 0, e => by rw [show s = 0 by omega]; exact Nat.le_refl _
  | t + 1, e => by
    by_cases q : s = t + 1
    · rw [q]; exact Nat.le_refl _
    · exact Nat.le_trans (cntS_le t (by omega)) (Nat.le_add_right _ _)
theorem cntH_le {G : Nat → Int} {n h : Nat} : ∀ t : Nat, h ≤ t → cntH G n h ≤ cntH G n t
  | 0, e => by rw [show h = 0 by omega]; exact Nat.le_refl _
  | t + 1, e => by
    by_cases q : h = t + 1
    · rw [q]; exact Nat.le_refl _
    · exact Nat.le_trans (cntH_le t (by omega)) (Nat.le_add_right _ _)
theorem cntS_hit {G : Nat → Int} {h s : Nat} (e : sWhn G s = h) : cntS G h (s + 1) = cntS G h s + 1 := by
  show cntS G h s + (if sWhn G s = h then 1 else 0) = _
  rw [if_pos e]
theorem cntS_no {G : Nat → Int} {h s : Nat} (e : sWhn G s ≠ h) : cntS G h (s + 1) = cntS G h s := by
  show cntS G h s + (if sWhn G s = h then 1 else 0) = _
  rw [if_neg e, Nat.add_zero]
theorem cntH_z {G : Nat → Int} : ∀ h : Nat, cntH G 0 h = 0
  | 0 => rfl
  | h + 1 => by
    show cntH G 0 h + 0 = 0
    rw [cntH_z h]
theorem cntH_s {G : Nat → Int} {s : Nat} : ∀ h : Nat, cntH G (s + 1) h = cntH G s h + (if sWhn G s < h then 1 else 0)
  | 0 => by rw [if_neg (by omega)]; rfl
  | h + 1 => by
    show cntH G (s + 1) h + cntS G h (s + 1) = cntH G s h + cntS G h s + _
    rw [cntH_s h]
    by_cases e : sWhn G s = h
    · rw [cntS_hit e, if_neg (by omega), if_pos (by omega)]
      omega
    · rw [cntS_no e]
      by_cases q : sWhn G s < h
      · rw [if_pos q, if_pos (by omega)]
        omega
      · rw [if_neg q, if_neg (by omega)]
        omega
theorem cntH_all {G : Nat → Int} {H : Nat} : ∀ n : Nat, (∀ s, s < n → sWhn G s < H) → cntH G n H = n
  | 0, _ => cntH_z H
  | n + 1, w => by
    rw [cntH_s, cntH_all n (fun s hs => w s (by omega)), if_pos (w n (by omega))]
/-- where a saying stands in the order -/
def pos (G : Nat → Int) (n s : Nat) : Nat := cntH G n (sWhn G s) + cntS G (sWhn G s) s
theorem pos_h {G : Nat → Int} {n s h : Nat} (hs : s < n) (e : sWhn G s < h) : pos G n s < cntH G n h := by
  have a := cntS_le (G := G) (h := sWhn G s) (s := s + 1) n (by omega)
  rw [cntS_hit rfl] at a
  have b := cntH_le (G := G) (n := n) (h := sWhn G s + 1) h (by omega)
  have c : cntH G n (sWhn G s + 1) = cntH G n (sWhn G s) + cntS G (sWhn G s) n := rfl
  unfold pos
  omega
theorem pos_s {G : Nat → Int} {n s t : Nat} (e : sWhn G s = sWhn G t) (hs : s < t) : pos G n s < pos G n t := by
  have a := cntS_le (G := G) (h := sWhn G s) (s := s + 1) t (by omega)
  rw [cntS_hit rfl] at a
  unfold pos
  rw [← e]
  omega
theorem pos_n {G : Nat → Int} {n H s : Nat} (w : ∀ s, s < n → sWhn G s < H) (hs : s < n) : pos G n s < n := by
  have a := pos_h hs (w s hs)
  rw [cntH_all n w] at a
  exact a
theorem cntS_ex {G : Nat → Int} {h : Nat} : ∀ n : Nat, 0 < cntS G h n → ∃ s, s < n ∧ sWhn G s = h ∧ cntS G h s = 0
  | 0, q => absurd q (Nat.lt_irrefl _)
  | n + 1, q => by
    by_cases z : 0 < cntS G h n
    · obtain ⟨s, a, b, c⟩ := cntS_ex n z
      exact ⟨s, by omega, b, c⟩
    · by_cases e : sWhn G n = h
      · exact ⟨n, by omega, e, by omega⟩
      · rw [cntS_no e] at q
        exact absurd q z
/-- what comes behind hour h is of a later hour -/
theorem pos_ex {G : Nat → Int} {n h : Nat} : ∀ H : Nat, h ≤ H → cntH G n h < cntH G n H → ∃ s, s < n ∧ h ≤ sWhn G s ∧ pos G n s = cntH G n h
  | 0, e, q => by rw [show h = 0 by omega] at q; exact absurd q (Nat.lt_irrefl _)
  | H + 1, e, q => by
    by_cases z : h = H + 1
    · rw [z] at q; exact absurd q (Nat.lt_irrefl _)
    · by_cases y : cntH G n h < cntH G n H
      · exact pos_ex H (by omega) y
      · have c : cntH G n (H + 1) = cntH G n H + cntS G H n := rfl
        have d := cntH_le (G := G) (n := n) (h := h) H (by omega)
        obtain ⟨s, s1, s2, s3⟩ := cntS_ex (G := G) (h := H) n (by omega)
        refine ⟨s, s1, by omega, ?_⟩
        unfold pos
        rw [s2, s3]
        omega
def ORD (G : Nat → Int) (n : Nat) (w : va_W) : Prop := ∀ s, s < n → rd w 29 (pos G n s) = some (.int (Int32.ofInt (s : Int)))
def PRS (G : Nat → Int) (n : Nat) (w : va_W) : Prop := ∀ s, s < n → rd w 30 s = some (.int (Int32.ofInt (orI (preP G s) (G 3).toNat)))
def ORp (G : Nat → Int) (n h s0 : Nat) (w : va_W) : Prop := ∀ s, s < n → (sWhn G s < h ∨ (sWhn G s = h ∧ s < s0)) → rd w 29 (pos G n s) = some (.int (Int32.ofInt (s : Int)))
theorem WF_n {G : Nat → Int} (hB : HB G) (wf : WF G) : ∀ s, s < (G 4).toNat → sWhn G s < (G 2).toNat := fun s hs => by
  have b4 := hB.b4
  obtain ⟨-, -, -, -, g3⟩ := say_b hB (s := s) (by omega)
  have q := (wf s (by omega)).2
  omega
end XSE
section XSF
variable {l : Launch} {D : va_G} {tys : List (ClassId × FieldType)} {A : Nat → Prop} {ad : Nat → Nat} {ws : va_W}
theorem V_rne {k pc d y z : Nat} {a : Int} {post : Option Value → va_W → Prop} {lv : List (Nat × Value)} {st : List Value} {u : Int32} (hi : mI k pc = (14, a, 1, y, z)) (kt : u ≠ 0 → V l D tys A k d 0 0 post 0 0 y lv st ws) (kf : u = 0 → V l D tys A k d 0 0 post 0 0 (pc + 3) lv st ws) : V l D tys A k d 0 0 post 0 0 pc lv (.int u :: st) ws := by
  have q := V_zne (u := u.toInt) hi (i32b u) (fun h => kt (fun e => h (by rw [e]; rfl))) (fun h => kf (Int32.toInt_inj.mp (h.trans rfl)))
  rw [Int32.ofInt_toInt] at q
  exact q
theorem pl_15 {G : Nat → Int} {S : Nat} {w0 : va_W} {post : Option Value → va_W → Prop} {h : Nat} (hB : HB G) (hX0 : HX 4 G w0) (hS : (S : Int) = G 4) (hw : ∀ s, s < S → sWhn G s < (G 2).toNat) : ∀ (m s : Nat) (w : va_W), s + m = S → GOK ad tys GG w → ORp G S h s w → (∀ c j, c ≠ 29 → rd w c j = rd w0 c j) → (∀ w' : va_W, GOK ad tys GG w' → ORp G S (h + 1) 0 w' → (∀ c j, c ≠ 29 → rd w' c j = rd w0 c j) → V l D tys A 85 3 0 0 post 0 0 56 [(0, .ref (ad 28)), (1, .ref (ad 4)), (2, .int (Int32.ofInt (((cntH G S (h + 1) : Nat) : Int)))), (3, .int (Int32.ofInt ((h : Int))))] [] w') → (h : Int) < G 2 → V l D tys A 85 3 0 0 post 0 0 15 [(0, .ref (ad 28)), (1, .ref (ad 4)), (2, .int (Int32.ofInt (((cntH G S h + cntS G h s : Nat) : Int)))), (3, .int (Int32.ofInt ((h : Int)))), (4, .int (Int32.ofInt ((s : Int))))] [] w
  | 0, s, w, hm, hG, hR, ho, kk, hh => by
    have hX : HX 4 G w := HX_keep hX0 (fun c' i h1 h2 => ho _ _ (by omega))
    have b4 := hB.b4
    have b2 := hB.b2
    refine V_iload (v := Int32.ofInt ((s : Int))) mi_85_15 (by simp [stL, lv_args, Value.category]) ?_
    refine V_aload (v := ad 4) mi_85_17 (by simp [stL, lv_args, Value.category]) ?_
    refine V_gO mi_85_18 g4o hG (show rd _ 4 5 = some (.int (Int32.ofInt (G 4))) from hx0 hX (i := 5) (by omega)) ?_
    refine V_cge mi_85_21 ⟨by omega, by omega⟩ ⟨by omega, by omega⟩ (fun q => ?_) (fun q => ?_)
    · have e : s = S := by omega
      refine V_sub (lv' := [(0, .ref (ad 28)), (1, .ref (ad 4)), (2, .int (Int32.ofInt (((cntH G S h + cntS G h s : Nat) : Int)))), (3, .int (Int32.ofInt ((h : Int))))]) (fun q hq => ?_) ?_
      · simp only [List.mem_cons, List.not_mem_nil, or_false] at hq
        rcases hq with rfl | rfl | rfl | rfl <;> simp [stL, lv_args, Value.category]
      · rw [e] at hR ⊢
        exact kk w hG (fun t ht q => hR t ht (by omega)) ho
    · exact absurd q (by omega)
  | m + 1, s, w, hm, hG, hR, ho, kk, hh => by
    have hX : HX 4 G w := HX_keep hX0 (fun c' i h1 h2 => ho _ _ (by omega))
    have b4 := hB.b4
    have b2 := hB.b2
    refine V_iload (v := Int32.ofInt ((s : Int))) mi_85_15 (by simp [stL, lv_args, Value.category]) ?_
    refine V_aload (v := ad 4) mi_85_17 (by simp [stL, lv_args, Value.category]) ?_
    refine V_gO mi_85_18 g4o hG (show rd _ 4 5 = some (.int (Int32.ofInt (G 4))) from hx0 hX (i := 5) (by omega)) ?_
    refine V_cge mi_85_21 ⟨by omega, by omega⟩ ⟨by omega, by omega⟩ (fun q => ?_) (fun q => ?_)
    · exact absurd q (by omega)
    · obtain ⟨⟨w6, o6, i6, n24⟩, g0, g1, g2, g3⟩ := say_b hB (s := s) (by omega)
      have hs : s < S := by omega
      refine V_aload (v := ad 4) mi_85_24 (by simp [stL, lv_args, Value.category]) ?_
      refine V_gR mi_85_25 g4r16 (by omega) hG ?_
      refine V_iload (v := Int32.ofInt ((s : Int))) mi_85_28 (by simp [stL, lv_args, Value.category]) ?_
      refine V_stat (As := [.ref (ad 15), .int (Int32.ofInt ((s : Int)))]) (st := []) mi_85_30 (by omega) (atk_ct a15 hG (by omega) (by omega) (say_rd hX (k := s) (r := 3) (by omega) (by omega))) (by omega) (show 2 = mN 147 by decide +kernel) (by simp [Value.category]) ⟨Nat.le_refl _, Nat.le_refl _⟩ ?_
      rintro r w1 ⟨e1, rfl⟩
      rw [e1, g3]
      refine V_iload (v := Int32.ofInt ((h : Int))) mi_85_33 (by simp [stL, lv_args, Value.category]) ?_
      refine V_cne mi_85_34 ⟨by omega, by omega⟩ ⟨by omega, by omega⟩ (fun q2 => ?_) (fun q2 => ?_)
      · have hne : sWhn G s ≠ h := by omega
        rw [show cntH G S h + cntS G h s = cntH G S h + cntS G h (s + 1) by rw [cntS_no hne]]
        refine V_iinc (v := Int32.ofInt ((s : Int))) mi_85_50 (by simp [stL, lv_args, Value.category]) ?_
        rw [ia2]
        refine V_goto mi_85_53 ?_
        refine V_sub (lv' := [(0, .ref (ad 28)), (1, .ref (ad 4)), (2, .int (Int32.ofInt (((cntH G S h + cntS G h (s + 1) : Nat) : Int)))), (3, .int (Int32.ofInt ((h : Int)))), (4, .int (Int32.ofInt (((s + 1 : Nat) : Int))))]) (fun q hq => ?_) ?_
        · simp only [List.mem_cons, List.not_mem_nil, or_false] at hq
          rcases hq with rfl | rfl | rfl | rfl | rfl <;> simp [stL, lv_args, Value.category]
        exact pl_15 hB hX0 hS hw m (s + 1) w (by omega) hG (fun t ht q => hR t ht (by rcases q with q | q; exact Or.inl q; exact Or.inr ⟨q.1, Nat.lt_of_le_of_ne (by omega) (fun e => hne (by rw [← e]; exact q.1))⟩)) ho kk hh
      · have heq : sWhn G s = h := by omega
        have hp : pos G S s = cntH G S h + cntS G h s := by unfold pos; rw [heq]
        have hp2 := pos_n hw hs
        refine V_aload (v := ad 28) mi_85_37 (by simp [stL, lv_args, Value.category]) ?_
        refine V_gR mi_85_38 g28r0 (by omega) hG ?_
        refine V_iload (v := Int32.ofInt (((cntH G S h + cntS G h s : Nat) : Int))) mi_85_41 (by simp [stL, lv_args, Value.category]) ?_
        refine V_iload (v := Int32.ofInt ((s : Int))) mi_85_42 (by simp [stL, lv_args, Value.category]) ?_
        refine V_stat (As := [.ref (ad 29), .int (Int32.ofInt (((cntH G S h + cntS G h s : Nat) : Int))), .int (Int32.ofInt ((s : Int)))]) (st := []) mi_85_44 (by omega) (putk_ct (j := cntH G S h + cntS G h s) a29 hG (by omega) (by omega)) (by omega) (show 3 = mN 148 by decide +kernel) (by simp [Value.category]) ⟨Nat.le_refl _, Nat.le_refl _⟩ ?_
        rintro r w2 ⟨rfl, G2, U2⟩
        refine V_iinc (v := Int32.ofInt (((cntH G S h + cntS G h s : Nat) : Int))) mi_85_47 (by simp [stL, lv_args, Value.category]) ?_
        rw [ia2]
        rw [show ((cntH G S h + cntS G h s : Nat) : Int) + (1) = ((cntH G S h + cntS G h (s + 1) : Nat) : Int) by rw [cntS_hit heq]; omega]
        refine V_iinc (v := Int32.ofInt ((s : Int))) mi_85_50 (by simp [stL, lv_args, Value.category]) ?_
        rw [ia2]
        refine V_goto mi_85_53 ?_
        refine V_sub (lv' := [(0, .ref (ad 28)), (1, .ref (ad 4)), (2, .int (Int32.ofInt (((cntH G S h + cntS G h (s + 1) : Nat) : Int)))), (3, .int (Int32.ofInt ((h : Int)))), (4, .int (Int32.ofInt (((s + 1 : Nat) : Int))))]) (fun q hq => ?_) ?_
        · simp only [List.mem_cons, List.not_mem_nil, or_false] at hq
          rcases hq with rfl | rfl | rfl | rfl | rfl <;> simp [stL, lv_args, Value.category]
        · refine pl_15 hB hX0 hS hw m (s + 1) w2 (by omega) G2 (fun t ht q => ?_) (fun c j hc => (upd_ne U2 (by omega)).trans (ho c j hc)) kk hh
          by_cases e : t = s
          · rw [e, hp]
            exact upd_eq U2
          · have hlt : pos G S t < pos G S s := by
              rcases q with q | q
              · have a := pos_h (n := S) ht q
                omega
              · exact pos_s (q.1.trans heq.symm) (by omega)
            exact (upd_ne U2 (by omega)).trans (hR t ht (by rcases q with q | q; exact Or.inl q; exact Or.inr ⟨q.1, by omega⟩))
theorem pl_4 {G : Nat → Int} {S : Nat} {w0 : va_W} {post : Option Value → va_W → Prop} (hB : HB G) (hX0 : HX 4 G w0) (hS : (S : Int) = G 4) (hw : ∀ s, s < S → sWhn G s < (G 2).toNat) : ∀ (m h : Nat) (w : va_W), ((h + m : Nat) : Int) = G 2 → GOK ad tys GG w → ORp G S h 0 w → (∀ c j, c ≠ 29 → rd w c j = rd w0 c j) → (∀ w' : va_W, GOK ad tys GG w' → ORD G S w' → (∀ c j, c ≠ 29 → rd w' c j = rd w0 c j) → V l D tys A 85 3 0 0 post 0 0 64 [(0, .ref (ad 28)), (1, .ref (ad 4)), (3, .int (Int32.ofInt (((0 : Nat) : Int))))] [] w') → V l D tys A 85 3 0 0 post 0 0 4 [(0, .ref (ad 28)), (1, .ref (ad 4)), (2, .int (Int32.ofInt (((cntH G S h : Nat) : Int)))), (3, .int (Int32.ofInt ((h : Int))))] [] w
  | 0, h, w, hm, hG, hR, ho, kk => by
    have hX : HX 4 G w := HX_keep hX0 (fun c' i h1 h2 => ho _ _ (by omega))
    have b4 := hB.b4
    have b2 := hB.b2
    refine V_iload (v := Int32.ofInt ((h : Int))) mi_85_4 (by simp [stL, lv_args, Value.category]) ?_
    refine V_aload (v := ad 4) mi_85_5 (by simp [stL, lv_args, Value.category]) ?_
    refine V_gO mi_85_6 g4o hG (show rd _ 4 3 = some (.int (Int32.ofInt (G 2))) from hx0 hX (i := 3) (by omega)) ?_
    refine V_cge mi_85_9 ⟨by omega, by omega⟩ ⟨by omega, by omega⟩ (fun q => ?_) (fun q => ?_)
    · have e : h = (G 2).toNat := by omega
      rw [e] at hR
      refine V_ipush mi_85_62 ?_
      refine V_istore mi_85_63 ?_
      refine V_sub (lv' := [(0, .ref (ad 28)), (1, .ref (ad 4)), (3, .int (Int32.ofInt (((0 : Nat) : Int))))]) (fun q hq => ?_) ?_
      · simp only [List.mem_cons, List.not_mem_nil, or_false] at hq
        rcases hq with rfl | rfl | rfl <;> simp [stL, lv_args, Value.category]
      exact kk w hG (fun t ht => hR t ht (Or.inl (hw t ht))) ho
    · exact absurd q (by omega)
  | m + 1, h, w, hm, hG, hR, ho, kk => by
    have hX : HX 4 G w := HX_keep hX0 (fun c' i h1 h2 => ho _ _ (by omega))
    have b4 := hB.b4
    have b2 := hB.b2
    refine V_iload (v := Int32.ofInt ((h : Int))) mi_85_4 (by simp [stL, lv_args, Value.category]) ?_
    refine V_aload (v := ad 4) mi_85_5 (by simp [stL, lv_args, Value.category]) ?_
    refine V_gO mi_85_6 g4o hG (show rd _ 4 3 = some (.int (Int32.ofInt (G 2))) from hx0 hX (i := 3) (by omega)) ?_
    refine V_cge mi_85_9 ⟨by omega, by omega⟩ ⟨by omega, by omega⟩ (fun q => ?_) (fun q => ?_)
    · exact absurd q (by omega)
    · refine V_ipush mi_85_12 ?_
      refine V_istore mi_85_13 ?_
      refine V_sub (lv' := [(0, .ref (ad 28)), (1, .ref (ad 4)), (2, .int (Int32.ofInt (((cntH G S h : Nat) : Int)))), (3, .int (Int32.ofInt ((h : Int)))), (4, .int (Int32.ofInt (((0 : Nat) : Int))))]) (fun q hq => ?_) ?_
      · simp only [List.mem_cons, List.not_mem_nil, or_false] at hq
        rcases hq with rfl | rfl | rfl | rfl | rfl <;> simp [stL, lv_args, Value.category]
      refine pl_15 (h := h) hB hX0 hS hw S 0 w (by omega) hG hR ho (fun w2 G2 R2 o2 => ?_) (by omega)
      refine V_iinc (v := Int32.ofInt ((h : Int))) mi_85_56 (by simp [stL, lv_args, Value.category]) ?_
      rw [ia2]
      refine V_goto mi_85_59 ?_
      refine V_sub (lv' := [(0, .ref (ad 28)), (1, .ref (ad 4)), (2, .int (Int32.ofInt (((cntH G S (h + 1) : Nat) : Int)))), (3, .int (Int32.ofInt (((h + 1 : Nat) : Int))))]) (fun q hq => ?_) ?_
      · simp only [List.mem_cons, List.not_mem_nil, or_false] at hq
        rcases hq with rfl | rfl | rfl | rfl <;> simp [stL, lv_args, Value.category]
      exact pl_4 hB hX0 hS hw m (h + 1) w2 (by omega) G2 R2 o2 kk
theorem pl_64 {G : Nat → Int} {S : Nat} {w0 : va_W} {post : Option Value → va_W → Prop} (hB : HB G) (wf : WF G) (hX0 : HX 4 G w0) (hS : (S : Int) = G 4) : ∀ (m s : Nat) (w : va_W), s + m = S → GOK ad tys GG w → PRS G s w → (∀ c j, c ≠ 30 → rd w c j = rd w0 c j) → (∀ w' : va_W, GOK ad tys GG w' → PRS G S w' → (∀ c j, c ≠ 30 → rd w' c j = rd w0 c j) → post none w') → V l D tys A 85 3 0 0 post 0 0 64 [(0, .ref (ad 28)), (1, .ref (ad 4)), (3, .int (Int32.ofInt ((s : Int))))] [] w
  | 0, s, w, hm, hG, hR, ho, kk => by
    have hX : HX 4 G w := HX_keep hX0 (fun c' i h1 h2 => ho _ _ (by omega))
    have b4 := hB.b4
    have b2 := hB.b2
    refine V_iload (v := Int32.ofInt ((s : Int))) mi_85_64 (by simp [stL, lv_args, Value.category]) ?_
    refine V_aload (v := ad 4) mi_85_65 (by simp [stL, lv_args, Value.category]) ?_
    refine V_gO mi_85_66 g4o hG (show rd _ 4 5 = some (.int (Int32.ofInt (G 4))) from hx0 hX (i := 5) (by omega)) ?_
    refine V_cge mi_85_69 ⟨by omega, by omega⟩ ⟨by omega, by omega⟩ (fun q => ?_) (fun q => ?_)
    · have e : s = S := by omega
      rw [e] at hR
      exact V_retV mi_85_106 (kk w hG hR ho)
    · exact absurd q (by omega)
  | m + 1, s, w, hm, hG, hR, ho, kk => by
    have hX : HX 4 G w := HX_keep hX0 (fun c' i h1 h2 => ho _ _ (by omega))
    have b4 := hB.b4
    have b2 := hB.b2
    refine V_iload (v := Int32.ofInt ((s : Int))) mi_85_64 (by simp [stL, lv_args, Value.category]) ?_
    refine V_aload (v := ad 4) mi_85_65 (by simp [stL, lv_args, Value.category]) ?_
    refine V_gO mi_85_66 g4o hG (show rd _ 4 5 = some (.int (Int32.ofInt (G 4))) from hx0 hX (i := 5) (by omega)) ?_
    refine V_cge mi_85_69 ⟨by omega, by omega⟩ ⟨by omega, by omega⟩ (fun q => ?_) (fun q => ?_)
    · exact absurd q (by omega)
    · obtain ⟨⟨w6, o6, i6, n24⟩, g0, g1, g2, g3⟩ := say_b hB (s := s) (by omega)
      obtain ⟨wf1, wf2⟩ := wf s (by omega)
      have b3 := hB.b3
      refine V_aload (v := ad 28) mi_85_72 (by simp [stL, lv_args, Value.category]) ?_
      refine V_gR mi_85_73 g28r1 (by omega) hG ?_
      refine V_iload (v := Int32.ofInt ((s : Int))) mi_85_76 (by simp [stL, lv_args, Value.category]) ?_
      refine V_aload (v := ad 4) mi_85_77 (by simp [stL, lv_args, Value.category]) ?_
      refine V_aload (v := ad 4) mi_85_78 (by simp [stL, lv_args, Value.category]) ?_
      refine V_gR mi_85_79 g4r13 (by omega) hG ?_
      refine V_iload (v := Int32.ofInt ((s : Int))) mi_85_82 (by simp [stL, lv_args, Value.category]) ?_
      refine V_stat (As := [.ref (ad 12), .int (Int32.ofInt ((s : Int)))]) (st := [.ref (ad 4), .int (Int32.ofInt ((s : Int))), .ref (ad 30)]) mi_85_83 (by omega) (atk_ct a12 hG (by omega) (by omega) (say_rd hX (k := s) (r := 0) (by omega) (by omega))) (by omega) (show 2 = mN 147 by decide +kernel) (by simp [Value.category]) ⟨Nat.le_refl _, Nat.le_refl _⟩ ?_
      rintro r w1 ⟨e1, rfl⟩
      rw [e1, show G (246 + 4 * s + 0) = G (246 + 4 * s) from rfl, g0]
      refine V_aload (v := ad 4) mi_85_86 (by simp [stL, lv_args, Value.category]) ?_
      refine V_gR mi_85_87 g4r16 (by omega) hG ?_
      refine V_iload (v := Int32.ofInt ((s : Int))) mi_85_90 (by simp [stL, lv_args, Value.category]) ?_
      refine V_stat (As := [.ref (ad 15), .int (Int32.ofInt ((s : Int)))]) (st := [.int (Int32.ofInt ((sWho G s : Int))), .ref (ad 4), .int (Int32.ofInt ((s : Int))), .ref (ad 30)]) mi_85_91 (by omega) (atk_ct a15 hG (by omega) (by omega) (say_rd hX (k := s) (r := 3) (by omega) (by omega))) (by omega) (show 2 = mN 147 by decide +kernel) (by simp [Value.category]) ⟨Nat.le_refl _, Nat.le_refl _⟩ ?_
      rintro r w2 ⟨e2, rfl⟩
      rw [e2, g3]
      refine V_stat (As := [.ref (ad 4), .int (Int32.ofInt ((sWho G s : Int))), .int (Int32.ofInt ((sWhn G s : Int)))]) (st := [.int (Int32.ofInt ((s : Int))), .ref (ad 30)]) mi_85_94 (by omega) (ow_ct (f := sWho G s) (h := sWhn G s) hG hX hB (by omega) (by omega)) (by omega) (show 3 = mN 86 by decide +kernel) (by simp [Value.category]) ⟨Nat.le_refl _, Nat.le_refl _⟩ ?_
      rintro r w3 ⟨e3, rfl⟩
      rw [e3]
      refine V_stat (As := [.ref (ad 30), .int (Int32.ofInt ((s : Int))), .int (Int32.ofInt (orI (othP G (sWho G s) (sWhn G s)) (G 3).toNat))]) (st := []) mi_85_97 (by omega) (putk_ct (j := s) a30 hG (by omega) (by omega)) (by omega) (show 3 = mN 148 by decide +kernel) (by simp [Value.category]) ⟨Nat.le_refl _, Nat.le_refl _⟩ ?_
      rintro r w4 ⟨rfl, G4, U4⟩
      refine V_iinc (v := Int32.ofInt ((s : Int))) mi_85_100 (by simp [stL, lv_args, Value.category]) ?_
      rw [ia2]
      refine V_goto mi_85_103 ?_
      refine V_sub (lv' := [(0, .ref (ad 28)), (1, .ref (ad 4)), (3, .int (Int32.ofInt (((s + 1 : Nat) : Int))))]) (fun q hq => ?_) ?_
      · simp only [List.mem_cons, List.not_mem_nil, or_false] at hq
        rcases hq with rfl | rfl | rfl <;> simp [stL, lv_args, Value.category]
      · refine pl_64 hB wf hX0 hS m (s + 1) w4 (by omega) G4 (fun t ht => ?_) (fun c j hc => (upd_ne U4 (by omega)).trans (ho c j hc)) kk
        by_cases e : t = s
        · rw [e]
          exact upd_eq U4
        · exact (upd_ne U4 (by omega)).trans (hR t (by omega))
theorem pla_ct {G : Nat → Int} (hG : GOK ad tys GG ws) (hX : HX 4 G ws) (hB : HB G) (wf : WF G) : CT l D tys A 85 3 0 0 [.ref (ad 28), .ref (ad 4)] ws (fun r w => r = none ∧ GOK ad tys GG w ∧ ORD G (G 4).toNat w ∧ PRS G (G 4).toNat w ∧ ∀ c j, c ≠ 29 → c ≠ 30 → rd w c j = rd ws c j) := by
  refine CT_of_V (by omega) (show (2 : Nat) ≤ mML 85 by decide +kernel) ?_
  have b4 := hB.b4
  have b2 := hB.b2
  refine V_ipush mi_85_0 ?_
  refine V_istore mi_85_1 ?_
  refine V_ipush mi_85_2 ?_
  refine V_istore mi_85_3 ?_
  refine V_sub (lv' := [(0, .ref (ad 28)), (1, .ref (ad 4)), (2, .int (Int32.ofInt (((0 : Nat) : Int)))), (3, .int (Int32.ofInt (((0 : Nat) : Int))))]) (fun q hq => ?_) ?_
  · simp only [List.mem_cons, List.not_mem_nil, or_false] at hq
    rcases hq with rfl | rfl | rfl | rfl <;> simp [stL, lv_args, Value.category]
  refine pl_4 (w0 := ws) (S := (G 4).toNat) hB hX (by omega) (WF_n hB wf) (G 2).toNat 0 ws (by omega) hG (fun t ht q => absurd q (by omega)) (fun _ _ _ => rfl) (fun w1 G1 R1 o1 => ?_)
  refine pl_64 (w0 := w1) (S := (G 4).toNat) hB wf (HX_keep hX (fun c' i h1 h2 => o1 _ _ (by omega))) (by omega) (G 4).toNat 0 w1 (by omega) G1 (fun t ht => absurd ht (by omega)) (fun _ _ _ => rfl) (fun w2 G2 R2 o2 => ?_)
  exact ⟨rfl, G2, fun t ht => (o2 _ _ (by omega)).trans (R1 t ht), R2, fun c j h1 h2 => (o2 c j h2).trans (o1 c j h1)⟩
end XSF
