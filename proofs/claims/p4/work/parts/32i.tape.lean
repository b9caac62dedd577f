theorem mi_1_0 : mI 1 0 = (5, 0, 0, 0, 0) := by decide +kernel
theorem mi_1_1 : mI 1 1 = (17, 298, 20, 10, 1) := by decide +kernel
theorem mi_1_4 : mI 1 4 = (17, 41, 84, 9, 1) := by decide +kernel
theorem mi_1_7 : mI 1 7 = (1, 20, 1, 0, 0) := by decide +kernel
theorem mi_1_9 : mI 1 9 = (10, 0, 0, 0, 0) := by decide +kernel
theorem mi_1_10 : mI 1 10 = (1, 1400, 2, 0, 0) := by decide +kernel
theorem mi_1_13 : mI 1 13 = (15, 5, 5, 18, 0) := by decide +kernel
theorem mi_1_16 : mI 1 16 = (1, (-1), 0, 0, 0) := by decide +kernel
theorem mi_1_17 : mI 1 17 = (27, 0, 0, 0, 0) := by decide +kernel
theorem mi_1_18 : mI 1 18 = (5, 0, 0, 0, 0) := by decide +kernel
theorem mi_1_19 : mI 1 19 = (17, 298, 20, 10, 1) := by decide +kernel
theorem mi_1_22 : mI 1 22 = (3, 0, 1, 0, 0) := by decide +kernel
theorem mi_1_23 : mI 1 23 = (26, 341, 90, 185, 0) := by decide +kernel
theorem mi_1_26 : mI 1 26 = (5, 0, 0, 0, 0) := by decide +kernel
theorem mi_1_27 : mI 1 27 = (17, 298, 20, 10, 1) := by decide +kernel
theorem mi_1_30 : mI 1 30 = (3, 0, 2, 0, 0) := by decide +kernel
theorem mi_1_31 : mI 1 31 = (26, 341, 90, 185, 0) := by decide +kernel
theorem mi_1_34 : mI 1 34 = (5, 0, 0, 0, 0) := by decide +kernel
theorem mi_1_35 : mI 1 35 = (17, 298, 20, 10, 1) := by decide +kernel
theorem mi_1_38 : mI 1 38 = (3, 0, 3, 0, 0) := by decide +kernel
theorem mi_1_39 : mI 1 39 = (26, 341, 90, 185, 0) := by decide +kernel
theorem mi_1_42 : mI 1 42 = (5, 0, 0, 0, 0) := by decide +kernel
theorem mi_1_43 : mI 1 43 = (17, 298, 20, 10, 1) := by decide +kernel
theorem mi_1_46 : mI 1 46 = (3, 0, 4, 1, 0) := by decide +kernel
theorem mi_1_48 : mI 1 48 = (26, 341, 90, 185, 0) := by decide +kernel
theorem mi_1_51 : mI 1 51 = (5, 0, 0, 0, 0) := by decide +kernel
theorem mi_1_52 : mI 1 52 = (17, 298, 20, 10, 1) := by decide +kernel
theorem mi_1_55 : mI 1 55 = (3, 0, 5, 1, 0) := by decide +kernel
theorem mi_1_57 : mI 1 57 = (26, 341, 90, 185, 0) := by decide +kernel
theorem mi_1_60 : mI 1 60 = (5, 0, 0, 0, 0) := by decide +kernel
theorem mi_1_61 : mI 1 61 = (17, 298, 20, 10, 1) := by decide +kernel
theorem mi_1_64 : mI 1 64 = (17, 41, 84, 9, 1) := by decide +kernel
theorem mi_1_67 : mI 1 67 = (27, 0, 0, 0, 0) := by decide +kernel
theorem mi_2_0 : mI 2 0 = (3, 0, 1, 0, 0) := by decide +kernel
theorem mi_2_1 : mI 2 1 = (14, 14, 2, 15, 0) := by decide +kernel
theorem mi_2_4 : mI 2 4 = (3, 0, 1, 0, 0) := by decide +kernel
theorem mi_2_5 : mI 2 5 = (5, 0, 0, 0, 0) := by decide +kernel
theorem mi_2_6 : mI 2 6 = (17, 298, 20, 10, 1) := by decide +kernel
theorem mi_2_9 : mI 2 9 = (17, 41, 84, 9, 1) := by decide +kernel
theorem mi_2_12 : mI 2 12 = (15, 5, 5, 17, 0) := by decide +kernel
theorem mi_2_15 : mI 2 15 = (1, (-1), 0, 0, 0) := by decide +kernel
theorem mi_2_16 : mI 2 16 = (27, 0, 0, 0, 0) := by decide +kernel
theorem mi_2_17 : mI 2 17 = (5, 0, 0, 0, 0) := by decide +kernel
theorem mi_2_18 : mI 2 18 = (17, 298, 20, 10, 1) := by decide +kernel
theorem mi_2_21 : mI 2 21 = (3, 0, 1, 0, 0) := by decide +kernel
theorem mi_2_22 : mI 2 22 = (18, 41, 84, 9, 1) := by decide +kernel
theorem mi_2_25 : mI 2 25 = (3, 0, 1, 0, 0) := by decide +kernel
theorem mi_2_26 : mI 2 26 = (27, 0, 0, 0, 0) := by decide +kernel
theorem mi_3_0 : mI 3 0 = (5, 0, 0, 0, 0) := by decide +kernel
theorem mi_3_1 : mI 3 1 = (17, 297, 12, 10, 0) := by decide +kernel
theorem mi_3_4 : mI 3 4 = (5, 0, 0, 0, 0) := by decide +kernel
theorem mi_3_5 : mI 3 5 = (17, 300, 28, 10, 3) := by decide +kernel
theorem mi_3_8 : mI 3 8 = (26, 353, 94, 133, 0) := by decide +kernel
theorem mi_3_11 : mI 3 11 = (5, 0, 0, 0, 0) := by decide +kernel
theorem mi_3_12 : mI 3 12 = (17, 298, 20, 10, 1) := by decide +kernel
theorem mi_3_15 : mI 3 15 = (1, 0, 0, 0, 0) := by decide +kernel
theorem mi_3_16 : mI 3 16 = (18, 41, 84, 9, 1) := by decide +kernel
theorem mi_3_19 : mI 3 19 = (5, 0, 0, 0, 0) := by decide +kernel
theorem mi_3_20 : mI 3 20 = (17, 297, 12, 10, 0) := by decide +kernel
theorem mi_3_23 : mI 3 23 = (17, 67, 98, 5, 1) := by decide +kernel
theorem mi_3_26 : mI 3 26 = (14, 6, 0, 32, 0) := by decide +kernel
theorem mi_3_29 : mI 3 29 = (1, (-4), 1, 0, 0) := by decide +kernel
theorem mi_3_31 : mI 3 31 = (27, 0, 0, 0, 0) := by decide +kernel
theorem mi_3_32 : mI 3 32 = (5, 0, 0, 0, 0) := by decide +kernel
theorem mi_3_33 : mI 3 33 = (17, 299, 24, 10, 2) := by decide +kernel
theorem mi_3_36 : mI 3 36 = (5, 0, 0, 0, 0) := by decide +kernel
theorem mi_3_37 : mI 3 37 = (17, 300, 28, 10, 3) := by decide +kernel
theorem mi_3_40 : mI 3 40 = (26, 521, 101, 100, 0) := by decide +kernel
theorem mi_3_43 : mI 3 43 = (5, 0, 0, 0, 0) := by decide +kernel
theorem mi_3_44 : mI 3 44 = (26, 528, 104, 73, 0) := by decide +kernel
theorem mi_3_47 : mI 3 47 = (5, 0, 0, 0, 0) := by decide +kernel
theorem mi_3_48 : mI 3 48 = (17, 299, 24, 10, 2) := by decide +kernel
theorem mi_3_51 : mI 3 51 = (17, 85, 107, 2, 0) := by decide +kernel
theorem mi_3_54 : mI 3 54 = (27, 0, 0, 0, 0) := by decide +kernel
theorem mi_185_0 : mI 185 0 = (1, 24, 1, 0, 0) := by decide +kernel
theorem mi_185_2 : mI 185 2 = (6, 0, 2, 0, 0) := by decide +kernel
theorem mi_185_3 : mI 185 3 = (3, 0, 2, 0, 0) := by decide +kernel
theorem mi_185_4 : mI 185 4 = (14, 51, 2, 55, 0) := by decide +kernel
theorem mi_185_7 : mI 185 7 = (5, 0, 0, 0, 0) := by decide +kernel
theorem mi_185_8 : mI 185 8 = (17, 42, 15, 9, 1) := by decide +kernel
theorem mi_185_11 : mI 185 11 = (14, 38, 2, 49, 0) := by decide +kernel
theorem mi_185_14 : mI 185 14 = (5, 0, 0, 0, 0) := by decide +kernel
theorem mi_185_15 : mI 185 15 = (17, 42, 15, 9, 1) := by decide +kernel
theorem mi_185_18 : mI 185 18 = (5, 0, 0, 0, 0) := by decide +kernel
theorem mi_185_19 : mI 185 19 = (17, 40, 9, 9, 0) := by decide +kernel
theorem mi_185_22 : mI 185 22 = (21, 0, 0, 0, 0) := by decide +kernel
theorem mi_185_23 : mI 185 23 = (15, 26, 3, 49, 0) := by decide +kernel
theorem mi_185_26 : mI 185 26 = (5, 0, 0, 0, 0) := by decide +kernel
theorem mi_185_27 : mI 185 27 = (17, 40, 9, 9, 0) := by decide +kernel
theorem mi_185_30 : mI 185 30 = (5, 0, 0, 0, 0) := by decide +kernel
theorem mi_185_31 : mI 185 31 = (17, 42, 15, 9, 1) := by decide +kernel
theorem mi_185_34 : mI 185 34 = (3, 0, 1, 0, 0) := by decide +kernel
theorem mi_185_35 : mI 185 35 = (3, 0, 2, 0, 0) := by decide +kernel
theorem mi_185_36 : mI 185 36 = (10, 0, 10, 0, 0) := by decide +kernel
theorem mi_185_37 : mI 185 37 = (12, 0, 3, 0, 0) := by decide +kernel
theorem mi_185_38 : mI 185 38 = (20, 0, 1, 0, 0) := by decide +kernel
theorem mi_185_39 : mI 185 39 = (5, 0, 0, 0, 0) := by decide +kernel
theorem mi_185_40 : mI 185 40 = (22, 0, 0, 0, 0) := by decide +kernel
theorem mi_185_41 : mI 185 41 = (17, 42, 15, 9, 1) := by decide +kernel
theorem mi_185_44 : mI 185 44 = (1, 1, 0, 0, 0) := by decide +kernel
theorem mi_185_45 : mI 185 45 = (10, 0, 0, 0, 0) := by decide +kernel
theorem mi_185_46 : mI 185 46 = (18, 42, 15, 9, 1) := by decide +kernel
theorem mi_185_49 : mI 185 49 = (9, (-8), 2, 0, 0) := by decide +kernel
theorem mi_185_52 : mI 185 52 = (16, (-49), 0, 3, 0) := by decide +kernel
theorem mi_185_55 : mI 185 55 = (27, 0, 2, 0, 0) := by decide +kernel
theorem mi_210_0 : mI 210 0 = (5, 0, 0, 0, 0) := by decide +kernel
theorem mi_210_1 : mI 210 1 = (17, 1211, 97, 11, 5) := by decide +kernel
theorem mi_210_4 : mI 210 4 = (1, 20, 1, 0, 0) := by decide +kernel
theorem mi_210_6 : mI 210 6 = (10, 0, 0, 0, 0) := by decide +kernel
theorem mi_210_7 : mI 210 7 = (1, 1400, 2, 0, 0) := by decide +kernel
theorem mi_210_10 : mI 210 10 = (15, 5, 5, 15, 0) := by decide +kernel
theorem mi_210_13 : mI 210 13 = (1, (-1), 0, 0, 0) := by decide +kernel
theorem mi_210_14 : mI 210 14 = (27, 0, 0, 0, 0) := by decide +kernel
theorem mi_210_15 : mI 210 15 = (5, 0, 0, 0, 0) := by decide +kernel
theorem mi_210_16 : mI 210 16 = (17, 1212, 24, 11, 6) := by decide +kernel
theorem mi_210_19 : mI 210 19 = (1, 0, 0, 0, 0) := by decide +kernel
theorem mi_210_20 : mI 210 20 = (3, 0, 1, 0, 0) := by decide +kernel
theorem mi_210_21 : mI 210 21 = (20, 0, 0, 0, 0) := by decide +kernel
theorem mi_210_22 : mI 210 22 = (5, 0, 0, 0, 0) := by decide +kernel
theorem mi_210_23 : mI 210 23 = (17, 1212, 24, 11, 6) := by decide +kernel
theorem mi_210_26 : mI 210 26 = (1, 1, 0, 0, 0) := by decide +kernel
theorem mi_210_27 : mI 210 27 = (3, 0, 2, 0, 0) := by decide +kernel
theorem mi_210_28 : mI 210 28 = (20, 0, 0, 0, 0) := by decide +kernel
theorem mi_210_29 : mI 210 29 = (5, 0, 0, 0, 0) := by decide +kernel
theorem mi_210_30 : mI 210 30 = (17, 1212, 24, 11, 6) := by decide +kernel
theorem mi_210_33 : mI 210 33 = (1, 2, 0, 0, 0) := by decide +kernel
theorem mi_210_34 : mI 210 34 = (3, 0, 3, 0, 0) := by decide +kernel
theorem mi_210_35 : mI 210 35 = (20, 0, 0, 0, 0) := by decide +kernel
theorem mi_210_36 : mI 210 36 = (5, 0, 0, 0, 0) := by decide +kernel
theorem mi_210_37 : mI 210 37 = (17, 1212, 24, 11, 6) := by decide +kernel
theorem mi_210_40 : mI 210 40 = (1, 3, 0, 0, 0) := by decide +kernel
theorem mi_210_41 : mI 210 41 = (3, 0, 4, 1, 0) := by decide +kernel
theorem mi_210_43 : mI 210 43 = (20, 0, 0, 0, 0) := by decide +kernel
theorem mi_210_44 : mI 210 44 = (5, 0, 0, 0, 0) := by decide +kernel
theorem mi_210_45 : mI 210 45 = (17, 1212, 24, 11, 6) := by decide +kernel
theorem mi_210_48 : mI 210 48 = (1, 4, 0, 0, 0) := by decide +kernel
theorem mi_210_49 : mI 210 49 = (3, 0, 5, 1, 0) := by decide +kernel
theorem mi_210_51 : mI 210 51 = (20, 0, 0, 0, 0) := by decide +kernel
theorem mi_210_52 : mI 210 52 = (1, 0, 0, 0, 0) := by decide +kernel
theorem mi_210_53 : mI 210 53 = (6, 0, 6, 1, 0) := by decide +kernel
theorem mi_210_55 : mI 210 55 = (3, 0, 6, 1, 0) := by decide +kernel
theorem mi_210_57 : mI 210 57 = (1, 20, 1, 0, 0) := by decide +kernel
theorem mi_210_59 : mI 210 59 = (15, 42, 3, 101, 0) := by decide +kernel
theorem mi_210_62 : mI 210 62 = (5, 0, 0, 0, 0) := by decide +kernel
theorem mi_210_63 : mI 210 63 = (17, 1210, 20, 11, 4) := by decide +kernel
theorem mi_210_66 : mI 210 66 = (5, 0, 0, 0, 0) := by decide +kernel
theorem mi_210_67 : mI 210 67 = (17, 1211, 97, 11, 5) := by decide +kernel
theorem mi_210_70 : mI 210 70 = (3, 0, 6, 1, 0) := by decide +kernel
theorem mi_210_72 : mI 210 72 = (10, 0, 0, 0, 0) := by decide +kernel
theorem mi_210_73 : mI 210 73 = (5, 0, 0, 0, 0) := by decide +kernel
theorem mi_210_74 : mI 210 74 = (17, 1212, 24, 11, 6) := by decide +kernel
theorem mi_210_77 : mI 210 77 = (3, 0, 6, 1, 0) := by decide +kernel
theorem mi_210_79 : mI 210 79 = (1, 4, 0, 0, 0) := by decide +kernel
theorem mi_210_80 : mI 210 80 = (10, 0, 3, 0, 0) := by decide +kernel
theorem mi_210_81 : mI 210 81 = (19, 0, 0, 0, 0) := by decide +kernel
theorem mi_210_82 : mI 210 82 = (1, 24, 1, 0, 0) := by decide +kernel
theorem mi_210_84 : mI 210 84 = (1, 8, 1, 0, 0) := by decide +kernel
theorem mi_210_86 : mI 210 86 = (3, 0, 6, 1, 0) := by decide +kernel
theorem mi_210_88 : mI 210 88 = (1, 4, 0, 0, 0) := by decide +kernel
theorem mi_210_89 : mI 210 89 = (10, 0, 4, 0, 0) := by decide +kernel
theorem mi_210_90 : mI 210 90 = (10, 0, 2, 0, 0) := by decide +kernel
theorem mi_210_91 : mI 210 91 = (10, 0, 1, 0, 0) := by decide +kernel
theorem mi_210_92 : mI 210 92 = (10, 0, 9, 0, 0) := by decide +kernel
theorem mi_210_93 : mI 210 93 = (12, 0, 3, 0, 0) := by decide +kernel
theorem mi_210_94 : mI 210 94 = (20, 0, 1, 0, 0) := by decide +kernel
theorem mi_210_95 : mI 210 95 = (9, 1, 6, 0, 0) := by decide +kernel
theorem mi_210_98 : mI 210 98 = (16, (-43), 0, 55, 0) := by decide +kernel
theorem mi_210_101 : mI 210 101 = (5, 0, 0, 0, 0) := by decide +kernel
theorem mi_210_102 : mI 210 102 = (22, 0, 0, 0, 0) := by decide +kernel
theorem mi_210_103 : mI 210 103 = (17, 1211, 97, 11, 5) := by decide +kernel
theorem mi_210_106 : mI 210 106 = (1, 20, 1, 0, 0) := by decide +kernel
theorem mi_210_108 : mI 210 108 = (10, 0, 0, 0, 0) := by decide +kernel
theorem mi_210_109 : mI 210 109 = (18, 1211, 97, 11, 5) := by decide +kernel
theorem mi_210_112 : mI 210 112 = (5, 0, 0, 0, 0) := by decide +kernel
theorem mi_210_113 : mI 210 113 = (17, 1211, 97, 11, 5) := by decide +kernel
theorem mi_210_116 : mI 210 116 = (27, 0, 0, 0, 0) := by decide +kernel
theorem mi_211_0 : mI 211 0 = (3, 0, 1, 0, 0) := by decide +kernel
theorem mi_211_1 : mI 211 1 = (12, 0, 1, 0, 0) := by decide +kernel
theorem mi_211_2 : mI 211 2 = (2, 0, 0, 0, 0) := by decide +kernel
theorem mi_211_3 : mI 211 3 = (5, 0, 0, 0, 0) := by decide +kernel
theorem mi_211_4 : mI 211 4 = (17, 1211, 97, 11, 5) := by decide +kernel
theorem mi_211_7 : mI 211 7 = (12, 0, 1, 0, 0) := by decide +kernel
theorem mi_211_8 : mI 211 8 = (26, 1321, 85, 193, 1) := by decide +kernel
theorem mi_211_11 : mI 211 11 = (14, 5, 1, 16, 0) := by decide +kernel
theorem mi_211_14 : mI 211 14 = (1, (-1), 0, 0, 0) := by decide +kernel
theorem mi_211_15 : mI 211 15 = (27, 0, 0, 0, 0) := by decide +kernel
theorem mi_211_16 : mI 211 16 = (5, 0, 0, 0, 0) := by decide +kernel
theorem mi_211_17 : mI 211 17 = (3, 0, 1, 0, 0) := by decide +kernel
theorem mi_211_18 : mI 211 18 = (18, 1211, 97, 11, 5) := by decide +kernel
theorem mi_211_21 : mI 211 21 = (3, 0, 1, 0, 0) := by decide +kernel
theorem mi_211_22 : mI 211 22 = (27, 0, 0, 0, 0) := by decide +kernel
def cHX : CR := (3, [(2, 0, 0)], [], some (0, (-2147483648), 2147483647), [((2, 1), (0, 0, 0))], [1, 2, 4, 5, 6, 7, 8, 9, 10, 11, 12, 13, 14, 15, 16, 17, 18, 19, 20, 21, 22, 23, 24, 25, 26, 27, 29, 30, 31, 32, 33, 34, 35])
theorem wHX : vrf GG [(4, g78), (9, g54), (1, g55), (1, g56), (1, g57), (1, g58), (1, g59), (1, g60), (1, g61), (1, g62), (1, g63), (1, g64), (1, g65), (5, g76)] [] 300 9 cHX
  [] = true := by decide +kernel
theorem rHX {l : Launch} {D : va_G} {tys : List (ClassId × FieldType)} {A : Nat → Prop} {ad : Nat → Nat} (hAD : ∀ i : Nat, ad (1000 + i) = D.2 1000 i) : CRok l D tys A ad GG 10 cHX := CR_of_vrf (dep := 9) hAD (List.forall_mem_cons.mpr ⟨r78 hAD, List.forall_mem_cons.mpr ⟨r54 hAD, List.forall_mem_cons.mpr ⟨r55 hAD, List.forall_mem_cons.mpr ⟨r56 hAD, List.forall_mem_cons.mpr ⟨r57 hAD, List.forall_mem_cons.mpr ⟨r58 hAD, List.forall_mem_cons.mpr ⟨r59 hAD, List.forall_mem_cons.mpr ⟨r60 hAD, List.forall_mem_cons.mpr ⟨r61 hAD, List.forall_mem_cons.mpr ⟨r62 hAD, List.forall_mem_cons.mpr ⟨r63 hAD, List.forall_mem_cons.mpr ⟨r64 hAD, List.forall_mem_cons.mpr ⟨r65 hAD, List.forall_mem_cons.mpr ⟨r76 hAD, fun c hc => by cases hc⟩⟩⟩⟩⟩⟩⟩⟩⟩⟩⟩⟩⟩⟩) T2OK_nil wHX
section TAP
variable {l : Launch} {D : va_G} {tys : List (ClassId × FieldType)} {A : Nat → Prop} {ad : Nat → Nat} {ws : va_W} {k d : Nat} {post : Option Value → va_W → Prop} {pc : Nat} {lv : List (Nat × Value)} {st : List Value} {a : Int} {x y z : Nat}
theorem V_putO {c ci nf i : Nat} {segs : List SG} {lo hi : Int} {v : Int32} (hi0 : mI k pc = (18, a, x, ci, i)) (hG : GOK ad tys GG ws) (hg : GG[c]? = some ((0, ci, nf), segs)) (hs : segAt segs i = some (0, lo, hi)) (hn2 : i < nf) (hty : clTy ci i = .int) (hn : nfin ci i = true) (h1 : lo ≤ v.toInt) (h2 : v.toInt ≤ hi) (kk : ∀ w : va_W, GOK ad tys GG w → Upd1 ws w c i (.int v) → V l D tys A k d 0 0 post 0 0 (pc + 3) lv st w) : V l D tys A k d 0 0 post 0 0 pc lv (.int v :: .ref (ad c) :: st) ws := by
  obtain ⟨e, a1, a2, a3⟩ := hG c _ hg
  obtain ⟨fs, rfl, hl⟩ := a2
  refine V_put hi0 a1 (by omega) (fun C T N hc => ?_) (by rw [hty]; rfl) (by rw [hty]; rfl) ?_
  · unfold nfin at hn
    rw [hc] at hn
    simpa using hn
  · obtain ⟨u1, u2⟩ := GOK_upd (e' := .inr (ci, fs.set i (.int v))) hG hg a1 ⟨_, rfl, by rw [List.length_set]; exact hl⟩ (rdE_obj (by omega) _) hs ⟨v.toInt, by rw [Int32.ofInt_toInt], h1, h2⟩
    exact kk _ u1 u2
def okP (cc jj : Nat) (f : LF) (o : OUT) : Bool := (match o.2.1 with
  | none => true
  | some _ => false) && (match ovAt cc jj o.2.2 with
  | some u => Nat.beq u.1 0 && eq0 o.1 u.2.1 f
  | none => false)
theorem V_machE {mods : List Nat} {kk cc jj fuel dep : Nat} {f : LF} {s : ST} {w0 : va_W} {σ : Nat → Int} (hAD : ∀ i : Nat, ad (1000 + i) = D.2 1000 i) (h : (match exN GG mods kk [] none (inl GG mods [] [] fuel dep) fuel s with
    | some outs => outs.all (okP cc jj f)
    | none => false) = true) (hw : wfT s.2.1.length f.2 = true) (hσ : inE σ s.2.1) (hH : HK ad tys GG mods w0 σ s.2.2.2.2 ws) (hp : ∀ w : va_W, GOK ad tys GG w → FRm mods w0 w → rd w cc jj = some (.int (Int32.ofInt (ev σ f))) → post none w) : VS l D tys A kk dep post ad σ s ws := by
  cases h1 : exN GG mods kk [] none (inl GG mods [] [] fuel dep) fuel s with
  | none => rw [h1] at h; cases h
  | some outs =>
    rw [h1] at h
    dsimp only at h
    refine exN_ok hAD (inl_ok hAD (TOK_of (fun q hq => by cases hq)) T2OK_nil dep) (fun pc C hc => by cases hc) fuel s outs σ ws h1 hσ hH (B := fun _ => True) (Or.inl ⟨rfl, fun _ => trivial⟩) (fun o ho σ' ws' e1 e2 e3 e4 => ?_)
    have q := List.all_eq_true.mp h o ho
    unfold okP at q
    rw [Bool.and_eq_true] at q
    cases ho1 : o.2.1 with
    | some v => rw [ho1] at q; exact absurd q.1 (fun h => by cases h)
    | none =>
      cases ho2 : ovAt cc jj o.2.2 with
      | none => rw [ho2] at q; exact absurd q.2 (fun h => by cases h)
      | some u =>
        rw [ho2] at q
        have q := q.2
        dsimp only at q
        rw [Bool.and_eq_true] at q
        have hr := e4.2.1 _ (ovAt_mem ho2)
        rw [conc0 q.1, eq0_ok e3 q.2] at hr
        have ef : ev σ' f = ev σ f := by unfold ev; rw [wfT_ev e1 hw]
        rw [ef] at hr
        exact hp ws' e4.1 e4.2.2 hr
theorem gx2 : ∃ s, GG[2]? = some ((0, 9, 6), s) ∧ segAt s 1 = some (0, 0, 1400) := ⟨_, rfl, by decide +kernel⟩
theorem gx0t : ∃ s, GG[0]? = some ((0, 10, 13), s) ∧ segAt s 1 = some (2, ((2 : Nat) : Int), ((2 : Nat) : Int)) := ⟨_, rfl, by decide +kernel⟩
/-- the relation between the two sides: how much the tape holds -/
def RELT (w : va_W) : Prop := ∃ z : Int, rd w 2 1 = some (.int (Int32.ofInt z)) ∧ rd w 90 5 = some (.int (Int32.ofInt z)) ∧ 0 ≤ z ∧ z ≤ 1400
theorem mAp : (match exN GG [2, 3] 185 [] none (inl GG [2, 3] [] [] 400 1) 400 (0, [(0, 1396), (-2147483648, 2147483647)], [(0, rA 2), (1, iA (0, [(1, 1)]))], [], [((2, 1), iA (0, [(1, 0)]))]) with
    | some outs => outs.all (okP 2 1 (4, [(1, 0)]))
    | none => false) = true := by decide +kernel
theorem inE2 {a b : Int} {q1 q2 : Int × Int} (h1 : q1.1 ≤ a ∧ a ≤ q1.2) (h2 : q2.1 ≤ b ∧ b ≤ q2.2) : inE (fun i => match i with | 0 => a | _ => b) [q1, q2] := by
  intro s q hq
  match s with
  | 0 => cases hq; exact h1
  | 1 => cases hq; exact h2
  | n + 2 => simp at hq
theorem ov_one {σ : Nat → Int} {c j s : Nat} {z : Int} (h : rd ws c j = some (.int (Int32.ofInt z))) (hs : σ s = z) : OVok ad σ [((c, j), iA (0, [(1, s)]))] ws := by
  intro q hq
  rw [List.mem_singleton.mp hq]
  show rd ws c j = some (.int (Int32.ofInt (ev σ (0, [(1, s)]))))
  rw [ev1, hs, h, show (0 : Int) + 1 * z = z by omega]
theorem full_ (v : Int32) : ((-2147483648 : Int), (2147483647 : Int)).1 ≤ v.toInt ∧ v.toInt ≤ ((-2147483648 : Int), (2147483647 : Int)).2 := by
  have b1 := Int32.le_toInt v
  have b2 := Int32.toInt_lt v
  exact ⟨by show (-2147483648 : Int) ≤ _; omega, by show _ ≤ (2147483647 : Int); omega⟩
theorem app_ct (hAD : ∀ i : Nat, ad (1000 + i) = D.2 1000 i) (hG : GOK ad tys GG ws) (v : Int32) {z : Int} (hz : rd ws 2 1 = some (.int (Int32.ofInt z))) (z0 : 0 ≤ z) (z1 : z ≤ 1396) : CT l D tys A 185 1 0 0 [.ref (ad 2), .int v] ws (fun r w => r = none ∧ GOK ad tys GG w ∧ FRm [2, 3] ws w ∧ rd w 2 1 = some (.int (Int32.ofInt (z + 4)))) := by
  refine CT_of_V (by omega) (show (2 : Nat) ≤ mML 185 by decide +kernel) ?_
  have b1 := Int32.le_toInt v
  have b2 := Int32.toInt_lt v
  have K := V_machE (mods := [2, 3]) (kk := 185) (cc := 2) (jj := 1) (f := (4, [(1, 0)])) (fuel := 400) (dep := 1) (post := fun r w => r = none ∧ GOK ad tys GG w ∧ FRm [2, 3] ws w ∧ rd w 2 1 = some (.int (Int32.ofInt (z + 4)))) (w0 := ws) (ws := ws) (l := l) (A := A) (σ := fun i => match i with | 0 => z | _ => v.toInt) (s := (0, [(0, 1396), (-2147483648, 2147483647)], [(0, rA 2), (1, iA (0, [(1, 1)]))], [], [((2, 1), iA (0, [(1, 0)]))])) hAD mAp rfl (inE2 ⟨z0, z1⟩ (full_ v)) ⟨hG, ov_one hz rfl, FRm_rf⟩ (fun w g1 g2 g3 => ⟨rfl, g1, g2, by rw [g3, ev1]; exact congrArg (fun q => some (Value.int (Int32.ofInt q))) (show (4 : Int) + 1 * z = z + 4 by omega)⟩)
  unfold VS at K
  dsimp only at K
  rw [List.map_cons, List.map_cons, cv_i (v := v) rfl] at K
  exact K
def feV (z : Int) : Int := if z + 20 ≤ 1400 then z + 20 else -1
def feT (z : Int) : Int := if z + 20 ≤ 1400 then z + 20 else z
theorem fel {z : Int} (h : z + 20 ≤ 1400) : feV z = z + 20 ∧ feT z = z + 20 := by unfold feV feT; exact ⟨if_pos h, if_pos h⟩
theorem fen {z : Int} (h : ¬ z + 20 ≤ 1400) : feV z = -1 ∧ feT z = z := by unfold feV feT; exact ⟨if_neg h, if_neg h⟩
theorem add_zz {i j : Int} : ibF 0 (Int32.ofInt i) (Int32.ofInt j) = Int32.ofInt (i + j) := by
  show Int32.ofInt i + Int32.ofInt j = _
  rw [← Int32.ofInt_add]
theorem feedx_ct (hAD : ∀ i : Nat, ad (1000 + i) = D.2 1000 i) (hG : GOK ad tys GG ws) (a1 a2 a3 a4 a5 : Int32) {z : Int} (hz : rd ws 2 1 = some (.int (Int32.ofInt z))) (z0 : 0 ≤ z) (z1 : z ≤ 1400) : CT l D tys A 1 2 0 0 [.ref (ad 0), .int a1, .int a2, .int a3, .int a4, .int a5] ws (fun r w => r = some (.int (Int32.ofInt (feV z))) ∧ GOK ad tys GG w ∧ FRm [2, 3] ws w ∧ rd w 2 1 = some (.int (Int32.ofInt (feT z)))) := by
  refine CT_of_V (by omega) (show (6 : Nat) ≤ mML 1 by decide +kernel) ?_
  obtain ⟨s0, e0, t1⟩ := gx0t
  obtain ⟨s2, e2, t2⟩ := gx2
  have lvs : lv_args 0 [Value.ref (ad 0), .int a1, .int a2, .int a3, .int a4, .int a5] = [(0, .ref (ad 0)), (1, .int a1), (2, .int a2), (3, .int a3), (4, .int a4), (5, .int a5)] := rfl
  rw [lvs]
  refine V_aload (v := ad 0) mi_1_0 (by simp) ?_
  refine V_getO mi_1_1 hG e0 (rrO e0 t1 (by omega) hG) ?_
  refine V_getO mi_1_4 hG e2 hz ?_
  refine V_ipush mi_1_7 ?_
  refine V_ibin mi_1_9 (by omega) ?_
  rw [add_zz]
  refine V_ipush mi_1_10 ?_
  have hc := cdP_iff (x := 5) (a := z + 20) (b := 1400) (by omega) (by omega) (by omega) (by omega)
  refine V_icmp mi_1_13 (fun h => ?_) (fun h => ?_)
  · have h : z + 20 - 1400 ≤ 0 := hc.mp h
    obtain ⟨f1, f2⟩ := fel (z := z) (by omega)
    refine V_aload (v := ad 0) mi_1_18 (by simp) ?_
    refine V_getO mi_1_19 hG e0 (rrO e0 t1 (by omega) hG) ?_
    refine V_iload (v := a1) mi_1_22 (by simp) ?_
    refine V_callO (c := 2) (As := [.int a1]) (st := []) mi_1_23 (by omega) (by decide +kernel) (show mCi 185 = 9 by decide +kernel) (by omega) e2 hG (app_ct hAD hG a1 hz z0 (by omega)) (by omega) (show 1 = mN 185 by decide +kernel) (by simp) ?_
    rintro r w1 ⟨rfl, G1, F1, hz1⟩
    refine V_aload (v := ad 0) mi_1_26 (by simp) ?_
    refine V_getO mi_1_27 G1 e0 (rrO e0 t1 (by omega) G1) ?_
    refine V_iload (v := a2) mi_1_30 (by simp) ?_
    refine V_callO (c := 2) (As := [.int a2]) (st := []) mi_1_31 (by omega) (by decide +kernel) (show mCi 185 = 9 by decide +kernel) (by omega) e2 G1 (app_ct hAD G1 a2 hz1 (by omega) (by omega)) (by omega) (show 1 = mN 185 by decide +kernel) (by simp) ?_
    rintro r w2 ⟨rfl, G2, F2, hz2⟩
    refine V_aload (v := ad 0) mi_1_34 (by simp) ?_
    refine V_getO mi_1_35 G2 e0 (rrO e0 t1 (by omega) G2) ?_
    refine V_iload (v := a3) mi_1_38 (by simp) ?_
    refine V_callO (c := 2) (As := [.int a3]) (st := []) mi_1_39 (by omega) (by decide +kernel) (show mCi 185 = 9 by decide +kernel) (by omega) e2 G2 (app_ct hAD G2 a3 hz2 (by omega) (by omega)) (by omega) (show 1 = mN 185 by decide +kernel) (by simp) ?_
    rintro r w3 ⟨rfl, G3, F3, hz3⟩
    refine V_aload (v := ad 0) mi_1_42 (by simp) ?_
    refine V_getO mi_1_43 G3 e0 (rrO e0 t1 (by omega) G3) ?_
    refine V_iload (v := a4) mi_1_46 (by simp) ?_
    refine V_callO (c := 2) (As := [.int a4]) (st := []) mi_1_48 (by omega) (by decide +kernel) (show mCi 185 = 9 by decide +kernel) (by omega) e2 G3 (app_ct hAD G3 a4 hz3 (by omega) (by omega)) (by omega) (show 1 = mN 185 by decide +kernel) (by simp) ?_
    rintro r w4 ⟨rfl, G4, F4, hz4⟩
    refine V_aload (v := ad 0) mi_1_51 (by simp) ?_
    refine V_getO mi_1_52 G4 e0 (rrO e0 t1 (by omega) G4) ?_
    refine V_iload (v := a5) mi_1_55 (by simp) ?_
    refine V_callO (c := 2) (As := [.int a5]) (st := []) mi_1_57 (by omega) (by decide +kernel) (show mCi 185 = 9 by decide +kernel) (by omega) e2 G4 (app_ct hAD G4 a5 hz4 (by omega) (by omega)) (by omega) (show 1 = mN 185 by decide +kernel) (by simp) ?_
    rintro r w5 ⟨rfl, G5, F5, hz5⟩
    have e20 : z + 4 + 4 + 4 + 4 + 4 = z + 20 := by omega
    rw [e20] at hz5
    refine V_aload (v := ad 0) mi_1_60 (by simp) ?_
    refine V_getO mi_1_61 G5 e0 (rrO e0 t1 (by omega) G5) ?_
    refine V_getO mi_1_64 G5 e2 hz5 ?_
    exact V_retI mi_1_67 (fun h => absurd h (by decide +kernel)) ⟨by rw [f1], G5, FRm_tr (FRm_tr (FRm_tr (FRm_tr F1 F2 (fun _ h => h)) F3 (fun _ h => h)) F4 (fun _ h => h)) F5 (fun _ h => h), by rw [f2]; exact hz5⟩
  · have h : ¬ (z + 20 - 1400 ≤ 0) := fun q => h (hc.mpr q)
    obtain ⟨f1, f2⟩ := fen (z := z) (by omega)
    refine V_ipush mi_1_16 ?_
    exact V_retI mi_1_17 (fun h => absurd h (by decide +kernel)) ⟨by rw [f1], hG, FRm_rf, by rw [f2]; exact hz⟩
def edV (z : Int) (n : Int32) : Int32 := if 0 ≤ n.toInt ∧ n.toInt ≤ z then n else Int32.ofInt (-1)
def edT (z : Int) (n : Int32) : Int := if 0 ≤ n.toInt ∧ n.toInt ≤ z then n.toInt else z
theorem endx_ct (hG : GOK ad tys GG ws) (n : Int32) {z : Int} (hz : rd ws 2 1 = some (.int (Int32.ofInt z))) (z0 : 0 ≤ z) (z1 : z ≤ 1400) : CT l D tys A 2 0 0 0 [.ref (ad 0), .int n] ws (fun r w => r = some (.int (edV z n)) ∧ GOK ad tys GG w ∧ FRm [2] ws w ∧ rd w 2 1 = some (.int (Int32.ofInt (edT z n)))) := by
  refine CT_of_V (by omega) (show (2 : Nat) ≤ mML 2 by decide +kernel) ?_
  obtain ⟨s0, e0, t1⟩ := gx0t
  obtain ⟨s2, e2, t2⟩ := gx2
  have no : ∀ lv : List (Nat × Value), ¬ (0 ≤ n.toInt ∧ n.toInt ≤ z) → V l D tys A 2 0 0 0 (fun r w => r = some (.int (edV z n)) ∧ GOK ad tys GG w ∧ FRm [2] ws w ∧ rd w 2 1 = some (.int (Int32.ofInt (edT z n)))) 0 0 15 lv [] ws := fun lv h => V_ipush mi_2_15 (V_retI mi_2_16 (fun h => absurd h (by decide +kernel)) ⟨by unfold edV; rw [if_neg h], hG, FRm_rf, by unfold edT; rw [if_neg h]; exact hz⟩)
  have lvs : lv_args 0 [Value.ref (ad 0), .int n] = [(0, .ref (ad 0)), (1, .int n)] := rfl
  rw [lvs]
  refine V_iload (v := n) mi_2_0 (by simp) ?_
  refine V_if mi_2_1 (fun h => no _ (fun q => by have := cmp_l.mp h; have e : (0 : Int32).toInt = 0 := rfl; omega)) (fun h1 => ?_)
  have h1 : 0 ≤ n.toInt := by
    rcases Int.lt_or_le n.toInt 0 with q | q
    · exact absurd (cmp_l.mpr (show n.toInt < (0 : Int32).toInt from q)) h1
    · exact q
  refine V_iload (v := n) mi_2_4 (by simp) ?_
  refine V_aload (v := ad 0) mi_2_5 (by simp) ?_
  refine V_getO mi_2_6 hG e0 (rrO e0 t1 (by omega) hG) ?_
  refine V_getO mi_2_9 hG e2 hz ?_
  have ez : (Int32.ofInt z).toInt = z := tIi z (by omega) (by omega)
  refine V_icmp mi_2_12 (fun h2 => ?_) (fun h2 => no _ (fun q => h2 (cmp_le.mpr (by omega))))
  have h2 : n.toInt ≤ z := by have := cmp_le.mp h2; omega
  refine V_aload (v := ad 0) mi_2_17 (by simp) ?_
  refine V_getO mi_2_18 hG e0 (rrO e0 t1 (by omega) hG) ?_
  refine V_iload (v := n) mi_2_21 (by simp) ?_
  refine V_putO mi_2_22 hG e2 t2 (by omega) rfl (by decide +kernel) h1 (by omega) (fun w1 G1 U1 => ?_)
  refine V_iload (v := n) mi_2_25 (by simp) ?_
  exact V_retI mi_2_26 (fun h => absurd h (by decide +kernel)) ⟨by unfold edV; rw [if_pos ⟨h1, h2⟩], G1, FRm_upd FRm_rf U1 (by simp) (n8c (by omega)), by unfold edT; rw [if_pos ⟨h1, h2⟩, Int32.ofInt_toInt]; exact upd_eq U1⟩
def cFm : CR := (210, [], [], none, [((90, 8), (0, 5, 4))], [94, 95])
def kFm : List (Nat × CUT) := [(101, [], [(0, rA 90)], [], [], (0, []))]
theorem mFm : vr1 GG [] [] 1000 1 cFm ([] ++ kFm) none (15, [(0, 1380), (-2147483648, 2147483647), (-2147483648, 2147483647), (-2147483648, 2147483647), (-2147483648, 2147483647), (-2147483648, 2147483647)], [(0, rA 90), (1, iA (0, [(1, 1)])), (2, iA (0, [(1, 2)])), (3, iA (0, [(1, 3)])), (4, iA (0, [(1, 4)])), (5, iA (0, [(1, 5)]))], [], [((90, 5), iA (0, [(1, 0)]))]) = true := by decide +kernel
theorem inE6 {a0 a1 a2 a3 a4 a5 : Int} {q0 q1 q2 q3 q4 q5 : Int × Int} (h0 : q0.1 ≤ a0 ∧ a0 ≤ q0.2) (h1 : q1.1 ≤ a1 ∧ a1 ≤ q1.2) (h2 : q2.1 ≤ a2 ∧ a2 ≤ q2.2) (h3 : q3.1 ≤ a3 ∧ a3 ≤ q3.2) (h4 : q4.1 ≤ a4 ∧ a4 ≤ q4.2) (h5 : q5.1 ≤ a5 ∧ a5 ≤ q5.2) : inE (fun i => match i with | 0 => a0 | 1 => a1 | 2 => a2 | 3 => a3 | 4 => a4 | _ => a5) [q0, q1, q2, q3, q4, q5] := by
  intro s q hq
  match s with
  | 0 => cases hq; exact h0
  | 1 => cases hq; exact h1
  | 2 => cases hq; exact h2
  | 3 => cases hq; exact h3
  | 4 => cases hq; exact h4
  | 5 => cases hq; exact h5
  | n + 6 => simp at hq
theorem feedm_ct (hAD : ∀ i : Nat, ad (1000 + i) = D.2 1000 i) (hG : GOK ad tys GG ws) (a1 a2 a3 a4 a5 : Int32) {z : Int} (hz : rd ws 90 5 = some (.int (Int32.ofInt z))) (z0 : 0 ≤ z) (z1 : z ≤ 1400) : CT l D tys A 210 1 0 0 [.ref (ad 90), .int a1, .int a2, .int a3, .int a4, .int a5] ws (fun r w => r = some (.int (Int32.ofInt (feV z))) ∧ GOK ad tys GG w ∧ (∀ j, rd w 2 j = rd ws 2 j) ∧ rd w 90 5 = some (.int (Int32.ofInt (feT z)))) := by
  refine CT_of_V (by omega) (show (6 : Nat) ≤ mML 210 by decide +kernel) ?_
  have lvs : lv_args 0 [Value.ref (ad 90), .int a1, .int a2, .int a3, .int a4, .int a5] = [(0, .ref (ad 90)), (1, .int a1), (2, .int a2), (3, .int a3), (4, .int a4), (5, .int a5)] := rfl
  rw [lvs]
  refine V_aload (v := ad 90) mi_210_0 (by simp) ?_
  refine V_getI mi_210_1 hG hz ?_
  refine V_ipush mi_210_4 ?_
  refine V_ibin mi_210_6 (by omega) ?_
  rw [add_zz]
  refine V_ipush mi_210_7 ?_
  have hc := cdP_iff (x := 5) (a := z + 20) (b := 1400) (by omega) (by omega) (by omega) (by omega)
  refine V_icmp mi_210_10 (fun h => ?_) (fun h => ?_)
  · have h : z + 20 - 1400 ≤ 0 := hc.mp h
    obtain ⟨f1, f2⟩ := fel (z := z) (by omega)
    have K := V_mach (post := fun r w => r = some (.int (Int32.ofInt (feV z))) ∧ GOK ad tys GG w ∧ (∀ j, rd w 2 j = rd ws 2 j) ∧ rd w 90 5 = some (.int (Int32.ofInt (feT z)))) (cutsL := []) (w0 := ws) (ws := ws) (l := l) (A := A) (σ := fun i => match i with | 0 => z | 1 => a1.toInt | 2 => a2.toInt | 3 => a3.toInt | 4 => a4.toInt | _ => a5.toInt) (s := (15, [(0, 1380), (-2147483648, 2147483647), (-2147483648, 2147483647), (-2147483648, 2147483647), (-2147483648, 2147483647), (-2147483648, 2147483647)], [(0, rA 90), (1, iA (0, [(1, 1)])), (2, iA (0, [(1, 2)])), (3, iA (0, [(1, 3)])), (4, iA (0, [(1, 4)])), (5, iA (0, [(1, 5)]))], [], [((90, 5), iA (0, [(1, 0)]))])) hAD (fun q hq => by cases hq) mFm rfl (inE6 ⟨z0, by show z ≤ (1380 : Int); omega⟩ (full_ a1) (full_ a2) (full_ a3) (full_ a4) (full_ a5)) ⟨hG, ov_one hz rfl, FRm_rf⟩ (by
      intro pc C hC τ w hτ hH
      rw [kFm] at hC
      have e := List.mem_singleton.mp hC
      cases e
      have G := hH.1
      have F := hH.2.2
      have hz2 : rd w 90 5 = some (.int (Int32.ofInt z)) := F.2.2.2.trans hz
      have tz : (Int32.ofInt (z + 20)).toInt = z + 20 := tIi (z + 20) (by omega) (by omega)
      refine V_aload (v := ad 90) mi_210_101 (List.Mem.head _) ?_
      refine V_dup mi_210_102 rfl ?_
      refine V_getI mi_210_103 G hz2 ?_
      refine V_ipush mi_210_106 ?_
      refine V_ibin mi_210_108 (by omega) ?_
      rw [add_zz]
      refine V_putI mi_210_109 G f5 (by omega) rfl (by decide +kernel) (by omega) (by omega) (fun w1 G1 U1 => ?_)
      refine V_aload (v := ad 90) mi_210_112 (List.Mem.head _) ?_
      refine V_getI mi_210_113 G1 (upd_eq U1) ?_
      exact V_retI mi_210_116 (fun h => absurd h (by decide +kernel)) ⟨by rw [f1], G1, fun j => (upd_ne U1 (by omega)).trans (F.1 2 (by simp [cFm]) j), by rw [f2]; exact upd_eq U1⟩) (by
      rintro r w ⟨-, -, -, g4⟩
      obtain ⟨v, -, zz, -, q1, q2⟩ := g4 ((90, 8), (0, 5, 4)) (List.Mem.head _)
      have q1 : (5 : Int) ≤ zz := q1
      have q2 : zz ≤ (4 : Int) := q2
      omega)
    unfold VS at K
    dsimp only at K
    rw [List.map_cons, List.map_cons, List.map_cons, List.map_cons, List.map_cons, List.map_cons, cv_i (v := a1) rfl, cv_i (v := a2) rfl, cv_i (v := a3) rfl, cv_i (v := a4) rfl, cv_i (v := a5) rfl] at K
    exact K
  · have h : ¬ (z + 20 - 1400 ≤ 0) := fun q => h (hc.mpr q)
    obtain ⟨f1, f2⟩ := fen (z := z) (by omega)
    refine V_ipush mi_210_13 ?_
    exact V_retI mi_210_14 (fun h => absurd h (by decide +kernel)) ⟨by rw [f1], hG, fun _ => rfl, by rw [f2]; exact hz⟩
theorem endm_ct (hG : GOK ad tys GG ws) (n : Int32) {z : Int} (hz : rd ws 90 5 = some (.int (Int32.ofInt z))) (z0 : 0 ≤ z) (z1 : z ≤ 1400) : CT l D tys A 211 1 0 0 [.ref (ad 90), .int n] ws (fun r w => r = some (.int (edV z n)) ∧ GOK ad tys GG w ∧ (∀ j, rd w 2 j = rd ws 2 j) ∧ rd w 90 5 = some (.int (Int32.ofInt (edT z n)))) := by
  refine CT_of_V (by omega) (show (2 : Nat) ≤ mML 211 by decide +kernel) ?_
  have lvs : lv_args 0 [Value.ref (ad 90), .int n] = [(0, .ref (ad 90)), (1, .int n)] := rfl
  rw [lvs]
  have n1 := Int32.le_toInt n
  have n2 := Int32.toInt_lt n
  have ez : (Int32.ofInt z).toInt = z := tIi z (by omega) (by omega)
  refine V_iload (v := n) mi_211_0 (by simp) ?_
  refine V_i2l mi_211_1 ?_
  rw [el_]
  refine V_lpush mi_211_2 ?_
  refine V_aload (v := ad 90) mi_211_3 (by simp) ?_
  refine V_getI mi_211_4 hG hz ?_
  refine V_i2l mi_211_7 ?_
  rw [el_ (Int32.ofInt z), ez]
  refine V_stat (As := [.long (Int64.ofInt n.toInt), .long (Int64.ofInt 0), .long (Int64.ofInt z)]) (st := []) mi_211_8 (by omega) (in2_ct (by omega) (by omega) (by omega) (by omega) (by omega) (by omega)) (by omega) (show 3 = mN 193 by decide +kernel) (by simp) ⟨Nat.le_refl _, Nat.le_refl _⟩ ?_
  rintro r w ⟨rfl, hr⟩
  rcases hr with ⟨rfl, h1, h2⟩ | ⟨rfl, hn⟩
  · refine V_if mi_211_11 (fun _ => ?_) (fun h => absurd (show (1 : Int32) ≠ 0 by decide) h)
    refine V_aload (v := ad 90) mi_211_16 (by simp) ?_
    refine V_iload (v := n) mi_211_17 (by simp) ?_
    refine V_putI mi_211_18 hG f5 (by omega) rfl (by decide +kernel) h1 (by omega) (fun w1 G1 U1 => ?_)
    refine V_iload (v := n) mi_211_21 (by simp) ?_
    exact V_retI mi_211_22 (fun h => absurd h (by decide +kernel)) ⟨by unfold edV; rw [if_pos ⟨h1, h2⟩], G1, fun j => upd_ne U1 (by omega), by unfold edT; rw [if_pos ⟨h1, h2⟩, Int32.ofInt_toInt]; exact upd_eq U1⟩
  · refine V_if mi_211_11 (fun h => absurd (show (0 : Int32) = 0 from rfl) h) (fun _ => ?_)
    refine V_ipush mi_211_14 ?_
    exact V_retI mi_211_15 (fun h => absurd h (by decide +kernel)) ⟨by unfold edV; rw [if_neg hn], hG, fun _ => rfl, by unfold edT; rw [if_neg hn]; exact hz⟩
theorem pair_feed (hAD : ∀ i : Nat, ad (1000 + i) = D.2 1000 i) (hG : GOK ad tys GG ws) (hR : RELT ws) (a1 a2 a3 a4 a5 : Int32) : ∃ v : Int32, ∃ MID : va_W → Prop, (∃ d', d' < 11 ∧ CT l D tys A 1 d' 0 0 [.ref (ad 0), .int a1, .int a2, .int a3, .int a4, .int a5] ws (fun r w => r = some (.int v) ∧ GOK ad tys GG w ∧ MID w)) ∧ ∀ w : va_W, GOK ad tys GG w → MID w → ∃ d', d' < 11 ∧ CT l D tys A 210 d' 0 0 [.ref (ad 90), .int a1, .int a2, .int a3, .int a4, .int a5] w (fun r w2 => r = some (.int v) ∧ GOK ad tys GG w2 ∧ RELT w2) := by
  obtain ⟨z, h1, h2, z0, z1⟩ := hR
  have bt : 0 ≤ feT z ∧ feT z ≤ 1400 := by unfold feT; split <;> omega
  refine ⟨_, fun w => rd w 2 1 = some (.int (Int32.ofInt (feT z))) ∧ rd w 90 5 = some (.int (Int32.ofInt z)), ⟨2, by omega, CT_post (feedx_ct hAD hG a1 a2 a3 a4 a5 h1 z0 z1) (fun r w h => ⟨h.1, h.2.1, h.2.2.2, h.2.2.1.2.2.2.trans h2⟩)⟩, fun w hw K => ⟨1, by omega, CT_post (feedm_ct hAD hw a1 a2 a3 a4 a5 K.2 z0 z1) (fun r w2 h => ⟨h.1, h.2.1, feT z, (h.2.2.1 1).trans K.1, h.2.2.2, bt.1, bt.2⟩)⟩⟩
theorem pair_end (hAD : ∀ i : Nat, ad (1000 + i) = D.2 1000 i) (hG : GOK ad tys GG ws) (hR : RELT ws) (a1 : Int32) : ∃ v : Int32, ∃ MID : va_W → Prop, (∃ d', d' < 11 ∧ CT l D tys A 2 d' 0 0 [.ref (ad 0), .int a1] ws (fun r w => r = some (.int v) ∧ GOK ad tys GG w ∧ MID w)) ∧ ∀ w : va_W, GOK ad tys GG w → MID w → ∃ d', d' < 11 ∧ CT l D tys A 211 d' 0 0 [.ref (ad 90), .int a1] w (fun r w2 => r = some (.int v) ∧ GOK ad tys GG w2 ∧ RELT w2) := by
  obtain ⟨z, h1, h2, z0, z1⟩ := hR
  have bt : 0 ≤ edT z a1 ∧ edT z a1 ≤ 1400 := by unfold edT; split <;> omega
  refine ⟨_, fun w => rd w 2 1 = some (.int (Int32.ofInt (edT z a1))) ∧ rd w 90 5 = some (.int (Int32.ofInt z)), ⟨0, by omega, CT_post (endx_ct hG a1 h1 z0 z1) (fun r w h => ⟨h.1, h.2.1, h.2.2.2, h.2.2.1.2.2.2.trans h2⟩)⟩, fun w hw K => ⟨1, by omega, CT_post (endm_ct hw a1 K.2 z0 z1) (fun r w2 h => ⟨h.1, h.2.1, edT z a1, (h.2.2.1 1).trans K.1, h.2.2.2, bt.1, bt.2⟩)⟩⟩
theorem relt_keep {w0 w : va_W} (h : RELT w0) (k : ∀ j, rd w 2 j = rd w0 2 j) (k2 : rd w 90 5 = rd w0 90 5) : RELT w := by
  obtain ⟨z, h1, h2, h3⟩ := h
  exact ⟨z, (k 1).trans h1, k2.trans h2, h3⟩
theorem pair_hill (hAD : ∀ i : Nat, ad (1000 + i) = D.2 1000 i) (hG : GOK ad tys GG ws) : (∃ d', d' < 11 ∧ CT l D tys A 3 d' 0 0 [.ref (ad 0)] ws (fun r w => (∃ v : Int32, r = some (.int v)) ∧ GOK ad tys GG w ∧ rd w 2 1 = some (.int (Int32.ofInt 0)))) ∧ ∀ w : va_W, GOK ad tys GG w → rd w 2 1 = some (.int (Int32.ofInt 0)) → ∃ d', d' < 11 ∧ CT l D tys A 233 d' 0 0 [.ref (ad 90)] w (fun r w2 => (∃ v : Int32, r = some (.int v)) ∧ GOK ad tys GG w2 ∧ RELT w2) := by
  refine ⟨?_, fun w hw K => ⟨10, by omega, CT_post (hi_ct hAD hw) (fun r w2 h => ⟨h.2.1, h.1, 0, (h.2.2.1 2 (by simp) 1).trans K, h.2.2.2, by omega, by omega⟩)⟩⟩
  obtain ⟨d', k1, k2⟩ := rHX hAD (l := l) (tys := tys) (A := A) [.ref (ad 0)] ws ⟨rfl, trivial⟩ hG (fun q hq => by cases hq)
  refine ⟨d', by omega, CT_post k2 (fun r w h => ?_)⟩
  obtain ⟨q1, q2, q3, q4⟩ := h
  refine ⟨?_, q1, ?_⟩
  · cases r with
    | none => exact q3.elim
    | some v =>
      obtain ⟨z, rfl, -, -⟩ := q3
      exact ⟨_, rfl⟩
  · obtain ⟨u, h1, z, rfl, z1, z2⟩ := q4 ((2, 1), (0, 0, 0)) (List.Mem.head _)
    have z1 : (0 : Int) ≤ z := z1
    have z2 : z ≤ (0 : Int) := z2
    rw [h1, show z = 0 by omega]
end TAP
