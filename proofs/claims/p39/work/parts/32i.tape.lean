theorem mi_1_0 : mI 1 0 = (5, 0, 0, 0, 0) := by decide +kernel
theorem mi_1_1 : mI 1 1 = (17, 298, 20, 10, 1) := by decide +kernel
theorem mi_1_4 : mI 1 4 = (17, 41, 84, 9, 1) := by decide +kernel
theorem mi_1_7 : mI 1 7 = (1, 20, 1, 0, 0) := by decide +kernel
theorem mi_1_9 : mI 1 9 = (10, 0, 0, 0, 0) := by decide +kernel
theorem mi_1_10 : mI 1 10 = (1, 1400, 2, 0, 0) := by decide +kernel
theorem mi_1_13 : mI 1 13 = (15, 5, 5, 18, 0) := by decide +kernel
theorem mi_1_16 : mI 1 16 = (1, (-1), 0, 0, 0) := by decide +kernel
theorem mi_1_17 : mI 1 17 = (27, 0, 0, 0, 0) := by decide +kernel
theorem mi_1_18 : mI 1 18 = (5, 0, 0, 0, 0) := by decide +kernel
theorem mi_1_19 : mI 1 19 = (17, 298, 20, 10, 1) := by decide +kernel
theorem mi_1_22 : mI 1 22 = (3, 0, 1, 0, 0) := by decide +kernel
theorem mi_1_23 : mI 1 23 = (26, 341, 90, 185, 0) := by decide +kernel
theorem mi_1_26 : mI 1 26 = (5, 0, 0, 0, 0) := by decide +kernel
theorem mi_1_27 : mI 1 27 = (17, 298, 20, 10, 1) := by decide +kernel
theorem mi_1_30 : mI 1 30 = (3, 0, 2, 0, 0) := by decide +kernel
theorem mi_1_31 : mI 1 31 = (26, 341, 90, 185, 0) := by decide +kernel
theorem mi_1_34 : mI 1 34 = (5, 0, 0, 0, 0) := by decide +kernel
theorem mi_1_35 : mI 1 35 = (17, 298, 20, 10, 1) := by decide +kernel
theorem mi_1_38 : mI 1 38 = (3, 0, 3, 0, 0) := by decide +kernel
theorem mi_1_39 : mI 1 39 = (26, 341, 90, 185, 0) := by decide +kernel
theorem mi_1_42 : mI 1 42 = (5, 0, 0, 0, 0) := by decide +kernel
theorem mi_1_43 : mI 1 43 = (17, 298, 20, 10, 1) := by decide +kernel
theorem mi_1_46 : mI 1 46 = (3, 0, 4, 1, 0) := by decide +kernel
theorem mi_1_48 : mI 1 48 = (26, 341, 90, 185, 0) := by decide +kernel
theorem mi_1_51 : mI 1 51 = (5, 0, 0, 0, 0) := by decide +kernel
theorem mi_1_52 : mI 1 52 = (17, 298, 20, 10, 1) := by decide +kernel
theorem mi_1_55 : mI 1 55 = (3, 0, 5, 1, 0) := by decide +kernel
theorem mi_1_57 : mI 1 57 = (26, 341, 90, 185, 0) := by decide +kernel
theorem mi_1_60 : mI 1 60 = (5, 0, 0, 0, 0) := by decide +kernel
theorem mi_1_61 : mI 1 61 = (17, 298, 20, 10, 1) := by decide +kernel
theorem mi_1_64 : mI 1 64 = (17, 41, 84, 9, 1) := by decide +kernel
theorem mi_1_67 : mI 1 67 = (27, 0, 0, 0, 0) := by decide +kernel
theorem mi_2_0 : mI 2 0 = (3, 0, 1, 0, 0) := by decide +kernel
theorem mi_2_1 : mI 2 1 = (14, 14, 2, 15, 0) := by decide +kernel
theorem mi_2_4 : mI 2 4 = (3, 0, 1, 0, 0) := by decide +kernel
theorem mi_2_5 : mI 2 5 = (5, 0, 0, 0, 0) := by decide +kernel
theorem mi_2_6 : mI 2 6 = (17, 298, 20, 10, 1) := by decide +kernel
theorem mi_2_9 : mI 2 9 = (17, 41, 84, 9, 1) := by decide +kernel
theorem mi_2_12 : mI 2 12 = (15, 5, 5, 17, 0) := by decide +kernel
theorem mi_2_15 : mI 2 15 = (1, (-1), 0, 0, 0) := by decide +kernel
theorem mi_2_16 : mI 2 16 = (27, 0, 0, 0, 0) := by decide +kernel
theorem mi_2_17 : mI 2 17 = (5, 0, 0, 0, 0) := by decide +kernel
theorem mi_2_18 : mI 2 18 = (17, 298, 20, 10, 1) := by decide +kernel
theorem mi_2_21 : mI 2 21 = (3, 0, 1, 0, 0) := by decide +kernel
theorem mi_2_22 : mI 2 22 = (18, 41, 84, 9, 1) := by decide +kernel
theorem mi_2_25 : mI 2 25 = (3, 0, 1, 0, 0) := by decide +kernel
theorem mi_2_26 : mI 2 26 = (27, 0, 0, 0, 0) := by decide +kernel
theorem mi_3_0 : mI 3 0 = (5, 0, 0, 0, 0) := by decide +kernel
theorem mi_3_1 : mI 3 1 = (17, 297, 12, 10, 0) := by decide +kernel
theorem mi_3_4 : mI 3 4 = (5, 0, 0, 0, 0) := by decide +kernel
theorem mi_3_5 : mI 3 5 = (17, 300, 28, 10, 3) := by decide +kernel
theorem mi_3_8 : mI 3 8 = (26, 353, 94, 133, 0) := by decide +kernel
theorem mi_3_11 : mI 3 11 = (5, 0, 0, 0, 0) := by decide +kernel
theorem mi_3_12 : mI 3 12 = (17, 298, 20, 10, 1) := by decide +kernel
theorem mi_3_15 : mI 3 15 = (1, 0, 0, 0, 0) := by decide +kernel
theorem mi_3_16 : mI 3 16 = (18, 41, 84, 9, 1) := by decide +kernel
theorem mi_3_19 : mI 3 19 = (5, 0, 0, 0, 0) := by decide +kernel
theorem mi_3_20 : mI 3 20 = (17, 297, 12, 10, 0) := by decide +kernel
theorem mi_3_23 : mI 3 23 = (17, 67, 98, 5, 1) := by decide +kernel
theorem mi_3_26 : mI 3 26 = (14, 6, 0, 32, 0) := by decide +kernel
theorem mi_3_29 : mI 3 29 = (1, (-4), 1, 0, 0) := by decide +kernel
theorem mi_3_31 : mI 3 31 = (27, 0, 0, 0, 0) := by decide +kernel
theorem mi_3_32 : mI 3 32 = (5, 0, 0, 0, 0) := by decide +kernel
theorem mi_3_33 : mI 3 33 = (17, 299, 24, 10, 2) := by decide +kernel
theorem mi_3_36 : mI 3 36 = (5, 0, 0, 0, 0) := by decide +kernel
theorem mi_3_37 : mI 3 37 = (17, 300, 28, 10, 3) := by decide +kernel
theorem mi_3_40 : mI 3 40 = (26, 521, 101, 100, 0) := by decide +kernel
theorem mi_3_43 : mI 3 43 = (5, 0, 0, 0, 0) := by decide +kernel
theorem mi_3_44 : mI 3 44 = (26, 528, 104, 73, 0) := by decide +kernel
theorem mi_3_47 : mI 3 47 = (5, 0, 0, 0, 0) := by decide +kernel
theorem mi_3_48 : mI 3 48 = (17, 299, 24, 10, 2) := by decide +kernel
theorem mi_3_51 : mI 3 51 = (17, 85, 107, 2, 0) := by decide +kernel
theorem mi_3_54 : mI 3 54 = (27, 0, 0, 0, 0) := by decide +kernel
theorem mi_185_0 : mI 185 0 = (1, 24, 1, 0, 0) := by decide +kernel
theorem mi_185_2 : mI 185 2 = (6, 0, 2, 0, 0) := by decide +kernel
theorem mi_185_3 : mI 185 3 = (3, 0, 2, 0, 0) := by decide +kernel
theorem mi_185_4 : mI 185 4 = (14, 51, 2, 55, 0) := by decide +kernel
theorem mi_185_7 : mI 185 7 = (5, 0, 0, 0, 0) := by decide +kernel
theorem mi_185_8 : mI 185 8 = (17, 42, 15, 9, 1) := by decide +kernel
theorem mi_185_11 : mI 185 11 = (14, 38, 2, 49, 0) := by decide +kernel
theorem mi_185_14 : mI 185 14 = (5, 0, 0, 0, 0) := by decide +kernel
theorem mi_185_15 : mI 185 15 = (17, 42, 15, 9, 1) := by decide +kernel
theorem mi_185_18 : mI 185 18 = (5, 0, 0, 0, 0) := by decide +kernel
theorem mi_185_19 : mI 185 19 = (17, 40, 9, 9, 0) := by decide +kernel
theorem mi_185_22 : mI 185 22 = (21, 0, 0, 0, 0) := by decide +kernel
theorem mi_185_23 : mI 185 23 = (15, 26, 3, 49, 0) := by decide +kernel
theorem mi_185_26 : mI 185 26 = (5, 0, 0, 0, 0) := by decide +kernel
theorem mi_185_27 : mI 185 27 = (17, 40, 9, 9, 0) := by decide +kernel
theorem mi_185_30 : mI 185 30 = (5, 0, 0, 0, 0) := by decide +kernel
theorem mi_185_31 : mI 185 31 = (17, 42, 15, 9, 1) := by decide +kernel
theorem mi_185_34 : mI 185 34 = (3, 0, 1, 0, 0) := by decide +kernel
theorem mi_185_35 : mI 185 35 = (3, 0, 2, 0, 0) := by decide +kernel
theorem mi_185_36 : mI 185 36 = (10, 0, 10, 0, 0) := by decide +kernel
theorem mi_185_37 : mI 185 37 = (12, 0, 3, 0, 0) := by decide +kernel
theorem mi_185_38 : mI 185 38 = (20, 0, 1, 0, 0) := by decide +kernel
theorem mi_185_39 : mI 185 39 = (5, 0, 0, 0, 0) := by decide +kernel
theorem mi_185_40 : mI 185 40 = (22, 0, 0, 0, 0) := by decide +kernel
theorem mi_185_41 : mI 185 41 = (17, 42, 15, 9, 1) := by decide +kernel
theorem mi_185_44 : mI 185 44 = (1, 1, 0, 0, 0) := by decide +kernel
theorem mi_185_45 : mI 185 45 = (10, 0, 0, 0, 0) := by decide +kernel
theorem mi_185_46 : mI 185 46 = (18, 42, 15, 9, 1) := by decide +kernel
theorem mi_185_49 : mI 185 49 = (9, (-8), 2, 0, 0) := by decide +kernel
theorem mi_185_52 : mI 185 52 = (16, (-49), 0, 3, 0) := by decide +kernel
theorem mi_185_55 : mI 185 55 = (27, 0, 2, 0, 0) := by decide +kernel
theorem mi_210_0 : mI 210 0 = (5, 0, 0, 0, 0) := by decide +kernel
theorem mi_210_1 : mI 210 1 = (17, 1211, 97, 11, 5) := by decide +kernel
theorem mi_210_4 : mI 210 4 = (1, 20, 1, 0, 0) := by decide +kernel
theorem mi_210_6 : mI 210 6 = (10, 0, 0, 0, 0) := by decide +kernel
theorem mi_210_7 : mI 210 7 = (1, 1400, 2, 0, 0) := by decide +kernel
theorem mi_210_10 : mI 210 10 = (15, 5, 5, 15, 0) := by decide +kernel
theorem mi_210_13 : mI 210 13 = (1, (-1), 0, 0, 0) := by decide +kernel
theorem mi_210_14 : mI 210 14 = (27, 0, 0, 0, 0) := by decide +kernel
theorem mi_210_15 : mI 210 15 = (5, 0, 0, 0, 0) := by decide +kernel
theorem mi_210_16 : mI 210 16 = (17, 1212, 24, 11, 6) := by decide +kernel
theorem mi_210_19 : mI 210 19 = (1, 0, 0, 0, 0) := by decide +kernel
theorem mi_210_20 : mI 210 20 = (3, 0, 1, 0, 0) := by decide +kernel
theorem mi_210_21 : mI 210 21 = (20, 0, 0, 0, 0) := by decide +kernel
theorem mi_210_22 : mI 210 22 = (5, 0, 0, 0, 0) := by decide +kernel
theorem mi_210_23 : mI 210 23 = (17, 1212, 24, 11, 6) := by decide +kernel
theorem mi_210_26 : mI 210 26 = (1, 1, 0, 0, 0) := by decide +kernel
theorem mi_210_27 : mI 210 27 = (3, 0, 2, 0, 0) := by decide +kernel
theorem mi_210_28 : mI 210 28 = (20, 0, 0, 0, 0) := by decide +kernel
theorem mi_210_29 : mI 210 29 = (5, 0, 0, 0, 0) := by decide +kernel
theorem mi_210_30 : mI 210 30 = (17, 1212, 24, 11, 6) := by decide +kernel
theorem mi_210_33 : mI 210 33 = (1, 2, 0, 0, 0) := by decide +kernel
theorem mi_210_34 : mI 210 34 = (3, 0, 3, 0, 0) := by decide +kernel
theorem mi_210_35 : mI 210 35 = (20, 0, 0, 0, 0) := by decide +kernel
theorem mi_210_36 : mI 210 36 = (5, 0, 0, 0, 0) := by decide +kernel
theorem mi_210_37 : mI 210 37 = (17, 1212, 24, 11, 6) := by decide +kernel
theorem mi_210_40 : mI 210 40 = (1, 3, 0, 0, 0) := by decide +kernel
theorem mi_210_41 : mI 210 41 = (3, 0, 4, 1, 0) := by decide +kernel
theorem mi_210_43 : mI 210 43 = (20, 0, 0, 0, 0) := by decide +kernel
theorem mi_210_44 : mI 210 44 = (5, 0, 0, 0, 0) := by decide +kernel
theorem mi_210_45 : mI 210 45 = (17, 1212, 24, 11, 6) := by decide +kernel
theorem mi_210_48 : mI 210 48 = (1, 4, 0, 0, 0) := by decide +kernel
theorem mi_210_49 : mI 210 49 = (3, 0, 5, 1, 0) := by decide +kernel
theorem mi_210_51 : mI 210 51 = (20, 0, 0, 0, 0) := by decide +kernel
theorem mi_210_52 : mI 210 52 = (1, 0, 0, 0, 0) := by decide +kernel
theorem mi_210_53 : mI 210 53 = (6, 0, 6, 1, 0) := by decide +kernel
theorem mi_210_55 : mI 210 55 = (3, 0, 6, 1, 0) := by decide +kernel
theorem mi_210_57 : mI 210 57 = (1, 20, 1, 0, 0) := by decide +kernel
theorem mi_210_59 : mI 210 59 = (15, 42, 3, 101, 0) := by decide +kernel
theorem mi_210_62 : mI 210 62 = (5, 0, 0, 0, 0) := by decide +kernel
theorem mi_210_63 : mI 210 63 = (17, 1210, 20, 11, 4) := by decide +kernel
theorem mi_210_66 : mI 210 66 = (5, 0, 0, 0, 0) := by decide +kernel
theorem mi_210_67 : mI 210 67 = (17, 1211, 97, 11, 5) := by decide +kernel
theorem mi_210_70 : mI 210 70 = (3, 0, 6, 1, 0) := by decide +kernel
theorem mi_210_72 : mI 210 72 = (10, 0, 0, 0, 0) := by decide +kernel
theorem mi_210_73 : mI 210 73 = (5, 0, 0, 0, 0) := by decide +kernel
theorem mi_210_74 : mI 210 74 = (17, 1212, 24, 11, 6) := by decide +kernel
theorem mi_210_77 : mI 210 77 = (3, 0, 6, 1, 0) := by decide +kernel
theorem mi_210_79 : mI 210 79 = (1, 4, 0, 0, 0) := by decide +kernel
theorem mi_210_80 : mI 210 80 = (10, 0, 3, 0, 0) := by decide +kernel
theorem mi_210_81 : mI 210 81 = (19, 0, 0, 0, 0) := by decide +kernel
theorem mi_210_82 : mI 210 82 = (1, 24, 1, 0, 0) := by decide +kernel
theorem mi_210_84 : mI 210 84 = (1, 8, 1, 0, 0) := by decide +kernel
theorem mi_210_86 : mI 210 86 = (3, 0, 6, 1, 0) := by decide +kernel
theorem mi_210_88 : mI 210 88 = (1, 4, 0, 0, 0) := by decide +kernel
theorem mi_210_89 : mI 210 89 = (10, 0, 4, 0, 0) := by decide +kernel
theorem mi_210_90 : mI 210 90 = (10, 0, 2, 0, 0) := by decide +kernel
theorem mi_210_91 : mI 210 91 = (10, 0, 1, 0, 0) := by decide +kernel
theorem mi_210_92 : mI 210 92 = (10, 0, 9, 0, 0) := by decide +kernel
theorem mi_210_93 : mI 210 93 = (12, 0, 3, 0, 0) := by decide +kernel
theorem mi_210_94 : mI 210 94 = (20, 0, 1, 0, 0) := by decide +kernel
theorem mi_210_95 : mI 210 95 = (9, 1, 6, 0, 0) := by decide +kernel
theorem mi_210_98 : mI 210 98 = (16, (-43), 0, 55, 0) := by decide +kernel
theorem mi_210_101 : mI 210 101 = (5, 0, 0, 0, 0) := by decide +kernel
theorem mi_210_102 : mI 210 102 = (22, 0, 0, 0, 0) := by decide +kernel
theorem mi_210_103 : mI 210 103 = (17, 1211, 97, 11, 5) := by decide +kernel
theorem mi_210_106 : mI 210 106 = (1, 20, 1, 0, 0) := by decide +kernel
theorem mi_210_108 : mI 210 108 = (10, 0, 0, 0, 0) := by decide +kernel
theorem mi_210_109 : mI 210 109 = (18, 1211, 97, 11, 5) := by decide +kernel
theorem mi_210_112 : mI 210 112 = (5, 0, 0, 0, 0) := by decide +kernel
theorem mi_210_113 : mI 210 113 = (17, 1211, 97, 11, 5) := by decide +kernel
theorem mi_210_116 : mI 210 116 = (27, 0, 0, 0, 0) := by decide +kernel
theorem mi_211_0 : mI 211 0 = (3, 0, 1, 0, 0) := by decide +kernel
theorem mi_211_1 : mI 211 1 = (12, 0, 1, 0, 0) := by decide +kernel
theorem mi_211_2 : mI 211 2 = (2, 0, 0, 0, 0) := by decide +kernel
theorem mi_211_3 : mI 211 3 = (5, 0, 0, 0, 0) := by decide +kernel
theorem mi_211_4 : mI 211 4 = (17, 1211, 97, 11, 5) := by decide +kernel
theorem mi_211_7 : mI 211 7 = (12, 0, 1, 0, 0) := by decide +kernel
theorem mi_211_8 : mI 211 8 = (26, 1321, 85, 193, 1) := by decide +kernel
theorem mi_211_11 : mI 211 11 = (14, 5, 1, 16, 0) := by decide +kernel
theorem mi_211_14 : mI 211 14 = (1, (-1), 0, 0, 0) := by decide +kernel
theorem mi_211_15 : mI 211 15 = (27, 0, 0, 0, 0) := by decide +kernel
theorem mi_211_16 : mI 211 16 = (5, 0, 0, 0, 0) := by decide +kernel
theorem mi_211_17 : mI 211 17 = (3, 0, 1, 0, 0) := by decide +kernel
theorem mi_211_18 : mI 211 18 = (18, 1211, 97, 11, 5) := by decide +kernel
theorem mi_211_21 : mI 211 21 = (3, 0, 1, 0, 0) := by decide +kernel
theorem mi_211_22 : mI 211 22 = (27, 0, 0, 0, 0) := by decide +kernel
section TAP
variable {l : Launch} {D : va_G} {tys : List (ClassId × FieldType)} {A : Nat → Prop} {ad : Nat → Nat} {ws : va_W} {k d : Nat} {post : Option Value → va_W → Prop} {pc : Nat} {lv : List (Nat × Value)} {st : List Value} {a : Int} {x y z : Nat}
theorem V_putO {c ci nf i : Nat} {segs : List SG} {lo hi : Int} {v : Int32} (hi0 : mI k pc = (18, a, x, ci, i)) (hG : GOK ad tys GG ws) (hg : GG[c]? = some ((0, ci, nf), segs)) (hs : segAt segs i = some (0, lo, hi)) (hn2 : i < nf) (hty : clTy ci i = .int) (hn : nfin ci i = true) (h1 : lo ≤ v.toInt) (h2 : v.toInt ≤ hi) (kk : ∀ w : va_W, GOK ad tys GG w → Upd1 ws w c i (.int v) → V l D tys A k d 0 0 post 0 0 (pc + 3) lv st w) : V l D tys A k d 0 0 post 0 0 pc lv (.int v :: .ref (ad c) :: st) ws := by
  obtain ⟨e, a1, a2, a3⟩ := hG c _ hg
  obtain ⟨fs, rfl, hl⟩ := a2
  refine V_put hi0 a1 (by omega) (fun C T N hc => ?_) (by rw [hty]; rfl) (by rw [hty]; rfl) ?_
  · unfold nfin at hn
    rw [hc] at hn
    simpa using hn
  · obtain ⟨u1, u2⟩ := GOK_upd (e' := .inr (ci, fs.set i (.int v))) hG hg a1 ⟨_, rfl, by rw [List.length_set]; exact hl⟩ (rdE_obj (by omega) _) hs ⟨v.toInt, by rw [Int32.ofInt_toInt], h1, h2⟩
    exact kk _ u1 u2
theorem gx2 : ∃ s, GG[2]? = some ((0, 9, 6), s) ∧ segAt s 1 = some (0, 0, 1400) := ⟨_, rfl, by decide +kernel⟩
theorem gx0t : ∃ s, GG[0]? = some ((0, 10, 13), s) ∧ segAt s 1 = some (2, ((2 : Nat) : Int), ((2 : Nat) : Int)) := ⟨_, rfl, by decide +kernel⟩
noncomputable def edV (z : Int) (n : Int32) : Int32 := if 0 ≤ n.toInt ∧ n.toInt ≤ z then n else Int32.ofInt (-1)
noncomputable def edT (z : Int) (n : Int32) : Int := if 0 ≤ n.toInt ∧ n.toInt ≤ z then n.toInt else z
theorem endx_ct (hG : GOK ad tys GG ws) (n : Int32) {z : Int} (hz : rd ws 2 1 = some (.int (Int32.ofInt z))) (z0 : 0 ≤ z) (z1 : z ≤ 1400) : CT l D tys A 2 0 0 0 [.ref (ad 0), .int n] ws (fun r w => r = some (.int (edV z n)) ∧ GOK ad tys GG w ∧ FRm [2] ws w ∧ rd w 2 1 = some (.int (Int32.ofInt (edT z n)))) := by
  refine CT_of_V (by omega) (show (2 : Nat) ≤ mML 2 by decide +kernel) ?_
  obtain ⟨s0, e0, t1⟩ := gx0t
  obtain ⟨s2, e2, t2⟩ := gx2
  have no : ∀ lv : List (Nat × Value), ¬ (0 ≤ n.toInt ∧ n.toInt ≤ z) → V l D tys A 2 0 0 0 (fun r w => r = some (.int (edV z n)) ∧ GOK ad tys GG w ∧ FRm [2] ws w ∧ rd w 2 1 = some (.int (Int32.ofInt (edT z n)))) 0 0 15 lv [] ws := fun lv h => V_ipush mi_2_15 (V_retI mi_2_16 (fun h => absurd h (by decide +kernel)) ⟨by unfold edV; rw [if_neg h], hG, FRm_rf, by unfold edT; rw [if_neg h]; exact hz⟩)
  have lvs : lv_args 0 [Value.ref (ad 0), .int n] = [(0, .ref (ad 0)), (1, .int n)] := rfl
  rw [lvs]
  refine V_iload (v := n) mi_2_0 (by simp) ?_
  refine V_if mi_2_1 (fun h => no _ (fun q => by have := cmp_l.mp h; have e : (0 : Int32).toInt = 0 := rfl; omega)) (fun h1 => ?_)
  have h1 : 0 ≤ n.toInt := by
    rcases Int.lt_or_le n.toInt 0 with q | q
    · exact absurd (cmp_l.mpr (show n.toInt < (0 : Int32).toInt from q)) h1
    · exact q
  refine V_iload (v := n) mi_2_4 (by simp) ?_
  refine V_aload (v := ad 0) mi_2_5 (by simp) ?_
  refine V_getO mi_2_6 hG e0 (rrO e0 t1 (by omega) hG) ?_
  refine V_getO mi_2_9 hG e2 hz ?_
  have ez : (Int32.ofInt z).toInt = z := tIi z (by omega) (by omega)
  refine V_icmp mi_2_12 (fun h2 => ?_) (fun h2 => no _ (fun q => h2 (cmp_le.mpr (by omega))))
  have h2 : n.toInt ≤ z := by have := cmp_le.mp h2; omega
  refine V_aload (v := ad 0) mi_2_17 (by simp) ?_
  refine V_getO mi_2_18 hG e0 (rrO e0 t1 (by omega) hG) ?_
  refine V_iload (v := n) mi_2_21 (by simp) ?_
  refine V_putO mi_2_22 hG e2 t2 (by omega) rfl (by decide +kernel) h1 (by omega) (fun w1 G1 U1 => ?_)
  refine V_iload (v := n) mi_2_25 (by simp) ?_
  exact V_retI mi_2_26 (fun h => absurd h (by decide +kernel)) ⟨by unfold edV; rw [if_pos ⟨h1, h2⟩], G1, FRm_upd FRm_rf U1 (by simp) (n8c (by omega)), by unfold edT; rw [if_pos ⟨h1, h2⟩, Int32.ofInt_toInt]; exact upd_eq U1⟩
end TAP
