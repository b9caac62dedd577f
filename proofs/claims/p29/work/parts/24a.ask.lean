theorem mi_312_0 : mI 312 0 = (3, 0, 1, 0, 0) := by decide +kernel
theorem mi_312_1 : mI 312 1 = (26, 1773, 371, 336, 1) := by decide +kernel
theorem mi_312_4 : mI 312 4 = (14, 10, 0, 14, 0) := by decide +kernel
theorem mi_312_7 : mI 312 7 = (5, 0, 0, 0, 0) := by decide +kernel
theorem mi_312_8 : mI 312 8 = (26, 1689, 350, 198, 0) := by decide +kernel
theorem mi_312_11 : mI 312 11 = (14, 6, 1, 17, 0) := by decide +kernel
theorem mi_312_14 : mI 312 14 = (1, (-2), 1, 0, 0) := by decide +kernel
theorem mi_312_16 : mI 312 16 = (27, 0, 0, 0, 0) := by decide +kernel
theorem mi_312_17 : mI 312 17 = (5, 0, 0, 0, 0) := by decide +kernel
theorem mi_312_18 : mI 312 18 = (17, 1238, 67, 11, 32) := by decide +kernel
theorem mi_312_21 : mI 312 21 = (3, 0, 1, 0, 0) := by decide +kernel
theorem mi_312_22 : mI 312 22 = (19, 0, 0, 0, 0) := by decide +kernel
theorem mi_312_23 : mI 312 23 = (1, (-1), 0, 0, 0) := by decide +kernel
theorem mi_312_24 : mI 312 24 = (15, 6, 1, 30, 0) := by decide +kernel
theorem mi_312_27 : mI 312 27 = (1, (-6), 1, 0, 0) := by decide +kernel
theorem mi_312_29 : mI 312 29 = (27, 0, 0, 0, 0) := by decide +kernel
theorem mi_312_30 : mI 312 30 = (5, 0, 0, 0, 0) := by decide +kernel
theorem mi_312_31 : mI 312 31 = (17, 1238, 67, 11, 32) := by decide +kernel
theorem mi_312_34 : mI 312 34 = (3, 0, 1, 0, 0) := by decide +kernel
theorem mi_312_35 : mI 312 35 = (19, 0, 0, 0, 0) := by decide +kernel
theorem mi_312_36 : mI 312 36 = (1, 2, 0, 0, 0) := by decide +kernel
theorem mi_312_37 : mI 312 37 = (10, 0, 4, 0, 0) := by decide +kernel
theorem mi_312_38 : mI 312 38 = (14, 6, 0, 44, 0) := by decide +kernel
theorem mi_312_41 : mI 312 41 = (1, (-2), 1, 0, 0) := by decide +kernel
theorem mi_312_43 : mI 312 43 = (27, 0, 0, 0, 0) := by decide +kernel
theorem mi_312_44 : mI 312 44 = (1, 0, 0, 0, 0) := by decide +kernel
theorem mi_312_45 : mI 312 45 = (6, 0, 2, 0, 0) := by decide +kernel
theorem mi_312_46 : mI 312 46 = (3, 0, 2, 0, 0) := by decide +kernel
theorem mi_312_47 : mI 312 47 = (5, 0, 0, 0, 0) := by decide +kernel
theorem mi_312_48 : mI 312 48 = (17, 1238, 67, 11, 32) := by decide +kernel
theorem mi_312_51 : mI 312 51 = (3, 0, 1, 0, 0) := by decide +kernel
theorem mi_312_52 : mI 312 52 = (19, 0, 0, 0, 0) := by decide +kernel
theorem mi_312_53 : mI 312 53 = (15, 43, 3, 96, 0) := by decide +kernel
theorem mi_312_56 : mI 312 56 = (5, 0, 0, 0, 0) := by decide +kernel
theorem mi_312_57 : mI 312 57 = (3, 0, 1, 0, 0) := by decide +kernel
theorem mi_312_58 : mI 312 58 = (3, 0, 2, 0, 0) := by decide +kernel
theorem mi_312_59 : mI 312 59 = (26, 1777, 376, 300, 0) := by decide +kernel
theorem mi_312_62 : mI 312 62 = (2, 0, 0, 0, 0) := by decide +kernel
theorem mi_312_63 : mI 312 63 = (2, 5, 1, 413, 1830) := by decide +kernel
theorem mi_312_66 : mI 312 66 = (26, 1321, 85, 193, 1) := by decide +kernel
theorem mi_312_69 : mI 312 69 = (14, 18, 0, 87, 0) := by decide +kernel
theorem mi_312_72 : mI 312 72 = (5, 0, 0, 0, 0) := by decide +kernel
theorem mi_312_73 : mI 312 73 = (5, 0, 0, 0, 0) := by decide +kernel
theorem mi_312_74 : mI 312 74 = (3, 0, 1, 0, 0) := by decide +kernel
theorem mi_312_75 : mI 312 75 = (3, 0, 2, 0, 0) := by decide +kernel
theorem mi_312_76 : mI 312 76 = (1, 1, 0, 0, 0) := by decide +kernel
theorem mi_312_77 : mI 312 77 = (10, 0, 0, 0, 0) := by decide +kernel
theorem mi_312_78 : mI 312 78 = (26, 1777, 376, 300, 0) := by decide +kernel
theorem mi_312_81 : mI 312 81 = (26, 1798, 389, 203, 0) := by decide +kernel
theorem mi_312_84 : mI 312 84 = (14, 6, 1, 90, 0) := by decide +kernel
theorem mi_312_87 : mI 312 87 = (1, (-2), 1, 0, 0) := by decide +kernel
theorem mi_312_89 : mI 312 89 = (27, 0, 0, 0, 0) := by decide +kernel
theorem mi_312_90 : mI 312 90 = (9, 2, 2, 0, 0) := by decide +kernel
theorem mi_312_93 : mI 312 93 = (16, (-47), 0, 46, 0) := by decide +kernel
theorem mi_312_96 : mI 312 96 = (1, 0, 0, 0, 0) := by decide +kernel
theorem mi_312_97 : mI 312 97 = (27, 0, 0, 0, 0) := by decide +kernel
theorem mi_313_0 : mI 313 0 = (1, 0, 0, 0, 0) := by decide +kernel
theorem mi_313_1 : mI 313 1 = (6, 0, 3, 0, 0) := by decide +kernel
theorem mi_313_2 : mI 313 2 = (3, 0, 3, 0, 0) := by decide +kernel
theorem mi_313_3 : mI 313 3 = (5, 0, 0, 0, 0) := by decide +kernel
theorem mi_313_4 : mI 313 4 = (17, 1238, 67, 11, 32) := by decide +kernel
theorem mi_313_7 : mI 313 7 = (3, 0, 1, 0, 0) := by decide +kernel
theorem mi_313_8 : mI 313 8 = (19, 0, 0, 0, 0) := by decide +kernel
theorem mi_313_9 : mI 313 9 = (15, 50, 3, 59, 0) := by decide +kernel
theorem mi_313_12 : mI 313 12 = (5, 0, 0, 0, 0) := by decide +kernel
theorem mi_313_13 : mI 313 13 = (3, 0, 1, 0, 0) := by decide +kernel
theorem mi_313_14 : mI 313 14 = (3, 0, 3, 0, 0) := by decide +kernel
theorem mi_313_15 : mI 313 15 = (26, 1777, 376, 300, 0) := by decide +kernel
theorem mi_313_18 : mI 313 18 = (12, 0, 2, 0, 0) := by decide +kernel
theorem mi_313_19 : mI 313 19 = (6, 0, 4, 1, 0) := by decide +kernel
theorem mi_313_21 : mI 313 21 = (3, 0, 4, 1, 0) := by decide +kernel
theorem mi_313_23 : mI 313 23 = (5, 0, 0, 0, 0) := by decide +kernel
theorem mi_313_24 : mI 313 24 = (3, 0, 2, 0, 0) := by decide +kernel
theorem mi_313_25 : mI 313 25 = (26, 1452, 93, 204, 0) := by decide +kernel
theorem mi_313_28 : mI 313 28 = (15, 23, 3, 51, 0) := by decide +kernel
theorem mi_313_31 : mI 313 31 = (5, 0, 0, 0, 0) := by decide +kernel
theorem mi_313_32 : mI 313 32 = (3, 0, 2, 0, 0) := by decide +kernel
theorem mi_313_33 : mI 313 33 = (3, 0, 4, 1, 0) := by decide +kernel
theorem mi_313_35 : mI 313 35 = (26, 1456, 290, 205, 0) := by decide +kernel
theorem mi_313_38 : mI 313 38 = (12, 0, 1, 0, 0) := by decide +kernel
theorem mi_313_39 : mI 313 39 = (5, 0, 0, 0, 0) := by decide +kernel
theorem mi_313_40 : mI 313 40 = (3, 0, 1, 0, 0) := by decide +kernel
theorem mi_313_41 : mI 313 41 = (3, 0, 3, 0, 0) := by decide +kernel
theorem mi_313_42 : mI 313 42 = (1, 1, 0, 0, 0) := by decide +kernel
theorem mi_313_43 : mI 313 43 = (10, 0, 0, 0, 0) := by decide +kernel
theorem mi_313_44 : mI 313 44 = (26, 1777, 376, 300, 0) := by decide +kernel
theorem mi_313_47 : mI 313 47 = (13, 0, 0, 0, 0) := by decide +kernel
theorem mi_313_48 : mI 313 48 = (14, 5, 0, 53, 0) := by decide +kernel
theorem mi_313_51 : mI 313 51 = (1, 0, 0, 0, 0) := by decide +kernel
theorem mi_313_52 : mI 313 52 = (27, 0, 0, 0, 0) := by decide +kernel
theorem mi_313_53 : mI 313 53 = (9, 2, 3, 0, 0) := by decide +kernel
theorem mi_313_56 : mI 313 56 = (16, (-54), 0, 2, 0) := by decide +kernel
theorem mi_313_59 : mI 313 59 = (1, 1, 0, 0, 0) := by decide +kernel
theorem mi_313_60 : mI 313 60 = (27, 0, 0, 0, 0) := by decide +kernel
theorem mi_300_0 : mI 300 0 = (5, 0, 0, 0, 0) := by decide +kernel
theorem mi_300_1 : mI 300 1 = (17, 1240, 73, 11, 34) := by decide +kernel
theorem mi_300_4 : mI 300 4 = (1, 60, 1, 0, 0) := by decide +kernel
theorem mi_300_6 : mI 300 6 = (3, 0, 1, 0, 0) := by decide +kernel
theorem mi_300_7 : mI 300 7 = (10, 0, 2, 0, 0) := by decide +kernel
theorem mi_300_8 : mI 300 8 = (3, 0, 2, 0, 0) := by decide +kernel
theorem mi_300_9 : mI 300 9 = (10, 0, 0, 0, 0) := by decide +kernel
theorem mi_300_10 : mI 300 10 = (19, 0, 2, 0, 0) := by decide +kernel
theorem mi_300_11 : mI 300 11 = (27, 0, 1, 0, 0) := by decide +kernel
theorem mi_193_0 : mI 193 0 = (4, 0, 0, 0, 0) := by decide +kernel
theorem mi_193_1 : mI 193 1 = (4, 0, 2, 0, 0) := by decide +kernel
theorem mi_193_2 : mI 193 2 = (13, 0, 0, 0, 0) := by decide +kernel
theorem mi_193_3 : mI 193 3 = (14, 14, 2, 17, 0) := by decide +kernel
theorem mi_193_6 : mI 193 6 = (4, 0, 0, 0, 0) := by decide +kernel
theorem mi_193_7 : mI 193 7 = (4, 0, 4, 1, 0) := by decide +kernel
theorem mi_193_9 : mI 193 9 = (13, 0, 0, 0, 0) := by decide +kernel
theorem mi_193_10 : mI 193 10 = (14, 7, 4, 17, 0) := by decide +kernel
theorem mi_193_13 : mI 193 13 = (1, 1, 0, 0, 0) := by decide +kernel
theorem mi_193_14 : mI 193 14 = (16, 4, 0, 18, 0) := by decide +kernel
theorem mi_193_17 : mI 193 17 = (1, 0, 0, 0, 0) := by decide +kernel
theorem mi_193_18 : mI 193 18 = (27, 0, 0, 0, 0) := by decide +kernel
theorem even_all : (List.range 61).all (fun m => decide ((m : Int) % 2 = 0) || !((@decide _ (instDecidableEqInt32 (ibF 4 (Int32.ofInt (m : Int)) (Int32.ofInt 2)) (0))))) = true := by decide +kernel
theorem gg_obj : ∃ g, GG[90]? = some ((0, 11, 36), g) ∧ segAt g 32 = some (2, 107, 107) ∧ segAt g 34 = some (2, 109, 109) := ⟨_, rfl, by decide +kernel, by decide +kernel⟩
theorem gg_many : ∃ g, GG[107]? = some ((1, 0, 4), g) ∧ ∀ s : Nat, s < 4 → segAt g s = some (0, -1, 60) := ⟨_, rfl, by decide +kernel⟩
theorem gg_numb : ∃ t g, GG[109]? = some ((2, t, 240), g) := ⟨_, _, rfl⟩
/-- a slot's even numbers are syllables' places -/
noncomputable def PG (s : Int) (ws : va_W) : Prop := ∃ m : Int, rd ws 107 s.toNat = some (.int (Int32.ofInt m)) ∧ 0 ≤ m ∧ m ≤ 60 ∧ (∃ h : Int, m = 2 * h) ∧ ∀ j : Nat, 2 * (j : Int) < m → ∃ z : Int, rd ws 109 (60 * s + 2 * j).toNat = some (.long (Int64.ofInt z)) ∧ 0 ≤ z ∧ z ≤ 5
theorem PG_keep {s : Int} {w0 ws : va_W} (hF : FRm [] w0 ws) : PG s ws ↔ PG s w0 := by
  have e : ∀ c j, rd ws c j = rd w0 c j := fun c j => hF.1 c (by simp) j
  unfold PG
  simp only [e]
noncomputable def kSlot : CR := (336, [(0, (-2147483648), 2147483647)], [], some (0, 0, 1), [], [])
noncomputable def kHill : CR := (198, [(2, 90, 90)], [], some (0, 0, 1), [], [])
noncomputable def kSyl : CR := (203, [(2, 90, 90), (1, (-9223372036854775808), 9223372036854775807)], [], some (0, 0, 1), [], [])
noncomputable def kLen : CR := (204, [(2, 90, 90), (0, 0, 5)], [], some (0, 0, 6), [], [])
noncomputable def kSbl : CR := (205, [(2, 90, 90), (0, 0, 5), (0, 0, 5)], [], some (0, (-2147483648), 2147483647), [], [])
theorem vSlot : vrf GG [] [] 300 2 kSlot [] = true := by decide +kernel
theorem vHill : vrf GG [] [] 300 2 kHill [] = true := by decide +kernel
theorem vSyl : vrf GG [] [] 300 2 kSyl [] = true := by decide +kernel
theorem vLen : vrf GG [] [] 300 2 kLen [] = true := by decide +kernel
theorem vSbl : vrf GG [] [] 300 2 kSbl [] = true := by decide +kernel
section ASK
variable {l : Launch} {D : va_G} {tys : List (ClassId × FieldType)} {A : Nat → Prop} {ad : Nat → Nat}
theorem k_of {c : CR} (hAD : ∀ i : Nat, ad (1000 + i) = D.2 1000 i) (h : vrf GG [] [] 300 2 c [] = true) : CRok l D tys A ad GG 3 c := CR_of_vrf (dep := 2) hAD (fun c hc => by cases hc) T2OK_nil h
theorem obj_of {ws : va_W} (hG : GOK ad tys GG ws) : ∃ fs : List Value, ws[90]? = some (ad 90, .inr (11, fs)) ∧ fs[32]? = some (.ref (ad 107)) ∧ fs[34]? = some (.ref (ad 109)) := by
  obtain ⟨g, hg, hs1, hs2⟩ := gg_obj
  obtain ⟨e, a1, a2, a3⟩ := hG 90 _ hg
  obtain ⟨fs, rfl, hl⟩ := a2
  have v1 : fs[32]? = some fs[32] := List.getElem?_eq_getElem (by omega)
  have v2 : fs[34]? = some fs[34] := List.getElem?_eq_getElem (by omega)
  obtain ⟨sp, q1, q2⟩ := a3 32 _ v1
  rw [hs1] at q1
  cases q1
  obtain ⟨sp, r1, r2⟩ := a3 34 _ v2
  rw [hs2] at r1
  cases r1
  exact ⟨fs, a1, by rw [v1]; exact congrArg some q2, by rw [v2]; exact congrArg some r2⟩
theorem many_of {ws : va_W} (hG : GOK ad tys GG ws) {s : Int} (h0 : 0 ≤ s) (h3 : s ≤ 3) : ∃ (cA : ClassId) (f : Nat → Int32) (m : Int), ws[107]? = some (ad 107, .inl (cA, 4, .inl f)) ∧ tys[0]? = some (cA, .int) ∧ f s.toNat = Int32.ofInt m ∧ rd ws 107 s.toNat = some (.int (Int32.ofInt m)) ∧ -1 ≤ m ∧ m ≤ 60 := by
  obtain ⟨g, hg, hs⟩ := gg_many
  obtain ⟨e, b1, b2, b3⟩ := hG 107 _ hg
  obtain ⟨cA, f, rfl, c1, -⟩ := b2
  have hr : rdE (.inl (cA, 4, .inl f)) s.toNat = some (.int (f s.toNat)) := by show (if s.toNat < 4 then _ else _) = _; rw [if_pos (by omega)]
  obtain ⟨sp, r1, r2⟩ := b3 s.toNat _ hr
  rw [hs s.toNat (by omega)] at r1
  cases r1
  obtain ⟨z, z1, z2, z3⟩ := r2
  have ez := Value.int.inj z1
  exact ⟨cA, f, z, b1, c1, ez, by rw [rd_at b1, hr, ez], z2, z3⟩
theorem num_ct {ws : va_W} (hG : GOK ad tys GG ws) {s i : Int} (h0 : 0 ≤ s) (h3 : s ≤ 3) (i0 : 0 ≤ i) (i1 : i ≤ 59) : CT l D tys A 300 0 0 0 [.ref (ad 90), .int (Int32.ofInt s), .int (Int32.ofInt i)] ws (fun r w => w = ws ∧ ∃ z : Int, -9223372036854775808 ≤ z ∧ z ≤ 9223372036854775807 ∧ r = some (.long (Int64.ofInt z)) ∧ rd ws 109 (60 * s + i).toNat = some (.long (Int64.ofInt z))) := by
  obtain ⟨fs, e1, -, e2⟩ := obj_of hG
  obtain ⟨t, g, hg⟩ := gg_numb
  obtain ⟨e, b1, b2, -⟩ := hG 109 _ hg
  obtain ⟨cA, f, rfl, c1⟩ := b2
  refine CT_of_V (by omega) (show (3 : Nat) ≤ mML 300 by decide +kernel) ?_
  refine V_aload (v := ad 90) mi_300_0 (List.Mem.head _) ?_
  refine V_get mi_300_1 e1 e2 ?_
  refine V_ipush mi_300_4 ?_
  refine V_iload (v := Int32.ofInt s) mi_300_6 (List.Mem.tail _ (List.Mem.head _)) ?_
  refine V_ibin mi_300_7 (by omega) ?_
  refine V_iload (v := Int32.ofInt i) mi_300_8 (List.Mem.tail _ (List.Mem.tail _ (List.Mem.head _))) ?_
  refine V_ibin mi_300_9 (by omega) ?_
  have ei : ibF 0 (ibF 2 (Int32.ofInt 60) (Int32.ofInt s)) (Int32.ofInt i) = Int32.ofInt (60 * s + i) := by
    show Int32.ofInt 60 * Int32.ofInt s + Int32.ofInt i = _
    rw [← Int32.ofInt_mul, ← Int32.ofInt_add]
  rw [ei]
  obtain ⟨j1, j2⟩ := idx_ok (z := 60 * s + i) (n := 240) (by omega) (by omega) (by omega)
  refine V_lald mi_300_10 b1 c1 j1 ?_
  rw [j2]
  have bz1 := Int64.le_toInt (f (60 * s + i).toNat)
  have bz2 := Int64.toInt_lt (f (60 * s + i).toNat)
  refine V_retL mi_300_11 ⟨rfl, (f (60 * s + i).toNat).toInt, by omega, by omega, by rw [Int64.ofInt_toInt], ?_⟩
  rw [rd_at b1, Int64.ofInt_toInt]
  show (if (60 * s + i).toNat < 240 then _ else _) = _
  rw [if_pos (by omega)]
theorem in_ct {ws : va_W} {v lo hi : Int} (v1 : -9223372036854775808 ≤ v) (v2 : v ≤ 9223372036854775807) (a1 : -9223372036854775808 ≤ lo) (a2 : lo ≤ 9223372036854775807) (b1 : -9223372036854775808 ≤ hi) (b2 : hi ≤ 9223372036854775807) : CT l D tys A 193 0 0 0 [.long (Int64.ofInt v), .long (Int64.ofInt lo), .long (Int64.ofInt hi)] ws (fun r w => w = ws ∧ ((r = some (.int 1) ∧ lo ≤ v ∧ v ≤ hi) ∨ r = some (.int 0))) := by
  refine CT_of_V (by omega) (show (6 : Nat) ≤ mML 193 by decide +kernel) ?_
  have fin : ∀ (b : Int32) (lv : List (Nat × Value)), b = 0 ∨ (b = 1 ∧ lo ≤ v ∧ v ≤ hi) → V l D tys A 193 0 0 0 (fun r w => w = ws ∧ ((r = some (.int 1) ∧ lo ≤ v ∧ v ≤ hi) ∨ r = some (.int 0))) 0 0 18 lv [.int b] ws := by
    intro b lv hb
    rcases hb with rfl | ⟨rfl, h1, h2⟩
    · exact V_retI mi_193_18 (fun _ => by decide) ⟨rfl, Or.inr rfl⟩
    · exact V_retI mi_193_18 (fun _ => by decide) ⟨rfl, Or.inl ⟨rfl, h1, h2⟩⟩
  have no : ∀ lv : List (Nat × Value), V l D tys A 193 0 0 0 (fun r w => w = ws ∧ ((r = some (.int 1) ∧ lo ≤ v ∧ v ≤ hi) ∨ r = some (.int 0))) 0 0 17 lv [] ws := fun lv => V_ipush mi_193_17 (fin _ _ (Or.inl rfl))
  refine V_lload (v := Int64.ofInt v) mi_193_0 (List.Mem.head _) ?_
  refine V_lload (v := Int64.ofInt lo) mi_193_1 (List.Mem.tail _ (List.Mem.head _)) ?_
  refine V_lcmp mi_193_2 ?_
  refine V_if mi_193_3 (fun _ => no _) (fun h1 => ?_)
  have h1 : ¬ (v - lo < 0) := fun q => h1 ((cdL_iff (x := 2) v1 v2 a1 a2).mpr q)
  refine V_lload (v := Int64.ofInt v) mi_193_6 (List.Mem.head _) ?_
  refine V_lload (v := Int64.ofInt hi) mi_193_7 (List.Mem.tail _ (List.Mem.tail _ (List.Mem.head _))) ?_
  refine V_lcmp mi_193_9 ?_
  refine V_if mi_193_10 (fun _ => no _) (fun h2 => ?_)
  have h2 : ¬ (0 < v - hi) := fun q => h2 ((cdL_iff (x := 4) v1 v2 b1 b2).mpr q)
  refine V_ipush mi_193_13 ?_
  exact V_goto mi_193_14 (fin _ _ (Or.inr ⟨rfl, by omega, by omega⟩))
noncomputable def POA (ad : Nat → Nat) (tys : List (ClassId × FieldType)) (s : Int) (w0 : va_W) : Option Value → va_W → Prop := fun r w => ∃ z : Int, r = some (.int (Int32.ofInt z)) ∧ (z = -6 ∨ z = -2 ∨ (z = 0 ∧ PG s w0)) ∧ GOK ad tys GG w ∧ FRm [] w0 w
theorem ask_loop (hAD : ∀ i : Nat, ad (1000 + i) = D.2 1000 i) {w0 : va_W} {s m h : Int} (h0 : 0 ≤ s) (h3 : s ≤ 3) (hm : rd w0 107 s.toNat = some (.int (Int32.ofInt m))) (m0 : 0 ≤ m) (m1 : m ≤ 60) (me : m = 2 * h) : ∀ (n j : Nat) (w : va_W), m < 2 * j + n → 2 * (j : Int) ≤ m → (∀ j' : Nat, j' < j → ∃ z : Int, rd w0 109 (60 * s + 2 * j').toNat = some (.long (Int64.ofInt z)) ∧ 0 ≤ z ∧ z ≤ 5) → GOK ad tys GG w → FRm [] w0 w → V l D tys A 312 3 0 0 (POA ad tys s w0) 0 0 46 [(0, .ref (ad 90)), (1, .int (Int32.ofInt s)), (2, .int (Int32.ofInt (2 * j)))] [] w
  | 0, j, w, g1, g2, _, _, _ => by omega
  | n + 1, j, w, g1, g2, hP, hG, hF => by
    obtain ⟨fs, e1, e2, e3⟩ := obj_of hG
    obtain ⟨cA, f, m', f1, f2, f3, f4, -, -⟩ := many_of hG h0 h3
    have em : Int32.ofInt m' = Int32.ofInt m := by
      rw [hF.1 107 (by simp), hm] at f4
      exact (Value.int.inj (Option.some.inj f4)).symm
    obtain ⟨s1, s2⟩ := idx_ok (z := s) (n := 4) (by omega) (by omega) (by omega)
    refine V_iload (v := Int32.ofInt (2 * j)) mi_312_46 (List.Mem.tail _ (List.Mem.tail _ (List.Mem.head _))) ?_
    refine V_aload (v := ad 90) mi_312_47 (List.Mem.head _) ?_
    refine V_get mi_312_48 e1 e2 ?_
    refine V_iload (v := Int32.ofInt s) mi_312_51 (List.Mem.tail _ (List.Mem.head _)) ?_
    refine V_iald mi_312_52 f1 f2 s1 ?_
    rw [s2, f3, em]
    have hc := cdP_iff (x := 3) (a := 2 * (j : Int)) (b := m) (by omega) (by omega) (by omega) (by omega)
    refine V_icmp mi_312_53 (fun hge => ?_) (fun hlt => ?_)
    · have hge : 0 ≤ 2 * (j : Int) - m := hc.mp hge
      refine V_ipush mi_312_96 ?_
      exact V_retI mi_312_97 (fun h => absurd h (by decide +kernel)) ⟨0, rfl, Or.inr (Or.inr ⟨rfl, m, hm, m0, m1, ⟨h, me⟩, fun j' hj' => hP j' (by omega)⟩), hG, hF⟩
    · have hlt : ¬ (0 ≤ 2 * (j : Int) - m) := fun q => hlt (hc.mpr q)
      have no : ∀ (w : va_W) (lv : List (Nat × Value)), GOK ad tys GG w → FRm [] w0 w → V l D tys A 312 3 0 0 (POA ad tys s w0) 0 0 87 lv [] w := fun w lv k1 k2 => V_ipush mi_312_87 (V_retI mi_312_89 (fun h => absurd h (by decide +kernel)) ⟨-2, rfl, Or.inr (Or.inl rfl), k1, k2⟩)
      refine V_aload (v := ad 90) mi_312_56 (List.Mem.head _) ?_
      refine V_iload (v := Int32.ofInt s) mi_312_57 (List.Mem.tail _ (List.Mem.head _)) ?_
      refine V_iload (v := Int32.ofInt (2 * j)) mi_312_58 (List.Mem.tail _ (List.Mem.tail _ (List.Mem.head _))) ?_
      obtain ⟨T, N, hcl⟩ := ci_at (y := 300) (by omega) (by decide +kernel) (by decide +kernel)
      have hcl : vwCl[11]? = some ((mY 300).cls, T, N) := by rw [← show mCi 300 = 11 by decide +kernel]; exact hcl
      refine V_virt (As := [.int (Int32.ofInt s), .int (Int32.ofInt (2 * j))]) (st := []) mi_312_59 (by omega) (num_ct hG h0 h3 (i := 2 * j) (by omega) (by omega)) (by omega) (show 2 = mN 300 by decide +kernel) e1 hcl (by simp) ⟨Nat.le_refl _, Nat.le_refl _⟩ ?_
      rintro r1 w1 ⟨rfl, z, z1, z2, rfl, hz⟩
      refine V_lpush mi_312_62 ?_
      refine V_lpush mi_312_63 ?_
      refine V_stat (As := [.long (Int64.ofInt z), .long (Int64.ofInt 0), .long (Int64.ofInt 5)]) (st := []) mi_312_66 (by omega) (in_ct z1 z2 (by omega) (by omega) (by omega) (by omega)) (by omega) (show 3 = mN 193 by decide +kernel) (by simp) ⟨Nat.le_refl _, Nat.le_refl _⟩ ?_
      rintro r2 w2 ⟨rfl, hr2⟩
      rcases hr2 with ⟨rfl, q1, q2⟩ | rfl
      · refine V_if mi_312_69 (fun _ => no _ _ hG hF) (fun _ => ?_)
        refine V_aload (v := ad 90) mi_312_72 (List.Mem.head _) ?_
        refine V_aload (v := ad 90) mi_312_73 (List.Mem.head _) ?_
        refine V_iload (v := Int32.ofInt s) mi_312_74 (List.Mem.tail _ (List.Mem.head _)) ?_
        refine V_iload (v := Int32.ofInt (2 * j)) mi_312_75 (List.Mem.tail _ (List.Mem.tail _ (List.Mem.head _))) ?_
        refine V_ipush mi_312_76 ?_
        refine V_ibin mi_312_77 (by omega) ?_
        rw [show ibF 0 (Int32.ofInt (2 * (j : Int))) (Int32.ofInt 1) = Int32.ofInt (2 * (j : Int) + 1) by show Int32.ofInt _ + Int32.ofInt 1 = _; rw [← Int32.ofInt_add]]
        refine V_virt (As := [.int (Int32.ofInt s), .int (Int32.ofInt (2 * j + 1))]) (st := [.ref (ad 90)]) mi_312_78 (by omega) (num_ct hG h0 h3 (i := 2 * j + 1) (by omega) (by omega)) (by omega) (show 2 = mN 300 by decide +kernel) e1 hcl (by simp [Value.category]) ⟨Nat.le_refl _, Nat.le_refl _⟩ ?_
        rintro r3 w3 ⟨rfl, y, y1, y2, rfl, -⟩
        obtain ⟨T2, N2, hcl2⟩ := ci_at (y := 203) (by omega) (by decide +kernel) (by decide +kernel)
        have hcl2 : vwCl[11]? = some ((mY 203).cls, T2, N2) := by rw [← show mCi 203 = 11 by decide +kernel]; exact hcl2
        obtain ⟨d', k1, k2⟩ := k_of hAD (l := l) (tys := tys) (A := A) vSyl [.ref (ad 90), .long (Int64.ofInt y)] w3 ⟨rfl, ⟨y, rfl, y1, y2⟩, trivial⟩ hG (fun q hq => by cases hq)
        refine V_virt (As := [.long (Int64.ofInt y)]) (st := []) mi_312_81 (by omega) k2 (by omega) (show 1 = mN 203 by decide +kernel) e1 hcl2 (by simp) ⟨Nat.le_refl _, Nat.le_refl _⟩ ?_
        rintro r4 w4 ⟨p1, p2, p3, -⟩
        have hF4 : FRm [] w0 w4 := FRm_tr hF p2 (fun x hx => hx)
        cases r4 with
        | none => exact p3.elim
        | some v4 =>
          obtain ⟨z4, rfl, -, -⟩ := p3
          refine V_if mi_312_84 (fun _ => ?_) (fun _ => no _ _ p1 hF4)
          refine V_iinc (v := Int32.ofInt (2 * j)) mi_312_90 (List.Mem.tail _ (List.Mem.tail _ (List.Mem.head _))) ?_
          refine V_goto mi_312_93 ?_
          refine V_sub (lv' := [(0, .ref (ad 90)), (1, .int (Int32.ofInt s)), (2, .int (Int32.ofInt (2 * ((j + 1 : Nat) : Int))))]) (fun q hq => ?_) (ask_loop hAD h0 h3 hm m0 m1 me n (j + 1) w4 (by omega) (by omega) (fun j' hj' => ?_) p1 hF4)
          · simp only [List.mem_cons, List.not_mem_nil, or_false] at hq
            rcases hq with h | h | h
            · simp [h, stL, Value.category]
            · simp [h, stL, Value.category]
            · rw [h, show (2 * ((j + 1 : Nat) : Int)) = 2 * (j : Int) + 2 by omega, Int32.ofInt_add]
              exact List.mem_cons_self
          · by_cases hj : j' = j
            · rw [hj]
              refine ⟨z, ?_, q1, q2⟩
              rw [← hF.1 109 (by simp)]
              exact hz
            · exact hP j' (by omega)
      · exact V_if mi_312_69 (fun _ => no _ _ hG hF) (fun h => absurd (show (0 : Int32) = 0 from rfl) h)
theorem ask_ct (hAD : ∀ i : Nat, ad (1000 + i) = D.2 1000 i) {w0 : va_W} {s : Int} (h0 : 0 ≤ s) (h3 : s ≤ 3) (hG : GOK ad tys GG w0) : CT l D tys A 312 3 0 0 [.ref (ad 90), .int (Int32.ofInt s)] w0 (POA ad tys s w0) := by
  refine CT_of_V (by omega) (show (2 : Nat) ≤ mML 312 by decide +kernel) ?_
  have no : ∀ (w : va_W) (lv : List (Nat × Value)), GOK ad tys GG w → FRm [] w0 w → V l D tys A 312 3 0 0 (POA ad tys s w0) 0 0 14 lv [] w := fun w lv k1 k2 => V_ipush mi_312_14 (V_retI mi_312_16 (fun h => absurd h (by decide +kernel)) ⟨-2, rfl, Or.inr (Or.inl rfl), k1, k2⟩)
  refine V_iload (v := Int32.ofInt s) mi_312_0 (List.Mem.tail _ (List.Mem.head _)) ?_
  obtain ⟨d1, a1, a2⟩ := k_of hAD (l := l) (tys := tys) (A := A) vSlot [.int (Int32.ofInt s)] w0 ⟨⟨s, rfl, by show (-2147483648 : Int) ≤ s; omega, by show s ≤ (2147483647 : Int); omega⟩, trivial⟩ hG (fun q hq => by cases hq)
  refine V_stat (As := [.int (Int32.ofInt s)]) (st := []) mi_312_1 (by omega) a2 (by omega) (show 1 = mN 336 by decide +kernel) (by simp) ⟨Nat.le_refl _, Nat.le_refl _⟩ ?_
  rintro r1 w1 ⟨p1, p2, p3, -⟩
  cases r1 with
  | none => exact p3.elim
  | some v1 =>
  obtain ⟨z1, rfl, -, -⟩ := p3
  refine V_if mi_312_4 (fun _ => no _ _ p1 p2) (fun _ => ?_)
  refine V_aload (v := ad 90) mi_312_7 (List.Mem.head _) ?_
  obtain ⟨fs1, o1, -, -⟩ := obj_of p1
  obtain ⟨T2, N2, hcl2⟩ := ci_at (y := 198) (by omega) (by decide +kernel) (by decide +kernel)
  have hcl2 : vwCl[11]? = some ((mY 198).cls, T2, N2) := by rw [← show mCi 198 = 11 by decide +kernel]; exact hcl2
  obtain ⟨d2, b1, b2⟩ := k_of hAD (l := l) (tys := tys) (A := A) vHill [.ref (ad 90)] w1 ⟨rfl, trivial⟩ p1 (fun q hq => by cases hq)
  refine V_virt (As := []) (st := []) mi_312_8 (by omega) b2 (by omega) (show 0 = mN 198 by decide +kernel) o1 hcl2 (by simp) ⟨Nat.le_refl _, Nat.le_refl _⟩ ?_
  rintro r2 w2 ⟨q1, q2, q3, -⟩
  have hF2 : FRm [] w0 w2 := FRm_tr p2 q2 (fun x hx => hx)
  cases r2 with
  | none => exact q3.elim
  | some v2 =>
  obtain ⟨z2, rfl, -, -⟩ := q3
  refine V_if mi_312_11 (fun _ => ?_) (fun _ => no _ _ q1 hF2)
  obtain ⟨fs, e1, e2, -⟩ := obj_of q1
  obtain ⟨cA, f, m, f1, f2, f3, f4, f5, f6⟩ := many_of q1 h0 h3
  obtain ⟨s1, s2⟩ := idx_ok (z := s) (n := 4) (by omega) (by omega) (by omega)
  have hm : rd w0 107 s.toNat = some (.int (Int32.ofInt m)) := by rw [← hF2.1 107 (by simp)]; exact f4
  refine V_aload (v := ad 90) mi_312_17 (List.Mem.head _) ?_
  refine V_get mi_312_18 e1 e2 ?_
  refine V_iload (v := Int32.ofInt s) mi_312_21 (List.Mem.tail _ (List.Mem.head _)) ?_
  refine V_iald mi_312_22 f1 f2 s1 ?_
  rw [s2, f3]
  refine V_ipush mi_312_23 ?_
  have hc := cdP_iff (x := 1) (a := m) (b := -1) (by omega) (by omega) (by omega) (by omega)
  refine V_icmp mi_312_24 (fun hne => ?_) (fun _ => V_ipush mi_312_27 (V_retI mi_312_29 (fun h => absurd h (by decide +kernel)) ⟨-6, rfl, Or.inl rfl, q1, hF2⟩))
  have hne : ¬ (m - -1 = 0) := hc.mp hne
  refine V_aload (v := ad 90) mi_312_30 (List.Mem.head _) ?_
  refine V_get mi_312_31 e1 e2 ?_
  refine V_iload (v := Int32.ofInt s) mi_312_34 (List.Mem.tail _ (List.Mem.head _)) ?_
  refine V_iald mi_312_35 f1 f2 s1 ?_
  rw [s2, f3]
  refine V_ipush mi_312_36 ?_
  refine V_ibin mi_312_37 (fun _ => by decide) ?_
  refine V_if mi_312_38 (fun he => ?_) (fun _ => V_ipush mi_312_41 (V_retI mi_312_43 (fun h => absurd h (by decide +kernel)) ⟨-2, rfl, Or.inr (Or.inl rfl), q1, hF2⟩))
  have ev := List.all_eq_true.mp even_all m.toNat (List.mem_range.mpr (by omega))
  rw [Int.toNat_of_nonneg (by omega), Bool.or_eq_true, decide_eq_true_eq, Bool.not_eq_true', decide_eq_false_iff_not] at ev
  have hev : m % 2 = 0 := ev.resolve_right (fun q => q he)
  refine V_ipush mi_312_44 ?_
  refine V_istore mi_312_45 ?_
  refine V_sub (lv' := [(0, .ref (ad 90)), (1, .int (Int32.ofInt s)), (2, .int (Int32.ofInt (2 * ((0 : Nat) : Int))))]) (fun q hq => ?_) (ask_loop hAD h0 h3 (h := m / 2) hm (by omega) f6 (by omega) 100 0 w2 (by omega) (by omega) (fun j' hj' => by omega) q1 hF2)
  simp only [List.mem_cons, List.not_mem_nil, or_false] at hq
  rcases hq with h | h | h <;> simp [h, stL, lv_args, Value.category]
noncomputable def POI (ad : Nat → Nat) (tys : List (ClassId × FieldType)) (w0 : va_W) : Option Value → va_W → Prop := fun r w => ∃ z : Int, r = some (.int (Int32.ofInt z)) ∧ 0 ≤ z ∧ z ≤ 1 ∧ GOK ad tys GG w ∧ FRm [] w0 w
theorem isg_loop (hAD : ∀ i : Nat, ad (1000 + i) = D.2 1000 i) {w0 : va_W} {s f : Int} (h0 : 0 ≤ s) (h3 : s ≤ 3) (f0 : 0 ≤ f) (f5 : f ≤ 5) (hP : PG s w0) : ∀ (n j : Nat) (w : va_W) (lv0 : List (Nat × Value)), 60 < 2 * j + n → 2 * (j : Int) ≤ 70 → GOK ad tys GG w → FRm [] w0 w → V l D tys A 313 3 0 0 (POI ad tys w0) 0 0 2 [(0, .ref (ad 90)), (1, .int (Int32.ofInt s)), (2, .int (Int32.ofInt f)), (3, .int (Int32.ofInt (2 * j)))] [] w
  | n, j, w, lv0, g1, g2, hG, hF => by
    obtain ⟨m, hm, m0, m1, ⟨h, me⟩, hz⟩ := hP
    obtain ⟨fs, e1, e2, e3⟩ := obj_of hG
    obtain ⟨cA, ff, m', k1, k2, k3, k4, -, -⟩ := many_of hG h0 h3
    have em : Int32.ofInt m' = Int32.ofInt m := by
      rw [hF.1 107 (by simp), hm] at k4
      exact (Value.int.inj (Option.some.inj k4)).symm
    obtain ⟨s1, s2⟩ := idx_ok (z := s) (n := 4) (by omega) (by omega) (by omega)
    · refine V_iload (v := Int32.ofInt (2 * j)) mi_313_2 (List.Mem.tail _ (List.Mem.tail _ (List.Mem.tail _ (List.Mem.head _)))) ?_
      refine V_aload (v := ad 90) mi_313_3 (List.Mem.head _) ?_
      refine V_get mi_313_4 e1 e2 ?_
      refine V_iload (v := Int32.ofInt s) mi_313_7 (List.Mem.tail _ (List.Mem.head _)) ?_
      refine V_iald mi_313_8 k1 k2 s1 ?_
      rw [s2, k3, em]
      have hc := cdP_iff (x := 3) (a := 2 * (j : Int)) (b := m) (by omega) (by omega) (by omega) (by omega)
      refine V_icmp mi_313_9 (fun hge => ?_) (fun hlt => ?_)
      · refine V_ipush mi_313_59 ?_
        exact V_retI mi_313_60 (fun _ => by decide) ⟨1, rfl, by omega, by omega, hG, hF⟩
      · have hlt : ¬ (0 ≤ 2 * (j : Int) - m) := fun q => hlt (hc.mpr q)
        have no : ∀ (w : va_W) (lv : List (Nat × Value)), GOK ad tys GG w → FRm [] w0 w → V l D tys A 313 3 0 0 (POI ad tys w0) 0 0 51 lv [] w := fun w lv q1 q2 => V_ipush mi_313_51 (V_retI mi_313_52 (fun _ => by decide) ⟨0, rfl, by omega, by omega, q1, q2⟩)
        obtain ⟨z, zr, z0, z5⟩ := hz j (by omega)
        refine V_aload (v := ad 90) mi_313_12 (List.Mem.head _) ?_
        refine V_iload (v := Int32.ofInt s) mi_313_13 (List.Mem.tail _ (List.Mem.head _)) ?_
        refine V_iload (v := Int32.ofInt (2 * j)) mi_313_14 (List.Mem.tail _ (List.Mem.tail _ (List.Mem.tail _ (List.Mem.head _)))) ?_
        obtain ⟨T, N, hcl⟩ := ci_at (y := 300) (by omega) (by decide +kernel) (by decide +kernel)
        have hcl : vwCl[11]? = some ((mY 300).cls, T, N) := by rw [← show mCi 300 = 11 by decide +kernel]; exact hcl
        refine V_virt (As := [.int (Int32.ofInt s), .int (Int32.ofInt (2 * j))]) (st := []) mi_313_15 (by omega) (num_ct hG h0 h3 (i := 2 * j) (by omega) (by omega)) (by omega) (show 2 = mN 300 by decide +kernel) e1 hcl (by simp) ⟨Nat.le_refl _, Nat.le_refl _⟩ ?_
        rintro r1 w1 ⟨rfl, zz, zz1, zz2, rfl, hzz⟩
        have ez : Int64.ofInt zz = Int64.ofInt z := by
          rw [hF.1 109 (by simp), zr] at hzz
          exact (Value.long.inj (Option.some.inj hzz)).symm
        rw [ez]
        refine V_l2i mi_313_18 ?_
        rw [Int64.toInt32_ofInt]
        refine V_istore mi_313_19 ?_
        refine V_sub (lv' := [(0, .ref (ad 90)), (1, .int (Int32.ofInt s)), (2, .int (Int32.ofInt f)), (3, .int (Int32.ofInt (2 * j))), (4, .int (Int32.ofInt z))]) (fun q hq => ?_) ?_
        · simp only [List.mem_cons, List.not_mem_nil, or_false] at hq
          rcases hq with h | h | h | h | h <;> simp [h, stL, Value.category]
        refine V_iload (v := Int32.ofInt z) mi_313_21 (List.Mem.tail _ (List.Mem.tail _ (List.Mem.tail _ (List.Mem.tail _ (List.Mem.head _))))) ?_
        refine V_aload (v := ad 90) mi_313_23 (List.Mem.head _) ?_
        refine V_iload (v := Int32.ofInt f) mi_313_24 (List.Mem.tail _ (List.Mem.tail _ (List.Mem.head _))) ?_
        obtain ⟨T2, N2, hcl2⟩ := ci_at (y := 204) (by omega) (by decide +kernel) (by decide +kernel)
        have hcl2 : vwCl[11]? = some ((mY 204).cls, T2, N2) := by rw [← show mCi 204 = 11 by decide +kernel]; exact hcl2
        obtain ⟨d', a1, a2⟩ := k_of hAD (l := l) (tys := tys) (A := A) vLen [.ref (ad 90), .int (Int32.ofInt f)] w1 ⟨rfl, ⟨f, rfl, f0, f5⟩, trivial⟩ hG (fun q hq => by cases hq)
        refine V_virt (As := [.int (Int32.ofInt f)]) (st := [.int (Int32.ofInt z)]) mi_313_25 (by omega) a2 (by omega) (show 1 = mN 204 by decide +kernel) e1 hcl2 (by simp [Value.category]) ⟨Nat.le_refl _, Nat.le_refl _⟩ ?_
        rintro r2 w2 ⟨p1, p2, p3, -⟩
        have hF2 : FRm [] w0 w2 := FRm_tr hF p2 (fun x hx => hx)
        cases r2 with
        | none => exact p3.elim
        | some v2 =>
        obtain ⟨z2, rfl, -, -⟩ := p3
        refine V_icmp mi_313_28 (fun _ => no _ _ p1 hF2) (fun _ => ?_)
        obtain ⟨fs2, o1, -, -⟩ := obj_of p1
        refine V_aload (v := ad 90) mi_313_31 (List.Mem.head _) ?_
        refine V_iload (v := Int32.ofInt f) mi_313_32 (List.Mem.tail _ (List.Mem.tail _ (List.Mem.head _))) ?_
        refine V_iload (v := Int32.ofInt z) mi_313_33 (List.Mem.tail _ (List.Mem.tail _ (List.Mem.tail _ (List.Mem.tail _ (List.Mem.head _))))) ?_
        obtain ⟨T3, N3, hcl3⟩ := ci_at (y := 205) (by omega) (by decide +kernel) (by decide +kernel)
        have hcl3 : vwCl[11]? = some ((mY 205).cls, T3, N3) := by rw [← show mCi 205 = 11 by decide +kernel]; exact hcl3
        obtain ⟨d3, b1, b2⟩ := k_of hAD (l := l) (tys := tys) (A := A) vSbl [.ref (ad 90), .int (Int32.ofInt f), .int (Int32.ofInt z)] w2 ⟨rfl, ⟨f, rfl, f0, f5⟩, ⟨z, rfl, z0, z5⟩, trivial⟩ p1 (fun q hq => by cases hq)
        refine V_virt (As := [.int (Int32.ofInt f), .int (Int32.ofInt z)]) (st := []) mi_313_35 (by omega) b2 (by omega) (show 2 = mN 205 by decide +kernel) o1 hcl3 (by simp) ⟨Nat.le_refl _, Nat.le_refl _⟩ ?_
        rintro r3 w3 ⟨c1, c2, c3, -⟩
        have hF3 : FRm [] w0 w3 := FRm_tr hF2 c2 (fun x hx => hx)
        cases r3 with
        | none => exact c3.elim
        | some v3 =>
        obtain ⟨z3, rfl, -, -⟩ := c3
        obtain ⟨fs3, x1, -, -⟩ := obj_of c1
        refine V_i2l mi_313_38 ?_
        refine V_aload (v := ad 90) mi_313_39 (List.Mem.head _) ?_
        refine V_iload (v := Int32.ofInt s) mi_313_40 (List.Mem.tail _ (List.Mem.head _)) ?_
        refine V_iload (v := Int32.ofInt (2 * j)) mi_313_41 (List.Mem.tail _ (List.Mem.tail _ (List.Mem.tail _ (List.Mem.head _)))) ?_
        refine V_ipush mi_313_42 ?_
        refine V_ibin mi_313_43 (by omega) ?_
        rw [show ibF 0 (Int32.ofInt (2 * (j : Int))) (Int32.ofInt 1) = Int32.ofInt (2 * (j : Int) + 1) by show Int32.ofInt _ + Int32.ofInt 1 = _; rw [← Int32.ofInt_add]]
        refine V_virt (As := [.int (Int32.ofInt s), .int (Int32.ofInt (2 * j + 1))]) (st := [.long (Int32.ofInt z3).toInt64]) mi_313_44 (by omega) (num_ct c1 h0 h3 (i := 2 * j + 1) (by omega) (by omega)) (by omega) (show 2 = mN 300 by decide +kernel) x1 hcl (by simp [Value.category]) ⟨Nat.le_refl _, Nat.le_refl _⟩ ?_
        rintro r4 w4 ⟨rfl, y, y1, y2, rfl, -⟩
        refine V_lcmp mi_313_47 ?_
        refine V_if mi_313_48 (fun _ => ?_) (fun _ => no _ _ c1 hF3)
        refine V_iinc (v := Int32.ofInt (2 * j)) mi_313_53 (List.Mem.tail _ (List.Mem.tail _ (List.Mem.tail _ (List.Mem.head _)))) ?_
        refine V_goto mi_313_56 ?_
        cases n with
        | zero => exact absurd g1 (by omega)
        | succ n =>
          refine V_sub (lv' := [(0, .ref (ad 90)), (1, .int (Int32.ofInt s)), (2, .int (Int32.ofInt f)), (3, .int (Int32.ofInt (2 * ((j + 1 : Nat) : Int))))]) (fun q hq => ?_) (isg_loop hAD h0 h3 f0 f5 ⟨m, hm, m0, m1, ⟨h, me⟩, hz⟩ n (j + 1) w4 [] (by omega) (by omega) c1 hF3)
          simp only [List.mem_cons, List.not_mem_nil, or_false] at hq
          rcases hq with h | h | h | h
          · simp [h, stL, Value.category]
          · simp [h, stL, Value.category]
          · simp [h, stL, Value.category]
          · rw [h, show (2 * ((j + 1 : Nat) : Int)) = 2 * (j : Int) + 2 by omega, Int32.ofInt_add]
            exact List.mem_cons_self
theorem isg_ct (hAD : ∀ i : Nat, ad (1000 + i) = D.2 1000 i) {w0 : va_W} {s f : Int} (h0 : 0 ≤ s) (h3 : s ≤ 3) (f0 : 0 ≤ f) (f5 : f ≤ 5) (hP : PG s w0) (hG : GOK ad tys GG w0) : CT l D tys A 313 3 0 0 [.ref (ad 90), .int (Int32.ofInt s), .int (Int32.ofInt f)] w0 (POI ad tys w0) := by
  refine CT_of_V (by omega) (show (3 : Nat) ≤ mML 313 by decide +kernel) ?_
  refine V_ipush mi_313_0 ?_
  refine V_istore mi_313_1 ?_
  refine V_sub (fun q hq => ?_) (isg_loop hAD h0 h3 f0 f5 hP 100 0 w0 [] (by omega) (by omega) hG FRm_rf)
  simp only [List.mem_cons, List.not_mem_nil, or_false] at hq
  rcases hq with h | h | h | h <;> simp [h, stL, lv_args, Value.category]
noncomputable def cA (s : Int) : CR := (312, [(2, 90, 90), (0, s, s)], [], some (0, -6, 0), [], [])
noncomputable def cN (s : Int) : CR := (312, [(2, 90, 90), (0, s, s)], [], some (0, -6, -1), [], [])
noncomputable def cI (s : Int) : CR := (313, [(2, 90, 90), (0, s, s), (0, 0, 5)], [], some (0, 0, 1), [], [])
theorem tA (hAD : ∀ i : Nat, ad (1000 + i) = D.2 1000 i) {s : Int} (h0 : 0 ≤ s) (h3 : s ≤ 3) {w0 : va_W} : ∀ (vs : List Value) (ws : va_W), okvs ad (cA s).2.1 vs → GOK ad tys GG ws → preOK ad (cA s).2.2.1 ws → FRm [] w0 ws → ∃ d', d' < 4 ∧ CT l D tys A (cA s).1 d' 0 0 vs ws (CRpost ad tys GG (cA s) ws) := by
  intro vs ws hv hG _ _
  obtain ⟨a, b, rfl, ha, ⟨z, rfl, z1, z2⟩⟩ := okvs_two hv
  have ha : a = .ref (ad 90) := ha
  subst ha
  have z1 : s ≤ z := z1
  have z2 : z ≤ s := z2
  have ez : z = s := by omega
  subst ez
  refine ⟨3, by omega, CT_post (ask_ct hAD h0 h3 hG) ?_⟩
  rintro r w ⟨y, rfl, hy, g1, g2⟩
  refine ⟨g1, g2, ⟨y, rfl, ?_, ?_⟩, fun q hq => by cases hq⟩
  · show (-6 : Int) ≤ y
    rcases hy with h | h | ⟨h, -⟩ <;> omega
  · show y ≤ (0 : Int)
    rcases hy with h | h | ⟨h, -⟩ <;> omega
theorem tN (hAD : ∀ i : Nat, ad (1000 + i) = D.2 1000 i) {s : Int} (h0 : 0 ≤ s) (h3 : s ≤ 3) {w0 : va_W} (hN : ¬ PG s w0) : ∀ (vs : List Value) (ws : va_W), okvs ad (cN s).2.1 vs → GOK ad tys GG ws → preOK ad (cN s).2.2.1 ws → FRm [] w0 ws → ∃ d', d' < 4 ∧ CT l D tys A (cN s).1 d' 0 0 vs ws (CRpost ad tys GG (cN s) ws) := by
  intro vs ws hv hG _ hF
  obtain ⟨a, b, rfl, ha, ⟨z, rfl, z1, z2⟩⟩ := okvs_two hv
  have ha : a = .ref (ad 90) := ha
  subst ha
  have z1 : s ≤ z := z1
  have z2 : z ≤ s := z2
  have ez : z = s := by omega
  subst ez
  refine ⟨3, by omega, CT_post (ask_ct hAD h0 h3 hG) ?_⟩
  rintro r w ⟨y, rfl, hy, g1, g2⟩
  have hy : y = -6 ∨ y = -2 := by
    rcases hy with h | h | ⟨-, h⟩
    · exact Or.inl h
    · exact Or.inr h
    · exact absurd ((PG_keep hF).mp h) hN
  refine ⟨g1, g2, ⟨y, rfl, ?_, ?_⟩, fun q hq => by cases hq⟩
  · show (-6 : Int) ≤ y
    omega
  · show y ≤ (-1 : Int)
    omega
theorem tI (hAD : ∀ i : Nat, ad (1000 + i) = D.2 1000 i) {s : Int} (h0 : 0 ≤ s) (h3 : s ≤ 3) {w0 : va_W} (hP : PG s w0) : ∀ (vs : List Value) (ws : va_W), okvs ad (cI s).2.1 vs → GOK ad tys GG ws → preOK ad (cI s).2.2.1 ws → FRm [] w0 ws → ∃ d', d' < 4 ∧ CT l D tys A (cI s).1 d' 0 0 vs ws (CRpost ad tys GG (cI s) ws) := by
  intro vs ws hv hG _ hF
  obtain ⟨a, b, c, rfl, ha, ⟨z, rfl, z1, z2⟩, ⟨f, rfl, f1, f2⟩⟩ := okvs_three hv
  have ha : a = .ref (ad 90) := ha
  subst ha
  have z1 : s ≤ z := z1
  have z2 : z ≤ s := z2
  have ez : z = s := by omega
  subst ez
  refine ⟨3, by omega, CT_post (isg_ct hAD h0 h3 f1 f2 ((PG_keep hF).mpr hP) hG) ?_⟩
  rintro r w ⟨y, rfl, y1, y2, g1, g2⟩
  exact ⟨g1, g2, ⟨y, rfl, y1, y2⟩, fun q hq => by cases hq⟩
end ASK
