noncomputable def g481 : CR := (320, [(2, 90, 90), (0, 0, 6), (0, 4, 4), (0, 6, 6)], [], some (0, 1, 210), [], [106])
theorem r481 {l : Launch} {D : va_G} {tys : List (ClassId × FieldType)} {A : Nat → Prop} {ad : Nat → Nat} (hAD : ∀ i : Nat, ad (1000 + i) = D.2 1000 i) : CRok l D tys A ad GG 2 g481 := zqlv (b := 4) (C := 210) (by omega) (by decide +kernel)
noncomputable def g482 : CR := (320, [(2, 90, 90), (0, 0, 6), (0, 5, 5), (0, 6, 6)], [], some (0, 1, 462), [], [106])
theorem r482 {l : Launch} {D : va_G} {tys : List (ClassId × FieldType)} {A : Nat → Prop} {ad : Nat → Nat} (hAD : ∀ i : Nat, ad (1000 + i) = D.2 1000 i) : CRok l D tys A ad GG 2 g482 := zqlv (b := 5) (C := 462) (by omega) (by decide +kernel)
noncomputable def g483 : CR := (320, [(2, 90, 90), (0, 0, 6), (0, 6, 6), (0, 6, 6)], [], some (0, 1, 924), [], [106])
theorem r483 {l : Launch} {D : va_G} {tys : List (ClassId × FieldType)} {A : Nat → Prop} {ad : Nat → Nat} (hAD : ∀ i : Nat, ad (1000 + i) = D.2 1000 i) : CRok l D tys A ad GG 2 g483 := zqlv (b := 6) (C := 924) (by omega) (by decide +kernel)
noncomputable def g484 : CR := (321, [(2, 90, 90), (0, (-2147483648), 2147483647), (0, (-2147483648), 2147483647), (0, (-2147483648), 2147483647)], [], some (0, (-2147483648), 2147483647), [], [106])
theorem w484 : vrf GG [(2, g476), (2, g478), (2, g479), (2, g480), (2, g481), (2, g482), (2, g483), (2, g477)] [] 300 3 g484
  [] = true := by decide +kernel
theorem r484 {l : Launch} {D : va_G} {tys : List (ClassId × FieldType)} {A : Nat → Prop} {ad : Nat → Nat} (hAD : ∀ i : Nat, ad (1000 + i) = D.2 1000 i) : CRok l D tys A ad GG 4 g484 := CR_of_vrf (dep := 3) hAD (List.forall_mem_cons.mpr ⟨r476 hAD, List.forall_mem_cons.mpr ⟨r478 hAD, List.forall_mem_cons.mpr ⟨r479 hAD, List.forall_mem_cons.mpr ⟨r480 hAD, List.forall_mem_cons.mpr ⟨r481 hAD, List.forall_mem_cons.mpr ⟨r482 hAD, List.forall_mem_cons.mpr ⟨r483 hAD, List.forall_mem_cons.mpr ⟨r477 hAD, fun c hc => by cases hc⟩⟩⟩⟩⟩⟩⟩⟩) T2OK_nil w484
noncomputable def g485 : CR := (59, [(2, 0, 0), (0, (-2147483648), 2147483647), (0, (-2147483648), 2147483647)], [], some (0, (-2), 6), [], [52])
theorem w485 : vrf GG [(2, g474)] [] 300 2 g485
  [(14, [(0, 5), (0, 5), (0, 7), (1, 6)], [(0, rA 0), (1, iA (0, [(1, 0)])), (2, iA (0, [(1, 1)])), (3, iA (0, [(1, 2)]))], [], [((4, 4), iA (0, [(1, 3)]))], (914, [((-118), 2)]))] = true := by decide +kernel
theorem r485 {l : Launch} {D : va_G} {tys : List (ClassId × FieldType)} {A : Nat → Prop} {ad : Nat → Nat} (hAD : ∀ i : Nat, ad (1000 + i) = D.2 1000 i) : CRok l D tys A ad GG 3 g485 := CR_of_vrf (dep := 2) hAD (List.forall_mem_cons.mpr ⟨r474 hAD, fun c hc => by cases hc⟩) T2OK_nil w485
noncomputable def g486 : CR := (322, [(2, 90, 90), (0, (-2147483648), 2147483647), (0, (-2147483648), 2147483647)], [], some (0, (-2), 6), [], [106])
theorem w486 : vrf GG [(2, g476), (2, g478), (2, g479), (2, g480), (2, g481), (2, g482), (2, g483), (2, g477)] [] 300 3 g486
  [(14, [(0, 5), (0, 5), (0, 6), (1, 6)], [(0, rA 90), (1, iA (0, [(1, 0)])), (2, iA (0, [(1, 1)])), (3, iA (0, [(1, 2)]))], [], [((91, 3), iA (0, [(1, 3)]))], (558, [((-84), 2)]))] = true := by decide +kernel
theorem r486 {l : Launch} {D : va_G} {tys : List (ClassId × FieldType)} {A : Nat → Prop} {ad : Nat → Nat} (hAD : ∀ i : Nat, ad (1000 + i) = D.2 1000 i) : CRok l D tys A ad GG 4 g486 := CR_of_vrf (dep := 3) hAD (List.forall_mem_cons.mpr ⟨r476 hAD, List.forall_mem_cons.mpr ⟨r478 hAD, List.forall_mem_cons.mpr ⟨r479 hAD, List.forall_mem_cons.mpr ⟨r480 hAD, List.forall_mem_cons.mpr ⟨r481 hAD, List.forall_mem_cons.mpr ⟨r482 hAD, List.forall_mem_cons.mpr ⟨r483 hAD, List.forall_mem_cons.mpr ⟨r477 hAD, fun c hc => by cases hc⟩⟩⟩⟩⟩⟩⟩⟩) T2OK_nil w486
noncomputable def g487 : CR := (60, [(2, 0, 0), (0, (-2147483648), 0)], [], some (0, (-2), (-2)), [], [])
theorem w487 : vrf GG [] [] 300 1 g487
  [] = true := by decide +kernel
theorem r487 {l : Launch} {D : va_G} {tys : List (ClassId × FieldType)} {A : Nat → Prop} {ad : Nat → Nat} (hAD : ∀ i : Nat, ad (1000 + i) = D.2 1000 i) : CRok l D tys A ad GG 2 g487 := CR_of_vrf (dep := 1) hAD (fun c hc => by cases hc) T2OK_nil w487
noncomputable def g488 : CR := (60, [(2, 0, 0), (0, 7, 2147483647)], [], some (0, (-2), (-2)), [], [])
theorem w488 : vrf GG [] [] 300 1 g488
  [] = true := by decide +kernel
theorem r488 {l : Launch} {D : va_G} {tys : List (ClassId × FieldType)} {A : Nat → Prop} {ad : Nat → Nat} (hAD : ∀ i : Nat, ad (1000 + i) = D.2 1000 i) : CRok l D tys A ad GG 2 g488 := CR_of_vrf (dep := 1) hAD (fun c hc => by cases hc) T2OK_nil w488
noncomputable def g489 : CR := (126, [(2, 50, 50), (2, 4, 4), (0, 0, 5), (0, 0, 6)], [], some (0, 0, 1), [], [])
theorem w489 : vrf GG [] [] 300 2 g489
  [(3, [(0, 5), (0, 6), (0, 6)], [(0, rA 50), (1, rA 4), (2, iA (0, [(1, 0)])), (3, iA (0, [(1, 1)])), (4, iA (0, [(1, 2)]))], [], [], (552, [((-80), 2)]))] = true := by decide +kernel
theorem r489 {l : Launch} {D : va_G} {tys : List (ClassId × FieldType)} {A : Nat → Prop} {ad : Nat → Nat} (hAD : ∀ i : Nat, ad (1000 + i) = D.2 1000 i) : CRok l D tys A ad GG 3 g489 := CR_of_vrf (dep := 2) hAD (fun c hc => by cases hc) T2OK_nil w489
noncomputable def g490 : CR := (128, [(2, 4, 4), (0, 0, 5), (0, 0, 5), (0, 0, 6)], [], some (0, 0, 1), [], [])
theorem w490 : vrf GG [] [] 300 2 g490
  [(3, [(0, 5), (0, 5), (0, 6), (0, 6)], [(0, rA 4), (1, iA (0, [(1, 0)])), (2, iA (0, [(1, 1)])), (3, iA (0, [(1, 2)])), (4, iA (0, [(1, 3)]))], [], [], (524, [((-76), 3)]))] = true := by decide +kernel
theorem r490 {l : Launch} {D : va_G} {tys : List (ClassId × FieldType)} {A : Nat → Prop} {ad : Nat → Nat} (hAD : ∀ i : Nat, ad (1000 + i) = D.2 1000 i) : CRok l D tys A ad GG 3 g490 := CR_of_vrf (dep := 2) hAD (fun c hc => by cases hc) T2OK_nil w490
noncomputable def g491 : CR := (127, [(2, 4, 4), (0, 0, 5), (0, 1, 6)], [], some (0, 0, 1), [], [])
theorem w491 : vrf GG [(3, g490)] [] 300 3 g491
  [(13, [(0, 5), (1, 6), (0, 6), (0, 6)], [(0, rA 4), (1, iA (0, [(1, 0)])), (2, iA (0, [(1, 1)])), (3, iA (0, [(1, 2)])), (4, iA (0, [(1, 3)]))], [], [], (1288, [((-188), 3)])),
  (52, [(0, 5), (1, 6), (0, 6), (0, 5), (0, 6), (1, 6)], [(0, rA 4), (1, iA (0, [(1, 0)])), (2, iA (0, [(1, 1)])), (3, iA (0, [(1, 2)])), (4, iA (0, [(1, 3)])), (5, iA (0, [(1, 4)]))], [], [((4, 4), iA (0, [(1, 5)]))], (1249, [((-188), 3)])),
  (56, [(0, 5), (1, 6), (0, 6), (0, 5), (0, 6), (1, 6)], [(0, rA 4), (1, iA (0, [(1, 0)])), (2, iA (0, [(1, 1)])), (3, iA (0, [(1, 2)])), (4, iA (0, [(1, 3)])), (5, iA (0, [(1, 4)]))], [], [((4, 4), iA (0, [(1, 5)]))], (1245, [((-188), 3)])),
  (57, [(0, 5), (1, 6), (0, 6), (0, 5), (0, 6), (0, 1), (1, 6)], [(0, rA 4), (1, iA (0, [(1, 0)])), (2, iA (0, [(1, 1)])), (3, iA (0, [(1, 2)])), (4, iA (0, [(1, 3)])), (5, iA (0, [(1, 4)]))], [iA (0, [(1, 5)])], [((4, 4), iA (0, [(1, 6)]))], (1244, [((-188), 3)])),
  (84, [(0, 5), (1, 6), (0, 6), (0, 5), (0, 6), (0, 1), (1, 6)], [(0, rA 4), (1, iA (0, [(1, 0)])), (2, iA (0, [(1, 1)])), (3, iA (0, [(1, 2)])), (4, iA (0, [(1, 3)])), (5, iA (0, [(1, 4)])), (6, iA (0, [(1, 5)]))], [], [((4, 4), iA (0, [(1, 6)]))], (1217, [((-188), 3)]))] = true := by decide +kernel
theorem r491 {l : Launch} {D : va_G} {tys : List (ClassId × FieldType)} {A : Nat → Prop} {ad : Nat → Nat} (hAD : ∀ i : Nat, ad (1000 + i) = D.2 1000 i) : CRok l D tys A ad GG 4 g491 := CR_of_vrf (dep := 3) hAD (List.forall_mem_cons.mpr ⟨r490 hAD, fun c hc => by cases hc⟩) T2OK_nil w491
noncomputable def g492 : CR := (151, [(0, 0, 9), (0, 0, 0)], [], some (1, 1, 1), [], [])
theorem w492 : vrf GG [] [] 300 0 g492
  [(5, [(0, 9)], [(0, iA (0, [(1, 0)])), (1, iA (0, [])), (2, lA (1, [])), (4, iA (0, []))], [], [], (40, []))] = true := by decide +kernel
theorem r492 {l : Launch} {D : va_G} {tys : List (ClassId × FieldType)} {A : Nat → Prop} {ad : Nat → Nat} (hAD : ∀ i : Nat, ad (1000 + i) = D.2 1000 i) : CRok l D tys A ad GG 1 g492 := CR_of_vrf (dep := 0) hAD (fun c hc => by cases hc) T2OK_nil w492
noncomputable def g493 : CR := (151, [(0, 0, 9), (0, 1, 1)], [], some (1, (-9223372036854775808), 9223372036854775807), [], [])
theorem w493 : vrf GG [] [] 300 0 g493
  [(5, [(0, 9), ((-9223372036854775808), 9223372036854775807), (0, 1)], [(0, iA (0, [(1, 0)])), (1, iA (1, [])), (2, lA (0, [(1, 1)])), (4, iA (0, [(1, 2)]))], [], [], (92, [((-52), 2)]))] = true := by decide +kernel
theorem r493 {l : Launch} {D : va_G} {tys : List (ClassId × FieldType)} {A : Nat → Prop} {ad : Nat → Nat} (hAD : ∀ i : Nat, ad (1000 + i) = D.2 1000 i) : CRok l D tys A ad GG 1 g493 := CR_of_vrf (dep := 0) hAD (fun c hc => by cases hc) T2OK_nil w493
noncomputable def g494 : CR := (125, [(2, 50, 50), (2, 4, 4), (0, 1, 1), (0, 0, 0)], [], some (0, (-2147483648), 2147483647), [], [])
theorem w494 : vrf GG [(3, g489), (4, g491), (1, g492), (1, g493)] [] 300 4 g494
  [(15, [((-9223372036854775808), 9223372036854775807), (0, 6), (0, 9)], [(0, rA 50), (1, rA 4), (2, iA (1, [])), (3, iA (0, [])), (4, lA (0, [(1, 0)])), (6, iA (0, [(1, 1)]))], [], [((4, 1), iA (0, [(1, 2)]))], (1340, [((-196), 1)])),
  (86, [((-9223372036854775808), 9223372036854775807), (0, 5), (0, 1), (0, 9), (1, 6)], [(0, rA 50), (1, rA 4), (2, iA (1, [])), (3, iA (0, [])), (4, lA (0, [(1, 0)])), (6, iA (0, [(1, 1)])), (7, iA (0, [(1, 2)]))], [], [((4, 1), iA (0, [(1, 3)])), ((4, 4), iA (0, [(1, 4)]))], (1269, [((-196), 1)]))] = true := by decide +kernel
theorem r494 {l : Launch} {D : va_G} {tys : List (ClassId × FieldType)} {A : Nat → Prop} {ad : Nat → Nat} (hAD : ∀ i : Nat, ad (1000 + i) = D.2 1000 i) : CRok l D tys A ad GG 5 g494 := CR_of_vrf (dep := 4) hAD (List.forall_mem_cons.mpr ⟨r489 hAD, List.forall_mem_cons.mpr ⟨r491 hAD, List.forall_mem_cons.mpr ⟨r492 hAD, List.forall_mem_cons.mpr ⟨r493 hAD, fun c hc => by cases hc⟩⟩⟩⟩) T2OK_nil w494
noncomputable def g495 : CR := (60, [(2, 0, 0), (0, 1, 1)], [], some (0, (-2147483648), 2147483647), [], [])
theorem w495 : vrf GG [(5, g494)] [] 300 5 g495
  [] = true := by decide +kernel
theorem r495 {l : Launch} {D : va_G} {tys : List (ClassId × FieldType)} {A : Nat → Prop} {ad : Nat → Nat} (hAD : ∀ i : Nat, ad (1000 + i) = D.2 1000 i) : CRok l D tys A ad GG 6 g495 := CR_of_vrf (dep := 5) hAD (List.forall_mem_cons.mpr ⟨r494 hAD, fun c hc => by cases hc⟩) T2OK_nil w495
noncomputable def g496 : CR := (151, [(0, 0, 9), (0, 2, 2)], [], some (1, (-9223372036854775808), 9223372036854775807), [], [])
theorem w496 : vrf GG [] [] 300 0 g496
  [(5, [(0, 9), ((-9223372036854775808), 9223372036854775807), (0, 2)], [(0, iA (0, [(1, 0)])), (1, iA (2, [])), (2, lA (0, [(1, 1)])), (4, iA (0, [(1, 2)]))], [], [], (144, [((-52), 2)]))] = true := by decide +kernel
theorem r496 {l : Launch} {D : va_G} {tys : List (ClassId × FieldType)} {A : Nat → Prop} {ad : Nat → Nat} (hAD : ∀ i : Nat, ad (1000 + i) = D.2 1000 i) : CRok l D tys A ad GG 1 g496 := CR_of_vrf (dep := 0) hAD (fun c hc => by cases hc) T2OK_nil w496
noncomputable def g497 : CR := (125, [(2, 50, 50), (2, 4, 4), (0, 2, 2), (0, 0, 0)], [], some (0, (-2147483648), 2147483647), [], [])
theorem w497 : vrf GG [(3, g489), (4, g491), (1, g492), (1, g493), (1, g496)] [] 300 4 g497
  [(15, [((-9223372036854775808), 9223372036854775807), (0, 6), (0, 9)], [(0, rA 50), (1, rA 4), (2, iA (2, [])), (3, iA (0, [])), (4, lA (0, [(1, 0)])), (6, iA (0, [(1, 1)]))], [], [((4, 1), iA (0, [(1, 2)]))], (1340, [((-196), 1)])),
  (86, [((-9223372036854775808), 9223372036854775807), (0, 5), (0, 2), (0, 9), (1, 6)], [(0, rA 50), (1, rA 4), (2, iA (2, [])), (3, iA (0, [])), (4, lA (0, [(1, 0)])), (6, iA (0, [(1, 1)])), (7, iA (0, [(1, 2)]))], [], [((4, 1), iA (0, [(1, 3)])), ((4, 4), iA (0, [(1, 4)]))], (1269, [((-196), 1)]))] = true := by decide +kernel
theorem r497 {l : Launch} {D : va_G} {tys : List (ClassId × FieldType)} {A : Nat → Prop} {ad : Nat → Nat} (hAD : ∀ i : Nat, ad (1000 + i) = D.2 1000 i) : CRok l D tys A ad GG 5 g497 := CR_of_vrf (dep := 4) hAD (List.forall_mem_cons.mpr ⟨r489 hAD, List.forall_mem_cons.mpr ⟨r491 hAD, List.forall_mem_cons.mpr ⟨r492 hAD, List.forall_mem_cons.mpr ⟨r493 hAD, List.forall_mem_cons.mpr ⟨r496 hAD, fun c hc => by cases hc⟩⟩⟩⟩⟩) T2OK_nil w497
noncomputable def g498 : CR := (60, [(2, 0, 0), (0, 2, 2)], [], some (0, (-2147483648), 2147483647), [], [])
theorem w498 : vrf GG [(5, g497)] [] 300 5 g498
  [] = true := by decide +kernel
theorem r498 {l : Launch} {D : va_G} {tys : List (ClassId × FieldType)} {A : Nat → Prop} {ad : Nat → Nat} (hAD : ∀ i : Nat, ad (1000 + i) = D.2 1000 i) : CRok l D tys A ad GG 6 g498 := CR_of_vrf (dep := 5) hAD (List.forall_mem_cons.mpr ⟨r497 hAD, fun c hc => by cases hc⟩) T2OK_nil w498
noncomputable def g499 : CR := (151, [(0, 0, 9), (0, 1, 2)], [], some (1, (-9223372036854775808), 9223372036854775807), [], [])
theorem w499 : vrf GG [] [] 300 0 g499
  [(5, [(0, 9), (1, 2), ((-9223372036854775808), 9223372036854775807), (0, 2)], [(0, iA (0, [(1, 0)])), (1, iA (0, [(1, 1)])), (2, lA (0, [(1, 2)])), (4, iA (0, [(1, 3)]))], [], [], (144, [((-52), 3)]))] = true := by decide +kernel
theorem r499 {l : Launch} {D : va_G} {tys : List (ClassId × FieldType)} {A : Nat → Prop} {ad : Nat → Nat} (hAD : ∀ i : Nat, ad (1000 + i) = D.2 1000 i) : CRok l D tys A ad GG 1 g499 := CR_of_vrf (dep := 0) hAD (fun c hc => by cases hc) T2OK_nil w499
noncomputable def g500 : CR := (151, [(0, 0, 9), (0, 3, 3)], [], some (1, (-9223372036854775808), 9223372036854775807), [], [])
theorem w500 : vrf GG [] [] 300 0 g500
  [(5, [(0, 9), ((-9223372036854775808), 9223372036854775807), (0, 3)], [(0, iA (0, [(1, 0)])), (1, iA (3, [])), (2, lA (0, [(1, 1)])), (4, iA (0, [(1, 2)]))], [], [], (196, [((-52), 2)]))] = true := by decide +kernel
theorem r500 {l : Launch} {D : va_G} {tys : List (ClassId × FieldType)} {A : Nat → Prop} {ad : Nat → Nat} (hAD : ∀ i : Nat, ad (1000 + i) = D.2 1000 i) : CRok l D tys A ad GG 1 g500 := CR_of_vrf (dep := 0) hAD (fun c hc => by cases hc) T2OK_nil w500
noncomputable def g501 : CR := (125, [(2, 50, 50), (2, 4, 4), (0, 3, 3), (0, 0, 0)], [], some (0, (-2147483648), 2147483647), [], [])
theorem w501 : vrf GG [(3, g489), (4, g491), (1, g492), (1, g500), (1, g499)] [] 300 4 g501
  [(15, [((-9223372036854775808), 9223372036854775807), (0, 6), (0, 9)], [(0, rA 50), (1, rA 4), (2, iA (3, [])), (3, iA (0, [])), (4, lA (0, [(1, 0)])), (6, iA (0, [(1, 1)]))], [], [((4, 1), iA (0, [(1, 2)]))], (1340, [((-196), 1)])),
  (86, [((-9223372036854775808), 9223372036854775807), (0, 5), (0, 3), (0, 9), (1, 6)], [(0, rA 50), (1, rA 4), (2, iA (3, [])), (3, iA (0, [])), (4, lA (0, [(1, 0)])), (6, iA (0, [(1, 1)])), (7, iA (0, [(1, 2)]))], [], [((4, 1), iA (0, [(1, 3)])), ((4, 4), iA (0, [(1, 4)]))], (1269, [((-196), 1)]))] = true := by decide +kernel
theorem r501 {l : Launch} {D : va_G} {tys : List (ClassId × FieldType)} {A : Nat → Prop} {ad : Nat → Nat} (hAD : ∀ i : Nat, ad (1000 + i) = D.2 1000 i) : CRok l D tys A ad GG 5 g501 := CR_of_vrf (dep := 4) hAD (List.forall_mem_cons.mpr ⟨r489 hAD, List.forall_mem_cons.mpr ⟨r491 hAD, List.forall_mem_cons.mpr ⟨r492 hAD, List.forall_mem_cons.mpr ⟨r500 hAD, List.forall_mem_cons.mpr ⟨r499 hAD, fun c hc => by cases hc⟩⟩⟩⟩⟩) T2OK_nil w501
noncomputable def g502 : CR := (60, [(2, 0, 0), (0, 3, 3)], [], some (0, (-2147483648), 2147483647), [], [])
theorem w502 : vrf GG [(5, g501)] [] 300 5 g502
  [] = true := by decide +kernel
theorem r502 {l : Launch} {D : va_G} {tys : List (ClassId × FieldType)} {A : Nat → Prop} {ad : Nat → Nat} (hAD : ∀ i : Nat, ad (1000 + i) = D.2 1000 i) : CRok l D tys A ad GG 6 g502 := CR_of_vrf (dep := 5) hAD (List.forall_mem_cons.mpr ⟨r501 hAD, fun c hc => by cases hc⟩) T2OK_nil w502
noncomputable def g503 : CR := (151, [(0, 0, 9), (0, 1, 3)], [], some (1, (-9223372036854775808), 9223372036854775807), [], [])
theorem w503 : vrf GG [] [] 300 0 g503
  [(5, [(0, 9), (1, 3), ((-9223372036854775808), 9223372036854775807), (0, 3)], [(0, iA (0, [(1, 0)])), (1, iA (0, [(1, 1)])), (2, lA (0, [(1, 2)])), (4, iA (0, [(1, 3)]))], [], [], (196, [((-52), 3)]))] = true := by decide +kernel
theorem r503 {l : Launch} {D : va_G} {tys : List (ClassId × FieldType)} {A : Nat → Prop} {ad : Nat → Nat} (hAD : ∀ i : Nat, ad (1000 + i) = D.2 1000 i) : CRok l D tys A ad GG 1 g503 := CR_of_vrf (dep := 0) hAD (fun c hc => by cases hc) T2OK_nil w503
noncomputable def g504 : CR := (151, [(0, 0, 9), (0, 4, 4)], [], some (1, (-9223372036854775808), 9223372036854775807), [], [])
theorem w504 : vrf GG [] [] 300 0 g504
  [(5, [(0, 9), ((-9223372036854775808), 9223372036854775807), (0, 4)], [(0, iA (0, [(1, 0)])), (1, iA (4, [])), (2, lA (0, [(1, 1)])), (4, iA (0, [(1, 2)]))], [], [], (248, [((-52), 2)]))] = true := by decide +kernel
theorem r504 {l : Launch} {D : va_G} {tys : List (ClassId × FieldType)} {A : Nat → Prop} {ad : Nat → Nat} (hAD : ∀ i : Nat, ad (1000 + i) = D.2 1000 i) : CRok l D tys A ad GG 1 g504 := CR_of_vrf (dep := 0) hAD (fun c hc => by cases hc) T2OK_nil w504
noncomputable def g505 : CR := (125, [(2, 50, 50), (2, 4, 4), (0, 4, 4), (0, 0, 0)], [], some (0, (-2147483648), 2147483647), [], [])
theorem w505 : vrf GG [(3, g489), (4, g491), (1, g492), (1, g504), (1, g503)] [] 300 4 g505
  [(15, [((-9223372036854775808), 9223372036854775807), (0, 6), (0, 9)], [(0, rA 50), (1, rA 4), (2, iA (4, [])), (3, iA (0, [])), (4, lA (0, [(1, 0)])), (6, iA (0, [(1, 1)]))], [], [((4, 1), iA (0, [(1, 2)]))], (1340, [((-196), 1)])),
  (86, [((-9223372036854775808), 9223372036854775807), (0, 5), (0, 4), (0, 9), (1, 6)], [(0, rA 50), (1, rA 4), (2, iA (4, [])), (3, iA (0, [])), (4, lA (0, [(1, 0)])), (6, iA (0, [(1, 1)])), (7, iA (0, [(1, 2)]))], [], [((4, 1), iA (0, [(1, 3)])), ((4, 4), iA (0, [(1, 4)]))], (1269, [((-196), 1)]))] = true := by decide +kernel
theorem r505 {l : Launch} {D : va_G} {tys : List (ClassId × FieldType)} {A : Nat → Prop} {ad : Nat → Nat} (hAD : ∀ i : Nat, ad (1000 + i) = D.2 1000 i) : CRok l D tys A ad GG 5 g505 := CR_of_vrf (dep := 4) hAD (List.forall_mem_cons.mpr ⟨r489 hAD, List.forall_mem_cons.mpr ⟨r491 hAD, List.forall_mem_cons.mpr ⟨r492 hAD, List.forall_mem_cons.mpr ⟨r504 hAD, List.forall_mem_cons.mpr ⟨r503 hAD, fun c hc => by cases hc⟩⟩⟩⟩⟩) T2OK_nil w505
noncomputable def g506 : CR := (60, [(2, 0, 0), (0, 4, 4)], [], some (0, (-2147483648), 2147483647), [], [])
theorem w506 : vrf GG [(5, g505)] [] 300 5 g506
  [] = true := by decide +kernel
theorem r506 {l : Launch} {D : va_G} {tys : List (ClassId × FieldType)} {A : Nat → Prop} {ad : Nat → Nat} (hAD : ∀ i : Nat, ad (1000 + i) = D.2 1000 i) : CRok l D tys A ad GG 6 g506 := CR_of_vrf (dep := 5) hAD (List.forall_mem_cons.mpr ⟨r505 hAD, fun c hc => by cases hc⟩) T2OK_nil w506
noncomputable def g507 : CR := (151, [(0, 0, 9), (0, 1, 4)], [], some (1, (-9223372036854775808), 9223372036854775807), [], [])
theorem w507 : vrf GG [] [] 300 0 g507
  [(5, [(0, 9), (1, 4), ((-9223372036854775808), 9223372036854775807), (0, 4)], [(0, iA (0, [(1, 0)])), (1, iA (0, [(1, 1)])), (2, lA (0, [(1, 2)])), (4, iA (0, [(1, 3)]))], [], [], (248, [((-52), 3)]))] = true := by decide +kernel
theorem r507 {l : Launch} {D : va_G} {tys : List (ClassId × FieldType)} {A : Nat → Prop} {ad : Nat → Nat} (hAD : ∀ i : Nat, ad (1000 + i) = D.2 1000 i) : CRok l D tys A ad GG 1 g507 := CR_of_vrf (dep := 0) hAD (fun c hc => by cases hc) T2OK_nil w507
noncomputable def g508 : CR := (151, [(0, 0, 9), (0, 5, 5)], [], some (1, (-9223372036854775808), 9223372036854775807), [], [])
theorem w508 : vrf GG [] [] 300 0 g508
  [(5, [(0, 9), ((-9223372036854775808), 9223372036854775807), (0, 5)], [(0, iA (0, [(1, 0)])), (1, iA (5, [])), (2, lA (0, [(1, 1)])), (4, iA (0, [(1, 2)]))], [], [], (300, [((-52), 2)]))] = true := by decide +kernel
theorem r508 {l : Launch} {D : va_G} {tys : List (ClassId × FieldType)} {A : Nat → Prop} {ad : Nat → Nat} (hAD : ∀ i : Nat, ad (1000 + i) = D.2 1000 i) : CRok l D tys A ad GG 1 g508 := CR_of_vrf (dep := 0) hAD (fun c hc => by cases hc) T2OK_nil w508
noncomputable def g509 : CR := (125, [(2, 50, 50), (2, 4, 4), (0, 5, 5), (0, 0, 0)], [], some (0, (-2147483648), 2147483647), [], [])
theorem w509 : vrf GG [(3, g489), (4, g491), (1, g492), (1, g508), (1, g507)] [] 300 4 g509
  [(15, [((-9223372036854775808), 9223372036854775807), (0, 6), (0, 9)], [(0, rA 50), (1, rA 4), (2, iA (5, [])), (3, iA (0, [])), (4, lA (0, [(1, 0)])), (6, iA (0, [(1, 1)]))], [], [((4, 1), iA (0, [(1, 2)]))], (1340, [((-196), 1)])),
  (86, [((-9223372036854775808), 9223372036854775807), (0, 5), (0, 5), (0, 9), (1, 6)], [(0, rA 50), (1, rA 4), (2, iA (5, [])), (3, iA (0, [])), (4, lA (0, [(1, 0)])), (6, iA (0, [(1, 1)])), (7, iA (0, [(1, 2)]))], [], [((4, 1), iA (0, [(1, 3)])), ((4, 4), iA (0, [(1, 4)]))], (1269, [((-196), 1)]))] = true := by decide +kernel
theorem r509 {l : Launch} {D : va_G} {tys : List (ClassId × FieldType)} {A : Nat → Prop} {ad : Nat → Nat} (hAD : ∀ i : Nat, ad (1000 + i) = D.2 1000 i) : CRok l D tys A ad GG 5 g509 := CR_of_vrf (dep := 4) hAD (List.forall_mem_cons.mpr ⟨r489 hAD, List.forall_mem_cons.mpr ⟨r491 hAD, List.forall_mem_cons.mpr ⟨r492 hAD, List.forall_mem_cons.mpr ⟨r508 hAD, List.forall_mem_cons.mpr ⟨r507 hAD, fun c hc => by cases hc⟩⟩⟩⟩⟩) T2OK_nil w509
noncomputable def g510 : CR := (60, [(2, 0, 0), (0, 5, 5)], [], some (0, (-2147483648), 2147483647), [], [])
theorem w510 : vrf GG [(5, g509)] [] 300 5 g510
  [] = true := by decide +kernel
theorem r510 {l : Launch} {D : va_G} {tys : List (ClassId × FieldType)} {A : Nat → Prop} {ad : Nat → Nat} (hAD : ∀ i : Nat, ad (1000 + i) = D.2 1000 i) : CRok l D tys A ad GG 6 g510 := CR_of_vrf (dep := 5) hAD (List.forall_mem_cons.mpr ⟨r509 hAD, fun c hc => by cases hc⟩) T2OK_nil w510
noncomputable def g511 : CR := (151, [(0, 0, 9), (0, 1, 5)], [], some (1, (-9223372036854775808), 9223372036854775807), [], [])
theorem w511 : vrf GG [] [] 300 0 g511
  [(5, [(0, 9), (1, 5), ((-9223372036854775808), 9223372036854775807), (0, 5)], [(0, iA (0, [(1, 0)])), (1, iA (0, [(1, 1)])), (2, lA (0, [(1, 2)])), (4, iA (0, [(1, 3)]))], [], [], (300, [((-52), 3)]))] = true := by decide +kernel
theorem r511 {l : Launch} {D : va_G} {tys : List (ClassId × FieldType)} {A : Nat → Prop} {ad : Nat → Nat} (hAD : ∀ i : Nat, ad (1000 + i) = D.2 1000 i) : CRok l D tys A ad GG 1 g511 := CR_of_vrf (dep := 0) hAD (fun c hc => by cases hc) T2OK_nil w511
noncomputable def g512 : CR := (151, [(0, 0, 9), (0, 6, 6)], [], some (1, (-9223372036854775808), 9223372036854775807), [], [])
theorem w512 : vrf GG [] [] 300 0 g512
  [(5, [(0, 9), ((-9223372036854775808), 9223372036854775807), (0, 6)], [(0, iA (0, [(1, 0)])), (1, iA (6, [])), (2, lA (0, [(1, 1)])), (4, iA (0, [(1, 2)]))], [], [], (352, [((-52), 2)]))] = true := by decide +kernel
theorem r512 {l : Launch} {D : va_G} {tys : List (ClassId × FieldType)} {A : Nat → Prop} {ad : Nat → Nat} (hAD : ∀ i : Nat, ad (1000 + i) = D.2 1000 i) : CRok l D tys A ad GG 1 g512 := CR_of_vrf (dep := 0) hAD (fun c hc => by cases hc) T2OK_nil w512
noncomputable def g513 : CR := (125, [(2, 50, 50), (2, 4, 4), (0, 6, 6), (0, 0, 0)], [], some (0, (-2147483648), 2147483647), [], [])
theorem w513 : vrf GG [(3, g489), (4, g491), (1, g492), (1, g512), (1, g511)] [] 300 4 g513
  [(15, [((-9223372036854775808), 9223372036854775807), (0, 6), (0, 9)], [(0, rA 50), (1, rA 4), (2, iA (6, [])), (3, iA (0, [])), (4, lA (0, [(1, 0)])), (6, iA (0, [(1, 1)]))], [], [((4, 1), iA (0, [(1, 2)]))], (1340, [((-196), 1)])),
  (86, [((-9223372036854775808), 9223372036854775807), (0, 5), (0, 6), (0, 9), (1, 6)], [(0, rA 50), (1, rA 4), (2, iA (6, [])), (3, iA (0, [])), (4, lA (0, [(1, 0)])), (6, iA (0, [(1, 1)])), (7, iA (0, [(1, 2)]))], [], [((4, 1), iA (0, [(1, 3)])), ((4, 4), iA (0, [(1, 4)]))], (1269, [((-196), 1)]))] = true := by decide +kernel
theorem r513 {l : Launch} {D : va_G} {tys : List (ClassId × FieldType)} {A : Nat → Prop} {ad : Nat → Nat} (hAD : ∀ i : Nat, ad (1000 + i) = D.2 1000 i) : CRok l D tys A ad GG 5 g513 := CR_of_vrf (dep := 4) hAD (List.forall_mem_cons.mpr ⟨r489 hAD, List.forall_mem_cons.mpr ⟨r491 hAD, List.forall_mem_cons.mpr ⟨r492 hAD, List.forall_mem_cons.mpr ⟨r512 hAD, List.forall_mem_cons.mpr ⟨r511 hAD, fun c hc => by cases hc⟩⟩⟩⟩⟩) T2OK_nil w513
noncomputable def g514 : CR := (60, [(2, 0, 0), (0, 6, 6)], [], some (0, (-2147483648), 2147483647), [], [])
theorem w514 : vrf GG [(5, g513)] [] 300 5 g514
  [] = true := by decide +kernel
theorem r514 {l : Launch} {D : va_G} {tys : List (ClassId × FieldType)} {A : Nat → Prop} {ad : Nat → Nat} (hAD : ∀ i : Nat, ad (1000 + i) = D.2 1000 i) : CRok l D tys A ad GG 6 g514 := CR_of_vrf (dep := 5) hAD (List.forall_mem_cons.mpr ⟨r513 hAD, fun c hc => by cases hc⟩) T2OK_nil w514
noncomputable def g515 : CR := (325, [(2, 90, 90), (0, (-2147483648), 0)], [((91, 0), (0, 0, 0))], some (0, (-2), (-2)), [], [])
theorem w515 : vrf GG [] [] 300 1 g515
  [] = true := by decide +kernel
theorem r515 {l : Launch} {D : va_G} {tys : List (ClassId × FieldType)} {A : Nat → Prop} {ad : Nat → Nat} (hAD : ∀ i : Nat, ad (1000 + i) = D.2 1000 i) : CRok l D tys A ad GG 2 g515 := CR_of_vrf (dep := 1) hAD (fun c hc => by cases hc) T2OK_nil w515
noncomputable def g516 : CR := (325, [(2, 90, 90), (0, (-2147483648), 0)], [((91, 0), (0, 1, 9))], some (0, (-2), (-2)), [], [])
theorem w516 : vrf GG [] [] 300 1 g516
  [] = true := by decide +kernel
theorem r516 {l : Launch} {D : va_G} {tys : List (ClassId × FieldType)} {A : Nat → Prop} {ad : Nat → Nat} (hAD : ∀ i : Nat, ad (1000 + i) = D.2 1000 i) : CRok l D tys A ad GG 2 g516 := CR_of_vrf (dep := 1) hAD (fun c hc => by cases hc) T2OK_nil w516
noncomputable def g517 : CR := (325, [(2, 90, 90), (0, 7, 2147483647)], [((91, 0), (0, 0, 0))], some (0, (-2), (-2)), [], [])
theorem w517 : vrf GG [] [] 300 1 g517
  [] = true := by decide +kernel
theorem r517 {l : Launch} {D : va_G} {tys : List (ClassId × FieldType)} {A : Nat → Prop} {ad : Nat → Nat} (hAD : ∀ i : Nat, ad (1000 + i) = D.2 1000 i) : CRok l D tys A ad GG 2 g517 := CR_of_vrf (dep := 1) hAD (fun c hc => by cases hc) T2OK_nil w517
noncomputable def g518 : CR := (325, [(2, 90, 90), (0, 7, 2147483647)], [((91, 0), (0, 1, 9))], some (0, (-2), (-2)), [], [])
theorem w518 : vrf GG [] [] 300 1 g518
  [] = true := by decide +kernel
theorem r518 {l : Launch} {D : va_G} {tys : List (ClassId × FieldType)} {A : Nat → Prop} {ad : Nat → Nat} (hAD : ∀ i : Nat, ad (1000 + i) = D.2 1000 i) : CRok l D tys A ad GG 2 g518 := CR_of_vrf (dep := 1) hAD (fun c hc => by cases hc) T2OK_nil w518
noncomputable def g519 : CR := (325, [(2, 90, 90), (0, 1, 1)], [((91, 0), (0, 0, 0))], some (0, (-2), 0), [], [])
theorem w519 : vrf GG [(1, g352)] [] 300 1 g519
  [(26, [(1, 2147483647)], [(0, rA 90), (1, iA (1, [])), (2, iA (0, [])), (3, iA (0, []))], [], [((91, 0), iA (0, [])), ((91, 5), iA (0, [(1, 0)]))], (78, []))] = true := by decide +kernel
theorem r519 {l : Launch} {D : va_G} {tys : List (ClassId × FieldType)} {A : Nat → Prop} {ad : Nat → Nat} (hAD : ∀ i : Nat, ad (1000 + i) = D.2 1000 i) : CRok l D tys A ad GG 2 g519 := CR_of_vrf (dep := 1) hAD (List.forall_mem_cons.mpr ⟨r352 hAD, fun c hc => by cases hc⟩) T2OK_nil w519
noncomputable def g520 : CR := (323, [(2, 90, 90), (0, 0, 5)], [((91, 0), (0, 1, 9))], some (0, 0, 1), [], [])
theorem w520 : vrf GG [] [] 300 1 g520
  [(2, [(0, 5), (0, 6), (1, 9)], [(0, rA 90), (1, iA (0, [(1, 0)])), (2, iA (0, [(1, 1)]))], [], [((91, 0), iA (0, [(1, 2)]))], (638, [((-92), 1)]))] = true := by decide +kernel
theorem r520 {l : Launch} {D : va_G} {tys : List (ClassId × FieldType)} {A : Nat → Prop} {ad : Nat → Nat} (hAD : ∀ i : Nat, ad (1000 + i) = D.2 1000 i) : CRok l D tys A ad GG 2 g520 := CR_of_vrf (dep := 1) hAD (fun c hc => by cases hc) T2OK_nil w520
noncomputable def g521 : CR := (324, [(2, 90, 90)], [((91, 0), (0, 1, 9))], some (0, 0, 1), [], [])
theorem w521 : vrf GG [(2, g520)] [] 300 2 g521
  [(2, [(0, 6), (1, 9)], [(0, rA 90), (1, iA (0, [(1, 0)]))], [], [((91, 0), iA (0, [(1, 1)]))], (442, [((-64), 0)]))] = true := by decide +kernel
theorem r521 {l : Launch} {D : va_G} {tys : List (ClassId × FieldType)} {A : Nat → Prop} {ad : Nat → Nat} (hAD : ∀ i : Nat, ad (1000 + i) = D.2 1000 i) : CRok l D tys A ad GG 3 g521 := CR_of_vrf (dep := 2) hAD (List.forall_mem_cons.mpr ⟨r520 hAD, fun c hc => by cases hc⟩) T2OK_nil w521
noncomputable def g522 : CR := (325, [(2, 90, 90), (0, 1, 1)], [((91, 0), (0, 1, 9))], some (0, (-2147483648), 2147483647), [], [90, 105])
theorem w522 : vrf GG [(1, g391), (1, g392), (3, g521)] [] 300 3 g522
  [(26, [((-2147483648), 2147483647), (0, 9), (1, 9), (1, 2147483647)], [(0, rA 90), (1, iA (1, [])), (2, iA (0, [(1, 0)])), (3, iA (0, [(1, 1)]))], [], [((91, 0), iA (0, [(1, 2)])), ((91, 5), iA (0, [(1, 3)]))], (1266, [((-132), 1)])),
  (54, [((-2147483648), 2147483647), (0, 8), (0, 1), ((-2147483648), 2147483647), (1, 9), (1, 2147483647)], [(0, rA 90), (1, iA (1, [])), (2, iA (0, [(1, 0)])), (3, iA (0, [(1, 1)]))], [iA (0, [(1, 2)]), iA (0, [(1, 3)])], [((91, 0), iA (0, [(1, 4)])), ((91, 5), iA (0, [(1, 5)]))], (1238, [((-132), 1)]))] = true := by decide +kernel
theorem r522 {l : Launch} {D : va_G} {tys : List (ClassId × FieldType)} {A : Nat → Prop} {ad : Nat → Nat} (hAD : ∀ i : Nat, ad (1000 + i) = D.2 1000 i) : CRok l D tys A ad GG 4 g522 := CR_of_vrf (dep := 3) hAD (List.forall_mem_cons.mpr ⟨r391 hAD, List.forall_mem_cons.mpr ⟨r392 hAD, List.forall_mem_cons.mpr ⟨r521 hAD, fun c hc => by cases hc⟩⟩⟩) T2OK_nil w522
noncomputable def g523 : CR := (325, [(2, 90, 90), (0, 2, 2)], [((91, 0), (0, 0, 0))], some (0, (-2), 0), [], [])
theorem w523 : vrf GG [(1, g394)] [] 300 1 g523
  [(26, [(1, 2147483647)], [(0, rA 90), (1, iA (2, [])), (2, iA (0, [])), (3, iA (0, []))], [], [((91, 0), iA (0, [])), ((91, 5), iA (0, [(1, 0)]))], (78, []))] = true := by decide +kernel
theorem r523 {l : Launch} {D : va_G} {tys : List (ClassId × FieldType)} {A : Nat → Prop} {ad : Nat → Nat} (hAD : ∀ i : Nat, ad (1000 + i) = D.2 1000 i) : CRok l D tys A ad GG 2 g523 := CR_of_vrf (dep := 1) hAD (List.forall_mem_cons.mpr ⟨r394 hAD, fun c hc => by cases hc⟩) T2OK_nil w523
noncomputable def g524 : CR := (325, [(2, 90, 90), (0, 2, 2)], [((91, 0), (0, 1, 9))], some (0, (-2147483648), 2147483647), [], [90, 105])
theorem w524 : vrf GG [(1, g396), (1, g397), (3, g521)] [] 300 3 g524
  [(26, [((-2147483648), 2147483647), ((-2147483647), 2147483647), (1, 9), (1, 2147483647)], [(0, rA 90), (1, iA (2, [])), (2, iA (0, [(1, 0)])), (3, iA (0, [(1, 1)]))], [], [((91, 0), iA (0, [(1, 2)])), ((91, 5), iA (0, [(1, 3)]))], (283467841482, [((-132), 1)])),
  (54, [((-2147483648), 2147483647), ((-2147483647), 2147483646), (0, 1), ((-2147483648), 2147483647), (1, 9), (1, 2147483647)], [(0, rA 90), (1, iA (2, [])), (2, iA (0, [(1, 0)])), (3, iA (0, [(1, 1)]))], [iA (0, [(1, 2)]), iA (0, [(1, 3)])], [((91, 0), iA (0, [(1, 4)])), ((91, 5), iA (0, [(1, 5)]))], (283467841454, [((-132), 1)]))] = true := by decide +kernel
theorem r524 {l : Launch} {D : va_G} {tys : List (ClassId × FieldType)} {A : Nat → Prop} {ad : Nat → Nat} (hAD : ∀ i : Nat, ad (1000 + i) = D.2 1000 i) : CRok l D tys A ad GG 4 g524 := CR_of_vrf (dep := 3) hAD (List.forall_mem_cons.mpr ⟨r396 hAD, List.forall_mem_cons.mpr ⟨r397 hAD, List.forall_mem_cons.mpr ⟨r521 hAD, fun c hc => by cases hc⟩⟩⟩) T2OK_nil w524
noncomputable def g525 : CR := (325, [(2, 90, 90), (0, 3, 3)], [((91, 0), (0, 0, 0))], some (0, (-2), 0), [], [])
theorem w525 : vrf GG [(1, g399)] [] 300 1 g525
  [(26, [(1, 2147483647)], [(0, rA 90), (1, iA (3, [])), (2, iA (0, [])), (3, iA (0, []))], [], [((91, 0), iA (0, [])), ((91, 5), iA (0, [(1, 0)]))], (78, []))] = true := by decide +kernel
theorem r525 {l : Launch} {D : va_G} {tys : List (ClassId × FieldType)} {A : Nat → Prop} {ad : Nat → Nat} (hAD : ∀ i : Nat, ad (1000 + i) = D.2 1000 i) : CRok l D tys A ad GG 2 g525 := CR_of_vrf (dep := 1) hAD (List.forall_mem_cons.mpr ⟨r399 hAD, fun c hc => by cases hc⟩) T2OK_nil w525
noncomputable def g526 : CR := (325, [(2, 90, 90), (0, 3, 3)], [((91, 0), (0, 1, 9))], some (0, (-2147483648), 2147483647), [], [90, 105])
theorem w526 : vrf GG [(1, g401), (1, g402), (3, g521)] [] 300 3 g526
  [(26, [((-2147483648), 2147483647), ((-2147483647), 2147483647), (1, 9), (1, 2147483647)], [(0, rA 90), (1, iA (3, [])), (2, iA (0, [(1, 0)])), (3, iA (0, [(1, 1)]))], [], [((91, 0), iA (0, [(1, 2)])), ((91, 5), iA (0, [(1, 3)]))], (283467841482, [((-132), 1)])),
  (54, [((-2147483648), 2147483647), ((-2147483647), 2147483646), (0, 1), ((-2147483648), 2147483647), (1, 9), (1, 2147483647)], [(0, rA 90), (1, iA (3, [])), (2, iA (0, [(1, 0)])), (3, iA (0, [(1, 1)]))], [iA (0, [(1, 2)]), iA (0, [(1, 3)])], [((91, 0), iA (0, [(1, 4)])), ((91, 5), iA (0, [(1, 5)]))], (283467841454, [((-132), 1)]))] = true := by decide +kernel
theorem r526 {l : Launch} {D : va_G} {tys : List (ClassId × FieldType)} {A : Nat → Prop} {ad : Nat → Nat} (hAD : ∀ i : Nat, ad (1000 + i) = D.2 1000 i) : CRok l D tys A ad GG 4 g526 := CR_of_vrf (dep := 3) hAD (List.forall_mem_cons.mpr ⟨r401 hAD, List.forall_mem_cons.mpr ⟨r402 hAD, List.forall_mem_cons.mpr ⟨r521 hAD, fun c hc => by cases hc⟩⟩⟩) T2OK_nil w526
noncomputable def g527 : CR := (325, [(2, 90, 90), (0, 4, 4)], [((91, 0), (0, 0, 0))], some (0, (-2), 0), [], [])
theorem w527 : vrf GG [(1, g404)] [] 300 1 g527
  [(26, [(1, 2147483647)], [(0, rA 90), (1, iA (4, [])), (2, iA (0, [])), (3, iA (0, []))], [], [((91, 0), iA (0, [])), ((91, 5), iA (0, [(1, 0)]))], (78, []))] = true := by decide +kernel
theorem r527 {l : Launch} {D : va_G} {tys : List (ClassId × FieldType)} {A : Nat → Prop} {ad : Nat → Nat} (hAD : ∀ i : Nat, ad (1000 + i) = D.2 1000 i) : CRok l D tys A ad GG 2 g527 := CR_of_vrf (dep := 1) hAD (List.forall_mem_cons.mpr ⟨r404 hAD, fun c hc => by cases hc⟩) T2OK_nil w527
noncomputable def g528 : CR := (325, [(2, 90, 90), (0, 4, 4)], [((91, 0), (0, 1, 9))], some (0, (-2147483648), 2147483647), [], [90, 105])
theorem w528 : vrf GG [(1, g406), (1, g407), (3, g521)] [] 300 3 g528
  [(26, [((-2147483648), 2147483647), ((-2147483647), 2147483647), (1, 9), (1, 2147483647)], [(0, rA 90), (1, iA (4, [])), (2, iA (0, [(1, 0)])), (3, iA (0, [(1, 1)]))], [], [((91, 0), iA (0, [(1, 2)])), ((91, 5), iA (0, [(1, 3)]))], (283467841482, [((-132), 1)])),
  (54, [((-2147483648), 2147483647), ((-2147483647), 2147483646), (0, 1), ((-2147483648), 2147483647), (1, 9), (1, 2147483647)], [(0, rA 90), (1, iA (4, [])), (2, iA (0, [(1, 0)])), (3, iA (0, [(1, 1)]))], [iA (0, [(1, 2)]), iA (0, [(1, 3)])], [((91, 0), iA (0, [(1, 4)])), ((91, 5), iA (0, [(1, 5)]))], (283467841454, [((-132), 1)]))] = true := by decide +kernel
theorem r528 {l : Launch} {D : va_G} {tys : List (ClassId × FieldType)} {A : Nat → Prop} {ad : Nat → Nat} (hAD : ∀ i : Nat, ad (1000 + i) = D.2 1000 i) : CRok l D tys A ad GG 4 g528 := CR_of_vrf (dep := 3) hAD (List.forall_mem_cons.mpr ⟨r406 hAD, List.forall_mem_cons.mpr ⟨r407 hAD, List.forall_mem_cons.mpr ⟨r521 hAD, fun c hc => by cases hc⟩⟩⟩) T2OK_nil w528
noncomputable def g529 : CR := (325, [(2, 90, 90), (0, 5, 5)], [((91, 0), (0, 0, 0))], some (0, (-2), 0), [], [])
theorem w529 : vrf GG [(1, g409)] [] 300 1 g529
  [(26, [(1, 2147483647)], [(0, rA 90), (1, iA (5, [])), (2, iA (0, [])), (3, iA (0, []))], [], [((91, 0), iA (0, [])), ((91, 5), iA (0, [(1, 0)]))], (78, []))] = true := by decide +kernel
theorem r529 {l : Launch} {D : va_G} {tys : List (ClassId × FieldType)} {A : Nat → Prop} {ad : Nat → Nat} (hAD : ∀ i : Nat, ad (1000 + i) = D.2 1000 i) : CRok l D tys A ad GG 2 g529 := CR_of_vrf (dep := 1) hAD (List.forall_mem_cons.mpr ⟨r409 hAD, fun c hc => by cases hc⟩) T2OK_nil w529
noncomputable def g530 : CR := (325, [(2, 90, 90), (0, 5, 5)], [((91, 0), (0, 1, 9))], some (0, (-2147483648), 2147483647), [], [90, 105])
theorem w530 : vrf GG [(1, g411), (1, g412), (3, g521)] [] 300 3 g530
  [(26, [((-2147483648), 2147483647), ((-2147483647), 2147483647), (1, 9), (1, 2147483647)], [(0, rA 90), (1, iA (5, [])), (2, iA (0, [(1, 0)])), (3, iA (0, [(1, 1)]))], [], [((91, 0), iA (0, [(1, 2)])), ((91, 5), iA (0, [(1, 3)]))], (283467841482, [((-132), 1)])),
  (54, [((-2147483648), 2147483647), ((-2147483647), 2147483646), (0, 1), ((-2147483648), 2147483647), (1, 9), (1, 2147483647)], [(0, rA 90), (1, iA (5, [])), (2, iA (0, [(1, 0)])), (3, iA (0, [(1, 1)]))], [iA (0, [(1, 2)]), iA (0, [(1, 3)])], [((91, 0), iA (0, [(1, 4)])), ((91, 5), iA (0, [(1, 5)]))], (283467841454, [((-132), 1)]))] = true := by decide +kernel
theorem r530 {l : Launch} {D : va_G} {tys : List (ClassId × FieldType)} {A : Nat → Prop} {ad : Nat → Nat} (hAD : ∀ i : Nat, ad (1000 + i) = D.2 1000 i) : CRok l D tys A ad GG 4 g530 := CR_of_vrf (dep := 3) hAD (List.forall_mem_cons.mpr ⟨r411 hAD, List.forall_mem_cons.mpr ⟨r412 hAD, List.forall_mem_cons.mpr ⟨r521 hAD, fun c hc => by cases hc⟩⟩⟩) T2OK_nil w530
noncomputable def g531 : CR := (325, [(2, 90, 90), (0, 6, 6)], [((91, 0), (0, 0, 0))], some (0, (-2), 0), [], [])
theorem w531 : vrf GG [(1, g414)] [] 300 1 g531
  [(26, [(1, 2147483647)], [(0, rA 90), (1, iA (6, [])), (2, iA (0, [])), (3, iA (0, []))], [], [((91, 0), iA (0, [])), ((91, 5), iA (0, [(1, 0)]))], (78, []))] = true := by decide +kernel
theorem r531 {l : Launch} {D : va_G} {tys : List (ClassId × FieldType)} {A : Nat → Prop} {ad : Nat → Nat} (hAD : ∀ i : Nat, ad (1000 + i) = D.2 1000 i) : CRok l D tys A ad GG 2 g531 := CR_of_vrf (dep := 1) hAD (List.forall_mem_cons.mpr ⟨r414 hAD, fun c hc => by cases hc⟩) T2OK_nil w531
noncomputable def g532 : CR := (325, [(2, 90, 90), (0, 6, 6)], [((91, 0), (0, 1, 9))], some (0, (-2147483648), 2147483647), [], [90, 105])
theorem w532 : vrf GG [(1, g416), (1, g417), (3, g521)] [] 300 3 g532
  [(26, [((-2147483648), 2147483647), ((-2147483647), 2147483647), (1, 9), (1, 2147483647)], [(0, rA 90), (1, iA (6, [])), (2, iA (0, [(1, 0)])), (3, iA (0, [(1, 1)]))], [], [((91, 0), iA (0, [(1, 2)])), ((91, 5), iA (0, [(1, 3)]))], (283467841482, [((-132), 1)])),
  (54, [((-2147483648), 2147483647), ((-2147483647), 2147483646), (0, 1), ((-2147483648), 2147483647), (1, 9), (1, 2147483647)], [(0, rA 90), (1, iA (6, [])), (2, iA (0, [(1, 0)])), (3, iA (0, [(1, 1)]))], [iA (0, [(1, 2)]), iA (0, [(1, 3)])], [((91, 0), iA (0, [(1, 4)])), ((91, 5), iA (0, [(1, 5)]))], (283467841454, [((-132), 1)]))] = true := by decide +kernel
theorem r532 {l : Launch} {D : va_G} {tys : List (ClassId × FieldType)} {A : Nat → Prop} {ad : Nat → Nat} (hAD : ∀ i : Nat, ad (1000 + i) = D.2 1000 i) : CRok l D tys A ad GG 4 g532 := CR_of_vrf (dep := 3) hAD (List.forall_mem_cons.mpr ⟨r416 hAD, List.forall_mem_cons.mpr ⟨r417 hAD, List.forall_mem_cons.mpr ⟨r521 hAD, fun c hc => by cases hc⟩⟩⟩) T2OK_nil w532
noncomputable def g533 : CR := (151, [(0, 0, 9), (0, (-2147483648), 6)], [], some (1, (-9223372036854775808), 9223372036854775807), [], [])
theorem w533 : vrf GG [] [] 300 0 g533
  [(5, [(0, 9), ((-2147483648), 6), ((-9223372036854775808), 9223372036854775807), (0, 6)], [(0, iA (0, [(1, 0)])), (1, iA (0, [(1, 1)])), (2, lA (0, [(1, 2)])), (4, iA (0, [(1, 3)]))], [], [], (352, [((-52), 3)]))] = true := by decide +kernel
theorem r533 {l : Launch} {D : va_G} {tys : List (ClassId × FieldType)} {A : Nat → Prop} {ad : Nat → Nat} (hAD : ∀ i : Nat, ad (1000 + i) = D.2 1000 i) : CRok l D tys A ad GG 1 g533 := CR_of_vrf (dep := 0) hAD (fun c hc => by cases hc) T2OK_nil w533
noncomputable def g534 : CR := (125, [(2, 50, 50), (2, 4, 4), (0, 1, 6), (0, 0, 0)], [], some (0, (-2147483648), 2147483647), [], [])
theorem w534 : vrf GG [(3, g489), (4, g491), (1, g492), (1, g533)] [] 300 4 g534
  [(15, [(1, 6), ((-9223372036854775808), 9223372036854775807), (0, 6), (0, 9)], [(0, rA 50), (1, rA 4), (2, iA (0, [(1, 0)])), (3, iA (0, [])), (4, lA (0, [(1, 1)])), (6, iA (0, [(1, 2)]))], [], [((4, 1), iA (0, [(1, 3)]))], (1340, [((-196), 2)])),
  (86, [(1, 6), ((-9223372036854775808), 9223372036854775807), (0, 5), (0, 6), (0, 9), (1, 6)], [(0, rA 50), (1, rA 4), (2, iA (0, [(1, 0)])), (3, iA (0, [])), (4, lA (0, [(1, 1)])), (6, iA (0, [(1, 2)])), (7, iA (0, [(1, 3)]))], [], [((4, 1), iA (0, [(1, 4)])), ((4, 4), iA (0, [(1, 5)]))], (1269, [((-196), 2)]))] = true := by decide +kernel
theorem r534 {l : Launch} {D : va_G} {tys : List (ClassId × FieldType)} {A : Nat → Prop} {ad : Nat → Nat} (hAD : ∀ i : Nat, ad (1000 + i) = D.2 1000 i) : CRok l D tys A ad GG 5 g534 := CR_of_vrf (dep := 4) hAD (List.forall_mem_cons.mpr ⟨r489 hAD, List.forall_mem_cons.mpr ⟨r491 hAD, List.forall_mem_cons.mpr ⟨r492 hAD, List.forall_mem_cons.mpr ⟨r533 hAD, fun c hc => by cases hc⟩⟩⟩⟩) T2OK_nil w534
noncomputable def g535 : CR := (129, [(2, 50, 50), (2, 4, 4)], [], some (0, (-1), 6), [], [])
theorem w535 : vrf GG [(5, g534)] [] 300 5 g535
  [(2, [(1, 7)], [(0, rA 50), (1, rA 4), (2, iA (0, [(1, 0)]))], [], [], (474, [((-60), 0)]))] = true := by decide +kernel
theorem r535 {l : Launch} {D : va_G} {tys : List (ClassId × FieldType)} {A : Nat → Prop} {ad : Nat → Nat} (hAD : ∀ i : Nat, ad (1000 + i) = D.2 1000 i) : CRok l D tys A ad GG 6 g535 := CR_of_vrf (dep := 5) hAD (List.forall_mem_cons.mpr ⟨r534 hAD, fun c hc => by cases hc⟩) T2OK_nil w535
noncomputable def g536 : CR := (126, [(2, 50, 50), (2, 4, 4), (0, 0, 5), (0, 0, 5)], [], some (0, 0, 1), [], [])
theorem w536 : vrf GG [] [] 300 2 g536
  [(3, [(0, 5), (0, 5), (0, 5)], [(0, rA 50), (1, rA 4), (2, iA (0, [(1, 0)])), (3, iA (0, [(1, 1)])), (4, iA (0, [(1, 2)]))], [], [], (472, [((-80), 2)]))] = true := by decide +kernel
theorem r536 {l : Launch} {D : va_G} {tys : List (ClassId × FieldType)} {A : Nat → Prop} {ad : Nat → Nat} (hAD : ∀ i : Nat, ad (1000 + i) = D.2 1000 i) : CRok l D tys A ad GG 3 g536 := CR_of_vrf (dep := 2) hAD (fun c hc => by cases hc) T2OK_nil w536
noncomputable def g537 : CR := (125, [(2, 50, 50), (2, 4, 4), (0, 1, 6), (0, 1, 6)], [], some (0, (-2147483648), 2147483647), [], [])
theorem w537 : vrf GG [(3, g536), (3, g489), (4, g491), (1, g492), (1, g533)] [] 300 4 g537
  [(15, [(1, 6), (1, 6), ((-9223372036854775808), 9223372036854775807), (0, 6), (0, 9)], [(0, rA 50), (1, rA 4), (2, iA (0, [(1, 0)])), (3, iA (0, [(1, 1)])), (4, lA (0, [(1, 2)])), (6, iA (0, [(1, 3)]))], [], [((4, 1), iA (0, [(1, 4)]))], (1340, [((-196), 3)])),
  (86, [(1, 6), (1, 6), ((-9223372036854775808), 9223372036854775807), (0, 5), (0, 6), (0, 9), (1, 6)], [(0, rA 50), (1, rA 4), (2, iA (0, [(1, 0)])), (3, iA (0, [(1, 1)])), (4, lA (0, [(1, 2)])), (6, iA (0, [(1, 3)])), (7, iA (0, [(1, 4)]))], [], [((4, 1), iA (0, [(1, 5)])), ((4, 4), iA (0, [(1, 6)]))], (1269, [((-196), 3)]))] = true := by decide +kernel
theorem r537 {l : Launch} {D : va_G} {tys : List (ClassId × FieldType)} {A : Nat → Prop} {ad : Nat → Nat} (hAD : ∀ i : Nat, ad (1000 + i) = D.2 1000 i) : CRok l D tys A ad GG 5 g537 := CR_of_vrf (dep := 4) hAD (List.forall_mem_cons.mpr ⟨r536 hAD, List.forall_mem_cons.mpr ⟨r489 hAD, List.forall_mem_cons.mpr ⟨r491 hAD, List.forall_mem_cons.mpr ⟨r492 hAD, List.forall_mem_cons.mpr ⟨r533 hAD, fun c hc => by cases hc⟩⟩⟩⟩⟩) T2OK_nil w537
noncomputable def g538 : CR := (130, [(2, 50, 50), (2, 4, 4), (0, 1, 6)], [], none, [], [51])
theorem w538 : vrf GG [(5, g537)] [] 300 5 g538
  [(2, [(1, 6), (0, 6)], [(0, rA 50), (1, rA 4), (2, iA (0, [(1, 0)])), (3, iA (0, [(1, 1)]))], [], [], (9906, [((-1416), 1)])),
  (10, [(1, 6), (0, 5), (0, 9)], [(0, rA 50), (1, rA 4), (2, iA (0, [(1, 0)])), (3, iA (0, [(1, 1)])), (4, iA (0, [(1, 2)]))], [], [], (9710, [((-118), 2), ((-1416), 1)])),
  (50, [(1, 6), (0, 5), (0, 9), (0, 9)], [(0, rA 50), (1, rA 4), (2, iA (0, [(1, 0)])), (3, iA (0, [(1, 1)])), (4, iA (0, [(1, 2)]))], [], [((4, 1), iA (0, [(1, 3)]))], (8560, [((-1416), 1)]))] = true := by decide +kernel
theorem r538 {l : Launch} {D : va_G} {tys : List (ClassId × FieldType)} {A : Nat → Prop} {ad : Nat → Nat} (hAD : ∀ i : Nat, ad (1000 + i) = D.2 1000 i) : CRok l D tys A ad GG 6 g538 := CR_of_vrf (dep := 5) hAD (List.forall_mem_cons.mpr ⟨r537 hAD, fun c hc => by cases hc⟩) T2OK_nil w538
noncomputable def g539 : CR := (61, [(2, 0, 0), (0, (-2147483648), 2147483647)], [], some (0, (-2147483648), 2147483647), [], [51])
theorem w539 : vrf GG [(6, g535), (6, g538)] [] 300 6 g539
  [] = true := by decide +kernel
theorem r539 {l : Launch} {D : va_G} {tys : List (ClassId × FieldType)} {A : Nat → Prop} {ad : Nat → Nat} (hAD : ∀ i : Nat, ad (1000 + i) = D.2 1000 i) : CRok l D tys A ad GG 7 g539 := CR_of_vrf (dep := 6) hAD (List.forall_mem_cons.mpr ⟨r535 hAD, List.forall_mem_cons.mpr ⟨r538 hAD, fun c hc => by cases hc⟩⟩) T2OK_nil w539
noncomputable def g540 : CR := (309, [(2, 90, 90), (0, 1, 6)], [((91, 0), (0, 0, 0))], some (0, 0, 0), [], [])
theorem w540 : vrf GG [] [] 300 0 g540
  [] = true := by decide +kernel
theorem r540 {l : Launch} {D : va_G} {tys : List (ClassId × FieldType)} {A : Nat → Prop} {ad : Nat → Nat} (hAD : ∀ i : Nat, ad (1000 + i) = D.2 1000 i) : CRok l D tys A ad GG 1 g540 := CR_of_vrf (dep := 0) hAD (fun c hc => by cases hc) T2OK_nil w540
noncomputable def g541 : CR := (326, [(2, 90, 90), (0, (-2147483648), 2147483647)], [((91, 0), (0, 0, 0))], some (0, (-2), (-1)), [], [])
theorem w541 : vrf GG [(1, g540)] [] 300 1 g541
  [(17, [((-1), 2147483647), (1, 7), (1, 2147483647)], [(0, rA 90), (1, iA (0, [(1, 0)])), (2, iA (0, [(1, 1)]))], [], [((91, 0), iA (0, [])), ((91, 5), iA (0, [(1, 2)]))], (4188, [((-528), 1)])),
  (25, [((-1), 2147483647), (1, 6), (1, 2147483647)], [(0, rA 90), (1, iA (0, [(1, 0)])), (2, iA (0, [(1, 1)])), (3, iA (0, []))], [], [((91, 0), iA (0, [])), ((91, 5), iA (0, [(1, 2)]))], (3890, [((-528), 1)]))] = true := by decide +kernel
theorem r541 {l : Launch} {D : va_G} {tys : List (ClassId × FieldType)} {A : Nat → Prop} {ad : Nat → Nat} (hAD : ∀ i : Nat, ad (1000 + i) = D.2 1000 i) : CRok l D tys A ad GG 2 g541 := CR_of_vrf (dep := 1) hAD (List.forall_mem_cons.mpr ⟨r540 hAD, fun c hc => by cases hc⟩) T2OK_nil w541
noncomputable def g542 : CR := (309, [(2, 90, 90), (0, 1, 6)], [((91, 0), (0, 1, 9))], some (0, (-2147483648), 2147483647), [], [])
theorem w542 : vrf GG [] [] 300 0 g542
  [] = true := by decide +kernel
theorem r542 {l : Launch} {D : va_G} {tys : List (ClassId × FieldType)} {A : Nat → Prop} {ad : Nat → Nat} (hAD : ∀ i : Nat, ad (1000 + i) = D.2 1000 i) : CRok l D tys A ad GG 1 g542 := CR_of_vrf (dep := 0) hAD (fun c hc => by cases hc) T2OK_nil w542
noncomputable def g543 : CR := (310, [(2, 90, 90), (0, 0, 2147483646), (0, 1, 6)], [((91, 0), (0, 1, 9))], none, [], [90, 105])
theorem w543 : vrf GG [] [] 300 0 g543
  [(12, [(0, 2147483646), (1, 6), (0, 2147483646), ((-1), 5), (1, 6), (1, 9)], [(0, rA 90), (1, iA (0, [(1, 0)])), (2, iA (0, [(1, 1)])), (3, iA (0, [(1, 2)])), (4, iA (0, [(1, 3)]))], [], [((90, 30), iA (0, [(1, 4)])), ((91, 0), iA (0, [(1, 5)]))], (174, [(100, 3)]))] = true := by decide +kernel
theorem r543 {l : Launch} {D : va_G} {tys : List (ClassId × FieldType)} {A : Nat → Prop} {ad : Nat → Nat} (hAD : ∀ i : Nat, ad (1000 + i) = D.2 1000 i) : CRok l D tys A ad GG 1 g543 := CR_of_vrf (dep := 0) hAD (fun c hc => by cases hc) T2OK_nil w543
noncomputable def g544 : CR := (326, [(2, 90, 90), (0, (-2147483648), 2147483647)], [((91, 0), (0, 1, 9))], some (0, (-2147483648), 2147483647), [], [90, 105])
theorem w544 : vrf GG [(1, g542), (1, g543), (3, g521)] [] 300 3 g544
  [(17, [((-1), 2147483647), (1, 7), (1, 9), (1, 2147483647)], [(0, rA 90), (1, iA (0, [(1, 0)])), (2, iA (0, [(1, 1)]))], [], [((91, 0), iA (0, [(1, 2)])), ((91, 5), iA (0, [(1, 3)]))], (3023656979164, [((-377957122400), 1)])),
  (25, [((-1), 2147483647), (1, 6), (0, 2147483647), (1, 9), (1, 2147483647)], [(0, rA 90), (1, iA (0, [(1, 0)])), (2, iA (0, [(1, 1)])), (3, iA (0, [(1, 2)]))], [], [((91, 0), iA (0, [(1, 3)])), ((91, 5), iA (0, [(1, 4)]))], (3023656978866, [((-176), 2), ((-377957122400), 1)])),
  (71, [((-1), 2147483647), (1, 6), (0, 2147483646), ((-2147483648), 2147483647), (1, 9), (1, 2147483647)], [(0, rA 90), (1, iA (0, [(1, 0)])), (2, iA (0, [(1, 1)])), (3, iA (0, [(1, 2)]))], [iA (0, [(1, 3)])], [((91, 0), iA (0, [(1, 4)])), ((91, 5), iA (0, [(1, 5)]))], (3023656978820, [((-176), 2), ((-377957122400), 1)]))] = true := by decide +kernel
theorem r544 {l : Launch} {D : va_G} {tys : List (ClassId × FieldType)} {A : Nat → Prop} {ad : Nat → Nat} (hAD : ∀ i : Nat, ad (1000 + i) = D.2 1000 i) : CRok l D tys A ad GG 4 g544 := CR_of_vrf (dep := 3) hAD (List.forall_mem_cons.mpr ⟨r542 hAD, List.forall_mem_cons.mpr ⟨r543 hAD, List.forall_mem_cons.mpr ⟨r521 hAD, fun c hc => by cases hc⟩⟩⟩) T2OK_nil w544
noncomputable def g545 : CR := (31, [(2, 0, 0), (0, (-2147483648), 2147483647)], [], some (0, (-2), 63), [], [])
theorem w545 : vrf GG [(3, g141)] [] 300 3 g545
  [(18, [(0, 5), (0, 63), (0, 6), (1, 6)], [(0, rA 0), (1, iA (0, [(1, 0)])), (2, iA (0, [(1, 1)])), (3, iA (0, [(1, 2)]))], [], [((4, 4), iA (0, [(1, 3)]))], (998, [((-148), 2)])),
  (58, [(0, 5), (0, 63), (0, 5), (1, 6)], [(0, rA 0), (1, iA (0, [(1, 0)])), (2, iA (0, [(1, 1)])), (3, iA (0, [(1, 2)]))], [], [((4, 4), iA (0, [(1, 3)]))], (958, [((-148), 2)])),
  (64, [(0, 5), (0, 63), (0, 5), (1, 6)], [(0, rA 0), (1, iA (0, [(1, 0)])), (2, iA (0, [(1, 1)])), (3, iA (0, [(1, 2)]))], [], [((4, 4), iA (0, [(1, 3)]))], (952, [((-148), 2)]))] = true := by decide +kernel
theorem r545 {l : Launch} {D : va_G} {tys : List (ClassId × FieldType)} {A : Nat → Prop} {ad : Nat → Nat} (hAD : ∀ i : Nat, ad (1000 + i) = D.2 1000 i) : CRok l D tys A ad GG 4 g545 := CR_of_vrf (dep := 3) hAD (List.forall_mem_cons.mpr ⟨r141 hAD, fun c hc => by cases hc⟩) T2OK_nil w545
noncomputable def g546 : CR := (275, [(2, 90, 90), (0, (-2147483648), 2147483647)], [], some (0, (-2), 63), [], [])
theorem w546 : vrf GG [(2, g143)] [] 300 2 g546
  [(15, [(0, 5), (0, 63), (0, 6), (1, 6)], [(0, rA 90), (1, iA (0, [(1, 0)])), (2, iA (0, [(1, 1)])), (3, iA (0, [(1, 2)]))], [], [((91, 3), iA (0, [(1, 3)]))], (920, [((-136), 2)])),
  (49, [(0, 5), (0, 63), (0, 5), (0, 63), (1, 6)], [(0, rA 90), (1, iA (0, [(1, 0)])), (2, iA (0, [(1, 1)])), (3, iA (0, [(1, 2)]))], [iA (0, [(1, 3)])], [((91, 3), iA (0, [(1, 4)]))], (886, [((-136), 2)])),
  (55, [(0, 5), (0, 63), (0, 5), (0, 63), (1, 6)], [(0, rA 90), (1, iA (0, [(1, 0)])), (2, iA (0, [(1, 1)])), (3, iA (0, [(1, 2)]))], [iA (0, [(1, 3)])], [((91, 3), iA (0, [(1, 4)]))], (880, [((-136), 2)])),
  (56, [(0, 5), (0, 63), (0, 5), (0, 32), (0, 63), (1, 6)], [(0, rA 90), (1, iA (0, [(1, 0)])), (2, iA (0, [(1, 1)])), (3, iA (0, [(1, 2)]))], [iA (0, [(1, 3)]), iA (0, [(1, 4)])], [((91, 3), iA (0, [(1, 5)]))], (879, [((-136), 2)]))] = true := by decide +kernel
theorem r546 {l : Launch} {D : va_G} {tys : List (ClassId × FieldType)} {A : Nat → Prop} {ad : Nat → Nat} (hAD : ∀ i : Nat, ad (1000 + i) = D.2 1000 i) : CRok l D tys A ad GG 3 g546 := CR_of_vrf (dep := 2) hAD (List.forall_mem_cons.mpr ⟨r143 hAD, fun c hc => by cases hc⟩) T2OK_nil w546
noncomputable def g547 : CR := (151, [(0, 100, 100), (0, 0, 63)], [], some (1, (-9223372036854775808), 9223372036854775807), [], [])
theorem w547 : vrf GG [] [] 300 0 g547
  [(5, [(0, 63), ((-9223372036854775808), 9223372036854775807), (0, 63)], [(0, iA (100, [])), (1, iA (0, [(1, 0)])), (2, lA (0, [(1, 1)])), (4, iA (0, [(1, 2)]))], [], [], (3316, [((-52), 2)]))] = true := by decide +kernel
theorem r547 {l : Launch} {D : va_G} {tys : List (ClassId × FieldType)} {A : Nat → Prop} {ad : Nat → Nat} (hAD : ∀ i : Nat, ad (1000 + i) = D.2 1000 i) : CRok l D tys A ad GG 1 g547 := CR_of_vrf (dep := 0) hAD (fun c hc => by cases hc) T2OK_nil w547
noncomputable def g548 : CR := (152, [(1, (-9223372036854775808), 9223372036854775807), (1, (-9223372036854775808), 9223372036854775807)], [], some (1, (-9223372036854775808), 9223372036854775807), [], [])
theorem w548 : vrf GG [] [] 300 0 g548
  [(9, [((-9223372036854775808), 9223372036854775807), ((-9223372036854775808), 9223372036854775807), ((-9223372036854775808), 9223372036854775807), ((-9223372036854775808), 9223372036854775807), (0, 200)], [(0, lA (0, [(1, 0)])), (2, lA (0, [(1, 1)])), (4, lA (0, [(1, 2)])), (6, lA (0, [(1, 3)])), (8, iA (0, [(1, 4)]))], [], [], (20080, [((-100), 4)]))] = true := by decide +kernel
theorem r548 {l : Launch} {D : va_G} {tys : List (ClassId × FieldType)} {A : Nat → Prop} {ad : Nat → Nat} (hAD : ∀ i : Nat, ad (1000 + i) = D.2 1000 i) : CRok l D tys A ad GG 1 g548 := CR_of_vrf (dep := 0) hAD (fun c hc => by cases hc) T2OK_nil w548
noncomputable def g549 : CR := (63, [(2, 0, 0), (0, 0, 5)], [], some (0, 0, 4095), [], [])
theorem w549 : vrf GG [] [] 300 2 g549
  [(4, [(0, 5), (0, 4095), (0, 12)], [(0, rA 0), (1, iA (0, [(1, 0)])), (2, iA (0, [(1, 1)])), (3, iA (0, [(1, 2)]))], [], [], (2642, [((-204), 2)])),
  (38, [(0, 5), (0, 4095), (0, 11), (0, 1), (1, 12)], [(0, rA 0), (1, iA (0, [(1, 0)])), (2, iA (0, [(1, 1)])), (3, iA (0, [(1, 2)]))], [iA (0, [(1, 3)])], [((4, 5), iA (0, [(1, 4)]))], (2608, [((-204), 2)])),
  (92, [(0, 5), (0, 4095), (0, 11), (0, 1), ((-2147483648), 2147483647), (1, 12)], [(0, rA 0), (1, iA (0, [(1, 0)])), (2, iA (0, [(1, 1)])), (3, iA (0, [(1, 2)])), (4, iA (0, [(1, 3)])), (5, iA (0, [(1, 4)]))], [], [((4, 5), iA (0, [(1, 5)]))], (2554, [((-204), 2)]))] = true := by decide +kernel
theorem r549 {l : Launch} {D : va_G} {tys : List (ClassId × FieldType)} {A : Nat → Prop} {ad : Nat → Nat} (hAD : ∀ i : Nat, ad (1000 + i) = D.2 1000 i) : CRok l D tys A ad GG 3 g549 := CR_of_vrf (dep := 2) hAD (fun c hc => by cases hc) T2OK_nil w549
noncomputable def g550 : CR := (92, [(2, 28, 28), (2, 4, 4), (0, (-2147483648), 2147483647), (0, (-2147483648), 2147483647)], [], some (0, 0, 63), [], [31])
theorem w550 : vrf GG [] [] 748 2 g550
  [(28, [((-2147483648), 2147483647), ((-2147483648), 2147483647), ((-2147483648), 2147483647), ((-2147483648), 2147483647), (0, 63), (0, 6)], [(0, rA 28), (1, rA 4), (2, iA (0, [(1, 0)])), (3, iA (0, [(1, 1)])), (4, iA (0, [(1, 2)])), (5, iA (0, [(1, 3)])), (6, iA (0, [(1, 4)])), (7, iA (0, [(1, 5)]))], [], [], (1426, [((-212), 5)])),
  (95, [((-2147483648), 2147483647), ((-2147483648), 2147483647), ((-2147483648), 2147483647), ((-2147483648), 2147483647), (0, 63), (0, 5), (1, 6)], [(0, rA 28), (1, rA 4), (2, iA (0, [(1, 0)])), (3, iA (0, [(1, 1)])), (4, iA (0, [(1, 2)])), (5, iA (0, [(1, 3)])), (6, iA (0, [(1, 4)])), (7, iA (0, [(1, 5)]))], [], [((4, 4), iA (0, [(1, 6)]))], (1359, [((-212), 5)]))] = true := by decide +kernel
theorem r550 {l : Launch} {D : va_G} {tys : List (ClassId × FieldType)} {A : Nat → Prop} {ad : Nat → Nat} (hAD : ∀ i : Nat, ad (1000 + i) = D.2 1000 i) : CRok l D tys A ad GG 3 g550 := CR_of_vrf (dep := 2) hAD (fun c hc => by cases hc) T2OK_nil w550
noncomputable def g551 : CR := (94, [(2, 28, 28), (2, 4, 4), (0, 0, 5), (0, 0, 5), (0, 0, 4095)], [], some (0, 0, 1), [], [31])
theorem w551 : vrf GG [(3, g75), (3, g550)] [] 675 3 g551
  [(8, [(0, 5), (0, 5), (0, 4095), (0, 12)], [(0, rA 28), (1, rA 4), (2, iA (0, [(1, 0)])), (3, iA (0, [(1, 1)])), (4, iA (0, [(1, 2)])), (5, iA (0, [(1, 3)]))], [], [], (2738, [((-212), 3)])),
  (66, [(0, 5), (0, 5), (0, 4095), (0, 11), ((-2147483648), 2147483647), ((-2147483648), 2147483647), (1, 12)], [(0, rA 28), (1, rA 4), (2, iA (0, [(1, 0)])), (3, iA (0, [(1, 1)])), (4, iA (0, [(1, 2)])), (5, iA (0, [(1, 3)])), (6, iA (0, [(1, 4)]))], [iA (0, [(1, 5)])], [((4, 5), iA (0, [(1, 6)]))], (2680, [((-212), 3)])),
  (78, [(0, 5), (0, 5), (0, 4095), (0, 11), ((-2147483648), 2147483647), (1, 12)], [(0, rA 28), (1, rA 4), (2, iA (0, [(1, 0)])), (3, iA (0, [(1, 1)])), (4, iA (0, [(1, 2)])), (5, iA (0, [(1, 3)])), (6, iA (0, [(1, 4)]))], [], [((4, 5), iA (0, [(1, 5)]))], (2668, [((-212), 3)]))] = true := by decide +kernel
theorem r551 {l : Launch} {D : va_G} {tys : List (ClassId × FieldType)} {A : Nat → Prop} {ad : Nat → Nat} (hAD : ∀ i : Nat, ad (1000 + i) = D.2 1000 i) : CRok l D tys A ad GG 4 g551 := CR_of_vrf (dep := 3) hAD (List.forall_mem_cons.mpr ⟨r75 hAD, List.forall_mem_cons.mpr ⟨r550 hAD, fun c hc => by cases hc⟩⟩) T2OK_nil w551
noncomputable def g552 : CR := (96, [(0, 0, 4095), (0, 0, 4095), (0, (-2147483648), 2147483647)], [], some (1, (-9223372036854775808), 9223372036854775807), [], [])
theorem w552 : vrf GG [] [] 300 0 g552
  [(5, [(0, 4095), (0, 4095), ((-2147483648), 2147483647), ((-9223372036854775808), 9223372036854775807), (0, 12)], [(0, iA (0, [(1, 0)])), (1, iA (0, [(1, 1)])), (2, iA (0, [(1, 2)])), (3, lA (0, [(1, 3)])), (5, iA (0, [(1, 4)]))], [], [], (1366, [((-106), 4)])),
  (41, [(0, 4095), (0, 4095), ((-2147483648), 2147483647), ((-9223372036854775808), 9223372036854775807), (0, 11), ((-2147483648), 2147483647), ((-9223372036854775808), 9223372036854775807)], [(0, iA (0, [(1, 0)])), (1, iA (0, [(1, 1)])), (2, iA (0, [(1, 2)])), (3, lA (0, [(1, 3)])), (5, iA (0, [(1, 4)]))], [lA (0, [(1, 5)]), lA (0, [(1, 6)])], [], (1330, [((-106), 4)])),
  (43, [(0, 4095), (0, 4095), ((-2147483648), 2147483647), ((-9223372036854775808), 9223372036854775807), (0, 11)], [(0, iA (0, [(1, 0)])), (1, iA (0, [(1, 1)])), (2, iA (0, [(1, 2)])), (3, lA (0, [(1, 3)])), (5, iA (0, [(1, 4)]))], [], [], (1328, [((-106), 4)]))] = true := by decide +kernel
theorem r552 {l : Launch} {D : va_G} {tys : List (ClassId × FieldType)} {A : Nat → Prop} {ad : Nat → Nat} (hAD : ∀ i : Nat, ad (1000 + i) = D.2 1000 i) : CRok l D tys A ad GG 1 g552 := CR_of_vrf (dep := 0) hAD (fun c hc => by cases hc) T2OK_nil w552
noncomputable def g553 : CR := (95, [(2, 28, 28), (2, 4, 4), (0, 0, 5), (0, 0, 5), (0, 0, 4095)], [], some (1, (-9223372036854775808), 9223372036854775807), [], [31])
theorem w553 : vrf GG [(4, g551), (1, g552)] [] 300 4 g553
  [(9, [(0, 5), (0, 5), (0, 4095), ((-9223372036854775808), 9223372036854775807), (0, 4095), (0, 256)], [(0, rA 28), (1, rA 4), (2, iA (0, [(1, 0)])), (3, iA (0, [(1, 1)])), (4, iA (0, [(1, 2)])), (5, lA (0, [(1, 3)])), (7, iA (0, [(1, 4)])), (8, iA (0, [(1, 5)]))], [], [], (45726, [((-178), 5)])),
  (60, [(0, 5), (0, 5), (0, 4095), ((-9223372036854775808), 9223372036854775807), (0, 4095), (0, 255), ((-9223372036854775808), 9223372036854775807)], [(0, rA 28), (1, rA 4), (2, iA (0, [(1, 0)])), (3, iA (0, [(1, 1)])), (4, iA (0, [(1, 2)])), (5, lA (0, [(1, 3)])), (7, iA (0, [(1, 4)])), (8, iA (0, [(1, 5)])), (9, lA (0, [(1, 6)]))], [], [], (45675, [((-178), 5)]))] = true := by decide +kernel
theorem r553 {l : Launch} {D : va_G} {tys : List (ClassId × FieldType)} {A : Nat → Prop} {ad : Nat → Nat} (hAD : ∀ i : Nat, ad (1000 + i) = D.2 1000 i) : CRok l D tys A ad GG 5 g553 := CR_of_vrf (dep := 4) hAD (List.forall_mem_cons.mpr ⟨r551 hAD, List.forall_mem_cons.mpr ⟨r552 hAD, fun c hc => by cases hc⟩⟩) T2OK_nil w553
noncomputable def g554 : CR := (62, [(2, 0, 0), (0, (-2147483648), 2147483647), (0, (-2147483648), 2147483647), (0, (-2147483648), 2147483647)], [], some (1, (-9223372036854775808), 9223372036854775807), [], [31])
theorem w554 : vrf GG [(3, g549), (5, g553), (1, g547), (1, g548)] [] 300 5 g554
  [] = true := by decide +kernel
theorem r554 {l : Launch} {D : va_G} {tys : List (ClassId × FieldType)} {A : Nat → Prop} {ad : Nat → Nat} (hAD : ∀ i : Nat, ad (1000 + i) = D.2 1000 i) : CRok l D tys A ad GG 6 g554 := CR_of_vrf (dep := 5) hAD (List.forall_mem_cons.mpr ⟨r549 hAD, List.forall_mem_cons.mpr ⟨r553 hAD, List.forall_mem_cons.mpr ⟨r547 hAD, List.forall_mem_cons.mpr ⟨r548 hAD, fun c hc => by cases hc⟩⟩⟩⟩) T2OK_nil w554
noncomputable def g555 : CR := (327, [(2, 90, 90), (0, 0, 5)], [], some (0, 0, 4095), [], [])
theorem w555 : vrf GG [] [] 300 2 g555
  [(4, [(0, 5), (0, 4095), (0, 12)], [(0, rA 90), (1, iA (0, [(1, 0)])), (2, iA (0, [(1, 1)])), (3, iA (0, [(1, 2)]))], [], [], (2512, [((-194), 2)])),
  (66, [(0, 5), (0, 4095), (0, 11), (0, 5), (0, 63), (0, 4095), (1, 12)], [(0, rA 90), (1, iA (0, [(1, 0)])), (2, iA (0, [(1, 1)])), (3, iA (0, [(1, 2)])), (4, iA (0, [(1, 3)]))], [iA (0, [(1, 4)]), iA (0, [(1, 5)])], [((91, 4), iA (0, [(1, 6)]))], (2450, [((-194), 2)])),
  (84, [(0, 5), (0, 4095), (0, 11), (0, 5), (0, 4095), (1, 12)], [(0, rA 90), (1, iA (0, [(1, 0)])), (2, iA (0, [(1, 1)])), (3, iA (0, [(1, 2)])), (4, iA (0, [(1, 3)]))], [iA (0, [(1, 4)])], [((91, 4), iA (0, [(1, 5)]))], (2432, [((-194), 2)])),
  (85, [(0, 5), (0, 4095), (0, 11), (0, 5), (0, 2048), (0, 4095), (1, 12)], [(0, rA 90), (1, iA (0, [(1, 0)])), (2, iA (0, [(1, 1)])), (3, iA (0, [(1, 2)])), (4, iA (0, [(1, 3)]))], [iA (0, [(1, 4)]), iA (0, [(1, 5)])], [((91, 4), iA (0, [(1, 6)]))], (2431, [((-194), 2)]))] = true := by decide +kernel
theorem r555 {l : Launch} {D : va_G} {tys : List (ClassId × FieldType)} {A : Nat → Prop} {ad : Nat → Nat} (hAD : ∀ i : Nat, ad (1000 + i) = D.2 1000 i) : CRok l D tys A ad GG 3 g555 := CR_of_vrf (dep := 2) hAD (fun c hc => by cases hc) T2OK_nil w555
noncomputable def g556 : CR := (329, [(2, 90, 90), (0, 0, 5), (0, 0, 5), (0, 0, 4095)], [], some (1, (-9223372036854775808), 9223372036854775807), [], [90, 98, 99, 100, 101])
theorem w556 : vrf GG [(4, g96)] [] 300 5 g556
  [(6, [(0, 5), (0, 5), (0, 4095), ((-9223372036854775808), 9223372036854775807), (0, 4096)], [(0, rA 90), (1, iA (0, [(1, 0)])), (2, iA (0, [(1, 1)])), (3, iA (0, [(1, 2)])), (4, lA (0, [(1, 3)])), (6, iA (0, [(1, 4)]))], [], [], (19542676, [((-4770), 4)])),
  (30, [(0, 5), (0, 5), (0, 4095), ((-9223372036854775808), 9223372036854775807), (0, 4095), ((-9223372036854775808), 9223372036854775807), (0, 12)], [(0, rA 90), (1, iA (0, [(1, 0)])), (2, iA (0, [(1, 1)])), (3, iA (0, [(1, 2)])), (4, lA (0, [(1, 3)])), (6, iA (0, [(1, 4)])), (7, lA (0, [(1, 5)])), (9, iA (0, [(1, 6)]))], [], [], (19542144, [((-318), 6), ((-4770), 4)])),
  (89, [(0, 5), (0, 5), (0, 4095), ((-9223372036854775808), 9223372036854775807), (0, 4095), ((-9223372036854775808), 9223372036854775807), (0, 11), (0, 100), ((-9223372036854775808), 9223372036854775807)], [(0, rA 90), (1, iA (0, [(1, 0)])), (2, iA (0, [(1, 1)])), (3, iA (0, [(1, 2)])), (4, lA (0, [(1, 3)])), (6, iA (0, [(1, 4)])), (7, lA (0, [(1, 5)])), (9, iA (0, [(1, 6)]))], [lA (0, [(1, 7)]), lA (0, [(1, 8)])], [], (19542085, [((-318), 6), ((-4770), 4)])),
  (145, [(0, 5), (0, 5), (0, 4095), ((-9223372036854775808), 9223372036854775807), (0, 4095), ((-9223372036854775808), 9223372036854775807), ((-9223372036854775808), 9223372036854775807), ((-9223372036854775808), 9223372036854775807), (0, 24)], [(0, rA 90), (1, iA (0, [(1, 0)])), (2, iA (0, [(1, 1)])), (3, iA (0, [(1, 2)])), (4, lA (0, [(1, 3)])), (6, iA (0, [(1, 4)])), (7, lA (0, [(1, 5)])), (9, iA (12, []))], [lA (0, [(1, 6)]), lA (0, [(1, 7)])], [((90, 22), iA ((-1), [])), ((91, 2), iA (0, [(1, 8)]))], (19538085, [((-4770), 4)])),
  (148, [(0, 5), (0, 5), (0, 4095), ((-9223372036854775808), 9223372036854775807), (0, 4095)], [(0, rA 90), (1, iA (0, [(1, 0)])), (2, iA (0, [(1, 1)])), (3, iA (0, [(1, 2)])), (4, lA (0, [(1, 3)])), (6, iA (0, [(1, 4)]))], [], [], (19538082, [((-4770), 4)]))] = true := by decide +kernel
theorem r556 {l : Launch} {D : va_G} {tys : List (ClassId × FieldType)} {A : Nat → Prop} {ad : Nat → Nat} (hAD : ∀ i : Nat, ad (1000 + i) = D.2 1000 i) : CRok l D tys A ad GG 6 g556 := CR_of_vrf (dep := 5) hAD (List.forall_mem_cons.mpr ⟨r96 hAD, fun c hc => by cases hc⟩) T2OK_nil w556
noncomputable def g557 : CR := (330, [(2, 90, 90), (0, (-2147483648), 2147483647), (0, (-2147483648), 2147483647), (0, (-2147483648), 2147483647)], [], some (1, (-9223372036854775808), 9223372036854775807), [], [90, 98, 99, 100, 101])
theorem w557 : vrf GG [(1, g174), (4, g96), (3, g555), (6, g556)] hDiv 812 6 g557
  [] = true := by decide +kernel
theorem r557 {l : Launch} {D : va_G} {tys : List (ClassId × FieldType)} {A : Nat → Prop} {ad : Nat → Nat} (hAD : ∀ i : Nat, ad (1000 + i) = D.2 1000 i) : CRok l D tys A ad GG 7 g557 := CR_of_vrf (dep := 6) hAD (List.forall_mem_cons.mpr ⟨r174 hAD, List.forall_mem_cons.mpr ⟨r96 hAD, List.forall_mem_cons.mpr ⟨r555 hAD, List.forall_mem_cons.mpr ⟨r556 hAD, fun c hc => by cases hc⟩⟩⟩⟩) HDiv_ok w557
