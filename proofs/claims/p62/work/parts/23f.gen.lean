def g469 : CR := (320, [(2, 90, 90), (0, 0, 6), (0, 0, 6), (0, 6, 6)], [], some (0, 1, 924), [], [106])
theorem w469 : vrf GG [] [] 10878 1 g469
  [] = true := by decide +kernel
theorem r469 {l : Launch} {D : va_G} {tys : List (ClassId × FieldType)} {A : Nat → Prop} {ad : Nat → Nat} (hAD : ∀ i : Nat, ad (1000 + i) = D.2 1000 i) : CRok l D tys A ad GG 2 g469 := CR_of_vrf (dep := 1) hAD (fun c hc => by cases hc) T2OK_nil w469
def g470 : CR := (321, [(2, 90, 90), (0, (-2147483648), 2147483647), (0, (-2147483648), 2147483647), (0, (-2147483648), 2147483647)], [], some (0, (-2147483648), 2147483647), [], [106])
theorem w470 : vrf GG [(2, g469), (2, g468)] [] 300 3 g470
  [] = true := by decide +kernel
theorem r470 {l : Launch} {D : va_G} {tys : List (ClassId × FieldType)} {A : Nat → Prop} {ad : Nat → Nat} (hAD : ∀ i : Nat, ad (1000 + i) = D.2 1000 i) : CRok l D tys A ad GG 4 g470 := CR_of_vrf (dep := 3) hAD (List.forall_mem_cons.mpr ⟨r469 hAD, List.forall_mem_cons.mpr ⟨r468 hAD, fun c hc => by cases hc⟩⟩) T2OK_nil w470
def g471 : CR := (59, [(2, 0, 0), (0, (-2147483648), 2147483647), (0, (-2147483648), 2147483647)], [], some (0, (-2), 6), [], [52])
theorem w471 : vrf GG [(2, g466)] [] 300 2 g471
  [(14, [(0, 5), (0, 5), (0, 7), (1, 6)], [(0, rA 0), (1, iA (0, [(1, 0)])), (2, iA (0, [(1, 1)])), (3, iA (0, [(1, 2)]))], [], [((4, 4), iA (0, [(1, 3)]))], (914, [((-118), 2)]))] = true := by decide +kernel
theorem r471 {l : Launch} {D : va_G} {tys : List (ClassId × FieldType)} {A : Nat → Prop} {ad : Nat → Nat} (hAD : ∀ i : Nat, ad (1000 + i) = D.2 1000 i) : CRok l D tys A ad GG 3 g471 := CR_of_vrf (dep := 2) hAD (List.forall_mem_cons.mpr ⟨r466 hAD, fun c hc => by cases hc⟩) T2OK_nil w471
def g472 : CR := (322, [(2, 90, 90), (0, (-2147483648), 2147483647), (0, (-2147483648), 2147483647)], [], some (0, (-2), 6), [], [106])
theorem w472 : vrf GG [(2, g469), (2, g468)] [] 300 3 g472
  [(14, [(0, 5), (0, 5), (0, 6), (1, 6)], [(0, rA 90), (1, iA (0, [(1, 0)])), (2, iA (0, [(1, 1)])), (3, iA (0, [(1, 2)]))], [], [((91, 3), iA (0, [(1, 3)]))], (558, [((-84), 2)]))] = true := by decide +kernel
theorem r472 {l : Launch} {D : va_G} {tys : List (ClassId × FieldType)} {A : Nat → Prop} {ad : Nat → Nat} (hAD : ∀ i : Nat, ad (1000 + i) = D.2 1000 i) : CRok l D tys A ad GG 4 g472 := CR_of_vrf (dep := 3) hAD (List.forall_mem_cons.mpr ⟨r469 hAD, List.forall_mem_cons.mpr ⟨r468 hAD, fun c hc => by cases hc⟩⟩) T2OK_nil w472
def g473 : CR := (60, [(2, 0, 0), (0, (-2147483648), 0)], [], some (0, (-2), (-2)), [], [])
theorem w473 : vrf GG [] [] 300 1 g473
  [] = true := by decide +kernel
theorem r473 {l : Launch} {D : va_G} {tys : List (ClassId × FieldType)} {A : Nat → Prop} {ad : Nat → Nat} (hAD : ∀ i : Nat, ad (1000 + i) = D.2 1000 i) : CRok l D tys A ad GG 2 g473 := CR_of_vrf (dep := 1) hAD (fun c hc => by cases hc) T2OK_nil w473
def g474 : CR := (60, [(2, 0, 0), (0, 7, 2147483647)], [], some (0, (-2), (-2)), [], [])
theorem w474 : vrf GG [] [] 300 1 g474
  [] = true := by decide +kernel
theorem r474 {l : Launch} {D : va_G} {tys : List (ClassId × FieldType)} {A : Nat → Prop} {ad : Nat → Nat} (hAD : ∀ i : Nat, ad (1000 + i) = D.2 1000 i) : CRok l D tys A ad GG 2 g474 := CR_of_vrf (dep := 1) hAD (fun c hc => by cases hc) T2OK_nil w474
def g475 : CR := (126, [(2, 50, 50), (2, 4, 4), (0, 0, 5), (0, 0, 6)], [], some (0, 0, 1), [], [])
theorem w475 : vrf GG [] [] 300 2 g475
  [(3, [(0, 5), (0, 6), (0, 6)], [(0, rA 50), (1, rA 4), (2, iA (0, [(1, 0)])), (3, iA (0, [(1, 1)])), (4, iA (0, [(1, 2)]))], [], [], (552, [((-80), 2)]))] = true := by decide +kernel
theorem r475 {l : Launch} {D : va_G} {tys : List (ClassId × FieldType)} {A : Nat → Prop} {ad : Nat → Nat} (hAD : ∀ i : Nat, ad (1000 + i) = D.2 1000 i) : CRok l D tys A ad GG 3 g475 := CR_of_vrf (dep := 2) hAD (fun c hc => by cases hc) T2OK_nil w475
def g476 : CR := (128, [(2, 4, 4), (0, 0, 5), (0, 0, 5), (0, 0, 6)], [], some (0, 0, 1), [], [])
theorem w476 : vrf GG [] [] 300 2 g476
  [(3, [(0, 5), (0, 5), (0, 6), (0, 6)], [(0, rA 4), (1, iA (0, [(1, 0)])), (2, iA (0, [(1, 1)])), (3, iA (0, [(1, 2)])), (4, iA (0, [(1, 3)]))], [], [], (524, [((-76), 3)]))] = true := by decide +kernel
theorem r476 {l : Launch} {D : va_G} {tys : List (ClassId × FieldType)} {A : Nat → Prop} {ad : Nat → Nat} (hAD : ∀ i : Nat, ad (1000 + i) = D.2 1000 i) : CRok l D tys A ad GG 3 g476 := CR_of_vrf (dep := 2) hAD (fun c hc => by cases hc) T2OK_nil w476
def g477 : CR := (127, [(2, 4, 4), (0, 0, 5), (0, 1, 6)], [], some (0, 0, 1), [], [])
theorem w477 : vrf GG [(3, g476)] [] 300 3 g477
  [(13, [(0, 5), (1, 6), (0, 6), (0, 6)], [(0, rA 4), (1, iA (0, [(1, 0)])), (2, iA (0, [(1, 1)])), (3, iA (0, [(1, 2)])), (4, iA (0, [(1, 3)]))], [], [], (1288, [((-188), 3)])),
  (52, [(0, 5), (1, 6), (0, 6), (0, 5), (0, 6), (1, 6)], [(0, rA 4), (1, iA (0, [(1, 0)])), (2, iA (0, [(1, 1)])), (3, iA (0, [(1, 2)])), (4, iA (0, [(1, 3)])), (5, iA (0, [(1, 4)]))], [], [((4, 4), iA (0, [(1, 5)]))], (1249, [((-188), 3)])),
  (56, [(0, 5), (1, 6), (0, 6), (0, 5), (0, 6), (1, 6)], [(0, rA 4), (1, iA (0, [(1, 0)])), (2, iA (0, [(1, 1)])), (3, iA (0, [(1, 2)])), (4, iA (0, [(1, 3)])), (5, iA (0, [(1, 4)]))], [], [((4, 4), iA (0, [(1, 5)]))], (1245, [((-188), 3)])),
  (57, [(0, 5), (1, 6), (0, 6), (0, 5), (0, 6), (0, 1), (1, 6)], [(0, rA 4), (1, iA (0, [(1, 0)])), (2, iA (0, [(1, 1)])), (3, iA (0, [(1, 2)])), (4, iA (0, [(1, 3)])), (5, iA (0, [(1, 4)]))], [iA (0, [(1, 5)])], [((4, 4), iA (0, [(1, 6)]))], (1244, [((-188), 3)])),
  (84, [(0, 5), (1, 6), (0, 6), (0, 5), (0, 6), (0, 1), (1, 6)], [(0, rA 4), (1, iA (0, [(1, 0)])), (2, iA (0, [(1, 1)])), (3, iA (0, [(1, 2)])), (4, iA (0, [(1, 3)])), (5, iA (0, [(1, 4)])), (6, iA (0, [(1, 5)]))], [], [((4, 4), iA (0, [(1, 6)]))], (1217, [((-188), 3)]))] = true := by decide +kernel
theorem r477 {l : Launch} {D : va_G} {tys : List (ClassId × FieldType)} {A : Nat → Prop} {ad : Nat → Nat} (hAD : ∀ i : Nat, ad (1000 + i) = D.2 1000 i) : CRok l D tys A ad GG 4 g477 := CR_of_vrf (dep := 3) hAD (List.forall_mem_cons.mpr ⟨r476 hAD, fun c hc => by cases hc⟩) T2OK_nil w477
def g478 : CR := (151, [(0, 0, 9), (0, 0, 0)], [], some (1, 1, 1), [], [])
theorem w478 : vrf GG [] [] 300 0 g478
  [(5, [(0, 9)], [(0, iA (0, [(1, 0)])), (1, iA (0, [])), (2, lA (1, [])), (4, iA (0, []))], [], [], (40, []))] = true := by decide +kernel
theorem r478 {l : Launch} {D : va_G} {tys : List (ClassId × FieldType)} {A : Nat → Prop} {ad : Nat → Nat} (hAD : ∀ i : Nat, ad (1000 + i) = D.2 1000 i) : CRok l D tys A ad GG 1 g478 := CR_of_vrf (dep := 0) hAD (fun c hc => by cases hc) T2OK_nil w478
def g479 : CR := (151, [(0, 0, 9), (0, 1, 1)], [], some (1, (-9223372036854775808), 9223372036854775807), [], [])
theorem w479 : vrf GG [] [] 300 0 g479
  [(5, [(0, 9), ((-9223372036854775808), 9223372036854775807), (0, 1)], [(0, iA (0, [(1, 0)])), (1, iA (1, [])), (2, lA (0, [(1, 1)])), (4, iA (0, [(1, 2)]))], [], [], (92, [((-52), 2)]))] = true := by decide +kernel
theorem r479 {l : Launch} {D : va_G} {tys : List (ClassId × FieldType)} {A : Nat → Prop} {ad : Nat → Nat} (hAD : ∀ i : Nat, ad (1000 + i) = D.2 1000 i) : CRok l D tys A ad GG 1 g479 := CR_of_vrf (dep := 0) hAD (fun c hc => by cases hc) T2OK_nil w479
def g480 : CR := (125, [(2, 50, 50), (2, 4, 4), (0, 1, 1), (0, 0, 0)], [], some (0, (-2147483648), 2147483647), [], [])
theorem w480 : vrf GG [(3, g475), (4, g477), (1, g478), (1, g479)] [] 300 4 g480
  [(15, [((-9223372036854775808), 9223372036854775807), (0, 6), (0, 9)], [(0, rA 50), (1, rA 4), (2, iA (1, [])), (3, iA (0, [])), (4, lA (0, [(1, 0)])), (6, iA (0, [(1, 1)]))], [], [((4, 1), iA (0, [(1, 2)]))], (1340, [((-196), 1)])),
  (86, [((-9223372036854775808), 9223372036854775807), (0, 5), (0, 1), (0, 9), (1, 6)], [(0, rA 50), (1, rA 4), (2, iA (1, [])), (3, iA (0, [])), (4, lA (0, [(1, 0)])), (6, iA (0, [(1, 1)])), (7, iA (0, [(1, 2)]))], [], [((4, 1), iA (0, [(1, 3)])), ((4, 4), iA (0, [(1, 4)]))], (1269, [((-196), 1)]))] = true := by decide +kernel
theorem r480 {l : Launch} {D : va_G} {tys : List (ClassId × FieldType)} {A : Nat → Prop} {ad : Nat → Nat} (hAD : ∀ i : Nat, ad (1000 + i) = D.2 1000 i) : CRok l D tys A ad GG 5 g480 := CR_of_vrf (dep := 4) hAD (List.forall_mem_cons.mpr ⟨r475 hAD, List.forall_mem_cons.mpr ⟨r477 hAD, List.forall_mem_cons.mpr ⟨r478 hAD, List.forall_mem_cons.mpr ⟨r479 hAD, fun c hc => by cases hc⟩⟩⟩⟩) T2OK_nil w480
def g481 : CR := (60, [(2, 0, 0), (0, 1, 1)], [], some (0, (-2147483648), 2147483647), [], [])
theorem w481 : vrf GG [(5, g480)] [] 300 5 g481
  [] = true := by decide +kernel
theorem r481 {l : Launch} {D : va_G} {tys : List (ClassId × FieldType)} {A : Nat → Prop} {ad : Nat → Nat} (hAD : ∀ i : Nat, ad (1000 + i) = D.2 1000 i) : CRok l D tys A ad GG 6 g481 := CR_of_vrf (dep := 5) hAD (List.forall_mem_cons.mpr ⟨r480 hAD, fun c hc => by cases hc⟩) T2OK_nil w481
def g482 : CR := (151, [(0, 0, 9), (0, 2, 2)], [], some (1, (-9223372036854775808), 9223372036854775807), [], [])
theorem w482 : vrf GG [] [] 300 0 g482
  [(5, [(0, 9), ((-9223372036854775808), 9223372036854775807), (0, 2)], [(0, iA (0, [(1, 0)])), (1, iA (2, [])), (2, lA (0, [(1, 1)])), (4, iA (0, [(1, 2)]))], [], [], (144, [((-52), 2)]))] = true := by decide +kernel
theorem r482 {l : Launch} {D : va_G} {tys : List (ClassId × FieldType)} {A : Nat → Prop} {ad : Nat → Nat} (hAD : ∀ i : Nat, ad (1000 + i) = D.2 1000 i) : CRok l D tys A ad GG 1 g482 := CR_of_vrf (dep := 0) hAD (fun c hc => by cases hc) T2OK_nil w482
def g483 : CR := (125, [(2, 50, 50), (2, 4, 4), (0, 2, 2), (0, 0, 0)], [], some (0, (-2147483648), 2147483647), [], [])
theorem w483 : vrf GG [(3, g475), (4, g477), (1, g478), (1, g479), (1, g482)] [] 300 4 g483
  [(15, [((-9223372036854775808), 9223372036854775807), (0, 6), (0, 9)], [(0, rA 50), (1, rA 4), (2, iA (2, [])), (3, iA (0, [])), (4, lA (0, [(1, 0)])), (6, iA (0, [(1, 1)]))], [], [((4, 1), iA (0, [(1, 2)]))], (1340, [((-196), 1)])),
  (86, [((-9223372036854775808), 9223372036854775807), (0, 5), (0, 2), (0, 9), (1, 6)], [(0, rA 50), (1, rA 4), (2, iA (2, [])), (3, iA (0, [])), (4, lA (0, [(1, 0)])), (6, iA (0, [(1, 1)])), (7, iA (0, [(1, 2)]))], [], [((4, 1), iA (0, [(1, 3)])), ((4, 4), iA (0, [(1, 4)]))], (1269, [((-196), 1)]))] = true := by decide +kernel
theorem r483 {l : Launch} {D : va_G} {tys : List (ClassId × FieldType)} {A : Nat → Prop} {ad : Nat → Nat} (hAD : ∀ i : Nat, ad (1000 + i) = D.2 1000 i) : CRok l D tys A ad GG 5 g483 := CR_of_vrf (dep := 4) hAD (List.forall_mem_cons.mpr ⟨r475 hAD, List.forall_mem_cons.mpr ⟨r477 hAD, List.forall_mem_cons.mpr ⟨r478 hAD, List.forall_mem_cons.mpr ⟨r479 hAD, List.forall_mem_cons.mpr ⟨r482 hAD, fun c hc => by cases hc⟩⟩⟩⟩⟩) T2OK_nil w483
def g484 : CR := (60, [(2, 0, 0), (0, 2, 2)], [], some (0, (-2147483648), 2147483647), [], [])
theorem w484 : vrf GG [(5, g483)] [] 300 5 g484
  [] = true := by decide +kernel
theorem r484 {l : Launch} {D : va_G} {tys : List (ClassId × FieldType)} {A : Nat → Prop} {ad : Nat → Nat} (hAD : ∀ i : Nat, ad (1000 + i) = D.2 1000 i) : CRok l D tys A ad GG 6 g484 := CR_of_vrf (dep := 5) hAD (List.forall_mem_cons.mpr ⟨r483 hAD, fun c hc => by cases hc⟩) T2OK_nil w484
def g485 : CR := (151, [(0, 0, 9), (0, 1, 2)], [], some (1, (-9223372036854775808), 9223372036854775807), [], [])
theorem w485 : vrf GG [] [] 300 0 g485
  [(5, [(0, 9), (1, 2), ((-9223372036854775808), 9223372036854775807), (0, 2)], [(0, iA (0, [(1, 0)])), (1, iA (0, [(1, 1)])), (2, lA (0, [(1, 2)])), (4, iA (0, [(1, 3)]))], [], [], (144, [((-52), 3)]))] = true := by decide +kernel
theorem r485 {l : Launch} {D : va_G} {tys : List (ClassId × FieldType)} {A : Nat → Prop} {ad : Nat → Nat} (hAD : ∀ i : Nat, ad (1000 + i) = D.2 1000 i) : CRok l D tys A ad GG 1 g485 := CR_of_vrf (dep := 0) hAD (fun c hc => by cases hc) T2OK_nil w485
def g486 : CR := (151, [(0, 0, 9), (0, 3, 3)], [], some (1, (-9223372036854775808), 9223372036854775807), [], [])
theorem w486 : vrf GG [] [] 300 0 g486
  [(5, [(0, 9), ((-9223372036854775808), 9223372036854775807), (0, 3)], [(0, iA (0, [(1, 0)])), (1, iA (3, [])), (2, lA (0, [(1, 1)])), (4, iA (0, [(1, 2)]))], [], [], (196, [((-52), 2)]))] = true := by decide +kernel
theorem r486 {l : Launch} {D : va_G} {tys : List (ClassId × FieldType)} {A : Nat → Prop} {ad : Nat → Nat} (hAD : ∀ i : Nat, ad (1000 + i) = D.2 1000 i) : CRok l D tys A ad GG 1 g486 := CR_of_vrf (dep := 0) hAD (fun c hc => by cases hc) T2OK_nil w486
def g487 : CR := (125, [(2, 50, 50), (2, 4, 4), (0, 3, 3), (0, 0, 0)], [], some (0, (-2147483648), 2147483647), [], [])
theorem w487 : vrf GG [(3, g475), (4, g477), (1, g478), (1, g486), (1, g485)] [] 300 4 g487
  [(15, [((-9223372036854775808), 9223372036854775807), (0, 6), (0, 9)], [(0, rA 50), (1, rA 4), (2, iA (3, [])), (3, iA (0, [])), (4, lA (0, [(1, 0)])), (6, iA (0, [(1, 1)]))], [], [((4, 1), iA (0, [(1, 2)]))], (1340, [((-196), 1)])),
  (86, [((-9223372036854775808), 9223372036854775807), (0, 5), (0, 3), (0, 9), (1, 6)], [(0, rA 50), (1, rA 4), (2, iA (3, [])), (3, iA (0, [])), (4, lA (0, [(1, 0)])), (6, iA (0, [(1, 1)])), (7, iA (0, [(1, 2)]))], [], [((4, 1), iA (0, [(1, 3)])), ((4, 4), iA (0, [(1, 4)]))], (1269, [((-196), 1)]))] = true := by decide +kernel
theorem r487 {l : Launch} {D : va_G} {tys : List (ClassId × FieldType)} {A : Nat → Prop} {ad : Nat → Nat} (hAD : ∀ i : Nat, ad (1000 + i) = D.2 1000 i) : CRok l D tys A ad GG 5 g487 := CR_of_vrf (dep := 4) hAD (List.forall_mem_cons.mpr ⟨r475 hAD, List.forall_mem_cons.mpr ⟨r477 hAD, List.forall_mem_cons.mpr ⟨r478 hAD, List.forall_mem_cons.mpr ⟨r486 hAD, List.forall_mem_cons.mpr ⟨r485 hAD, fun c hc => by cases hc⟩⟩⟩⟩⟩) T2OK_nil w487
def g488 : CR := (60, [(2, 0, 0), (0, 3, 3)], [], some (0, (-2147483648), 2147483647), [], [])
theorem w488 : vrf GG [(5, g487)] [] 300 5 g488
  [] = true := by decide +kernel
theorem r488 {l : Launch} {D : va_G} {tys : List (ClassId × FieldType)} {A : Nat → Prop} {ad : Nat → Nat} (hAD : ∀ i : Nat, ad (1000 + i) = D.2 1000 i) : CRok l D tys A ad GG 6 g488 := CR_of_vrf (dep := 5) hAD (List.forall_mem_cons.mpr ⟨r487 hAD, fun c hc => by cases hc⟩) T2OK_nil w488
def g489 : CR := (151, [(0, 0, 9), (0, 1, 3)], [], some (1, (-9223372036854775808), 9223372036854775807), [], [])
theorem w489 : vrf GG [] [] 300 0 g489
  [(5, [(0, 9), (1, 3), ((-9223372036854775808), 9223372036854775807), (0, 3)], [(0, iA (0, [(1, 0)])), (1, iA (0, [(1, 1)])), (2, lA (0, [(1, 2)])), (4, iA (0, [(1, 3)]))], [], [], (196, [((-52), 3)]))] = true := by decide +kernel
theorem r489 {l : Launch} {D : va_G} {tys : List (ClassId × FieldType)} {A : Nat → Prop} {ad : Nat → Nat} (hAD : ∀ i : Nat, ad (1000 + i) = D.2 1000 i) : CRok l D tys A ad GG 1 g489 := CR_of_vrf (dep := 0) hAD (fun c hc => by cases hc) T2OK_nil w489
def g490 : CR := (151, [(0, 0, 9), (0, 4, 4)], [], some (1, (-9223372036854775808), 9223372036854775807), [], [])
theorem w490 : vrf GG [] [] 300 0 g490
  [(5, [(0, 9), ((-9223372036854775808), 9223372036854775807), (0, 4)], [(0, iA (0, [(1, 0)])), (1, iA (4, [])), (2, lA (0, [(1, 1)])), (4, iA (0, [(1, 2)]))], [], [], (248, [((-52), 2)]))] = true := by decide +kernel
theorem r490 {l : Launch} {D : va_G} {tys : List (ClassId × FieldType)} {A : Nat → Prop} {ad : Nat → Nat} (hAD : ∀ i : Nat, ad (1000 + i) = D.2 1000 i) : CRok l D tys A ad GG 1 g490 := CR_of_vrf (dep := 0) hAD (fun c hc => by cases hc) T2OK_nil w490
def g491 : CR := (125, [(2, 50, 50), (2, 4, 4), (0, 4, 4), (0, 0, 0)], [], some (0, (-2147483648), 2147483647), [], [])
theorem w491 : vrf GG [(3, g475), (4, g477), (1, g478), (1, g490), (1, g489)] [] 300 4 g491
  [(15, [((-9223372036854775808), 9223372036854775807), (0, 6), (0, 9)], [(0, rA 50), (1, rA 4), (2, iA (4, [])), (3, iA (0, [])), (4, lA (0, [(1, 0)])), (6, iA (0, [(1, 1)]))], [], [((4, 1), iA (0, [(1, 2)]))], (1340, [((-196), 1)])),
  (86, [((-9223372036854775808), 9223372036854775807), (0, 5), (0, 4), (0, 9), (1, 6)], [(0, rA 50), (1, rA 4), (2, iA (4, [])), (3, iA (0, [])), (4, lA (0, [(1, 0)])), (6, iA (0, [(1, 1)])), (7, iA (0, [(1, 2)]))], [], [((4, 1), iA (0, [(1, 3)])), ((4, 4), iA (0, [(1, 4)]))], (1269, [((-196), 1)]))] = true := by decide +kernel
theorem r491 {l : Launch} {D : va_G} {tys : List (ClassId × FieldType)} {A : Nat → Prop} {ad : Nat → Nat} (hAD : ∀ i : Nat, ad (1000 + i) = D.2 1000 i) : CRok l D tys A ad GG 5 g491 := CR_of_vrf (dep := 4) hAD (List.forall_mem_cons.mpr ⟨r475 hAD, List.forall_mem_cons.mpr ⟨r477 hAD, List.forall_mem_cons.mpr ⟨r478 hAD, List.forall_mem_cons.mpr ⟨r490 hAD, List.forall_mem_cons.mpr ⟨r489 hAD, fun c hc => by cases hc⟩⟩⟩⟩⟩) T2OK_nil w491
def g492 : CR := (60, [(2, 0, 0), (0, 4, 4)], [], some (0, (-2147483648), 2147483647), [], [])
theorem w492 : vrf GG [(5, g491)] [] 300 5 g492
  [] = true := by decide +kernel
theorem r492 {l : Launch} {D : va_G} {tys : List (ClassId × FieldType)} {A : Nat → Prop} {ad : Nat → Nat} (hAD : ∀ i : Nat, ad (1000 + i) = D.2 1000 i) : CRok l D tys A ad GG 6 g492 := CR_of_vrf (dep := 5) hAD (List.forall_mem_cons.mpr ⟨r491 hAD, fun c hc => by cases hc⟩) T2OK_nil w492
def g493 : CR := (151, [(0, 0, 9), (0, 1, 4)], [], some (1, (-9223372036854775808), 9223372036854775807), [], [])
theorem w493 : vrf GG [] [] 300 0 g493
  [(5, [(0, 9), (1, 4), ((-9223372036854775808), 9223372036854775807), (0, 4)], [(0, iA (0, [(1, 0)])), (1, iA (0, [(1, 1)])), (2, lA (0, [(1, 2)])), (4, iA (0, [(1, 3)]))], [], [], (248, [((-52), 3)]))] = true := by decide +kernel
theorem r493 {l : Launch} {D : va_G} {tys : List (ClassId × FieldType)} {A : Nat → Prop} {ad : Nat → Nat} (hAD : ∀ i : Nat, ad (1000 + i) = D.2 1000 i) : CRok l D tys A ad GG 1 g493 := CR_of_vrf (dep := 0) hAD (fun c hc => by cases hc) T2OK_nil w493
def g494 : CR := (151, [(0, 0, 9), (0, 5, 5)], [], some (1, (-9223372036854775808), 9223372036854775807), [], [])
theorem w494 : vrf GG [] [] 300 0 g494
  [(5, [(0, 9), ((-9223372036854775808), 9223372036854775807), (0, 5)], [(0, iA (0, [(1, 0)])), (1, iA (5, [])), (2, lA (0, [(1, 1)])), (4, iA (0, [(1, 2)]))], [], [], (300, [((-52), 2)]))] = true := by decide +kernel
theorem r494 {l : Launch} {D : va_G} {tys : List (ClassId × FieldType)} {A : Nat → Prop} {ad : Nat → Nat} (hAD : ∀ i : Nat, ad (1000 + i) = D.2 1000 i) : CRok l D tys A ad GG 1 g494 := CR_of_vrf (dep := 0) hAD (fun c hc => by cases hc) T2OK_nil w494
def g495 : CR := (125, [(2, 50, 50), (2, 4, 4), (0, 5, 5), (0, 0, 0)], [], some (0, (-2147483648), 2147483647), [], [])
theorem w495 : vrf GG [(3, g475), (4, g477), (1, g478), (1, g494), (1, g493)] [] 300 4 g495
  [(15, [((-9223372036854775808), 9223372036854775807), (0, 6), (0, 9)], [(0, rA 50), (1, rA 4), (2, iA (5, [])), (3, iA (0, [])), (4, lA (0, [(1, 0)])), (6, iA (0, [(1, 1)]))], [], [((4, 1), iA (0, [(1, 2)]))], (1340, [((-196), 1)])),
  (86, [((-9223372036854775808), 9223372036854775807), (0, 5), (0, 5), (0, 9), (1, 6)], [(0, rA 50), (1, rA 4), (2, iA (5, [])), (3, iA (0, [])), (4, lA (0, [(1, 0)])), (6, iA (0, [(1, 1)])), (7, iA (0, [(1, 2)]))], [], [((4, 1), iA (0, [(1, 3)])), ((4, 4), iA (0, [(1, 4)]))], (1269, [((-196), 1)]))] = true := by decide +kernel
theorem r495 {l : Launch} {D : va_G} {tys : List (ClassId × FieldType)} {A : Nat → Prop} {ad : Nat → Nat} (hAD : ∀ i : Nat, ad (1000 + i) = D.2 1000 i) : CRok l D tys A ad GG 5 g495 := CR_of_vrf (dep := 4) hAD (List.forall_mem_cons.mpr ⟨r475 hAD, List.forall_mem_cons.mpr ⟨r477 hAD, List.forall_mem_cons.mpr ⟨r478 hAD, List.forall_mem_cons.mpr ⟨r494 hAD, List.forall_mem_cons.mpr ⟨r493 hAD, fun c hc => by cases hc⟩⟩⟩⟩⟩) T2OK_nil w495
def g496 : CR := (60, [(2, 0, 0), (0, 5, 5)], [], some (0, (-2147483648), 2147483647), [], [])
theorem w496 : vrf GG [(5, g495)] [] 300 5 g496
  [] = true := by decide +kernel
theorem r496 {l : Launch} {D : va_G} {tys : List (ClassId × FieldType)} {A : Nat → Prop} {ad : Nat → Nat} (hAD : ∀ i : Nat, ad (1000 + i) = D.2 1000 i) : CRok l D tys A ad GG 6 g496 := CR_of_vrf (dep := 5) hAD (List.forall_mem_cons.mpr ⟨r495 hAD, fun c hc => by cases hc⟩) T2OK_nil w496
def g497 : CR := (151, [(0, 0, 9), (0, 1, 5)], [], some (1, (-9223372036854775808), 9223372036854775807), [], [])
theorem w497 : vrf GG [] [] 300 0 g497
  [(5, [(0, 9), (1, 5), ((-9223372036854775808), 9223372036854775807), (0, 5)], [(0, iA (0, [(1, 0)])), (1, iA (0, [(1, 1)])), (2, lA (0, [(1, 2)])), (4, iA (0, [(1, 3)]))], [], [], (300, [((-52), 3)]))] = true := by decide +kernel
theorem r497 {l : Launch} {D : va_G} {tys : List (ClassId × FieldType)} {A : Nat → Prop} {ad : Nat → Nat} (hAD : ∀ i : Nat, ad (1000 + i) = D.2 1000 i) : CRok l D tys A ad GG 1 g497 := CR_of_vrf (dep := 0) hAD (fun c hc => by cases hc) T2OK_nil w497
def g498 : CR := (151, [(0, 0, 9), (0, 6, 6)], [], some (1, (-9223372036854775808), 9223372036854775807), [], [])
theorem w498 : vrf GG [] [] 300 0 g498
  [(5, [(0, 9), ((-9223372036854775808), 9223372036854775807), (0, 6)], [(0, iA (0, [(1, 0)])), (1, iA (6, [])), (2, lA (0, [(1, 1)])), (4, iA (0, [(1, 2)]))], [], [], (352, [((-52), 2)]))] = true := by decide +kernel
theorem r498 {l : Launch} {D : va_G} {tys : List (ClassId × FieldType)} {A : Nat → Prop} {ad : Nat → Nat} (hAD : ∀ i : Nat, ad (1000 + i) = D.2 1000 i) : CRok l D tys A ad GG 1 g498 := CR_of_vrf (dep := 0) hAD (fun c hc => by cases hc) T2OK_nil w498
def g499 : CR := (125, [(2, 50, 50), (2, 4, 4), (0, 6, 6), (0, 0, 0)], [], some (0, (-2147483648), 2147483647), [], [])
theorem w499 : vrf GG [(3, g475), (4, g477), (1, g478), (1, g498), (1, g497)] [] 300 4 g499
  [(15, [((-9223372036854775808), 9223372036854775807), (0, 6), (0, 9)], [(0, rA 50), (1, rA 4), (2, iA (6, [])), (3, iA (0, [])), (4, lA (0, [(1, 0)])), (6, iA (0, [(1, 1)]))], [], [((4, 1), iA (0, [(1, 2)]))], (1340, [((-196), 1)])),
  (86, [((-9223372036854775808), 9223372036854775807), (0, 5), (0, 6), (0, 9), (1, 6)], [(0, rA 50), (1, rA 4), (2, iA (6, [])), (3, iA (0, [])), (4, lA (0, [(1, 0)])), (6, iA (0, [(1, 1)])), (7, iA (0, [(1, 2)]))], [], [((4, 1), iA (0, [(1, 3)])), ((4, 4), iA (0, [(1, 4)]))], (1269, [((-196), 1)]))] = true := by decide +kernel
theorem r499 {l : Launch} {D : va_G} {tys : List (ClassId × FieldType)} {A : Nat → Prop} {ad : Nat → Nat} (hAD : ∀ i : Nat, ad (1000 + i) = D.2 1000 i) : CRok l D tys A ad GG 5 g499 := CR_of_vrf (dep := 4) hAD (List.forall_mem_cons.mpr ⟨r475 hAD, List.forall_mem_cons.mpr ⟨r477 hAD, List.forall_mem_cons.mpr ⟨r478 hAD, List.forall_mem_cons.mpr ⟨r498 hAD, List.forall_mem_cons.mpr ⟨r497 hAD, fun c hc => by cases hc⟩⟩⟩⟩⟩) T2OK_nil w499
def g500 : CR := (60, [(2, 0, 0), (0, 6, 6)], [], some (0, (-2147483648), 2147483647), [], [])
theorem w500 : vrf GG [(5, g499)] [] 300 5 g500
  [] = true := by decide +kernel
theorem r500 {l : Launch} {D : va_G} {tys : List (ClassId × FieldType)} {A : Nat → Prop} {ad : Nat → Nat} (hAD : ∀ i : Nat, ad (1000 + i) = D.2 1000 i) : CRok l D tys A ad GG 6 g500 := CR_of_vrf (dep := 5) hAD (List.forall_mem_cons.mpr ⟨r499 hAD, fun c hc => by cases hc⟩) T2OK_nil w500
def g501 : CR := (325, [(2, 90, 90), (0, (-2147483648), 0)], [((91, 0), (0, 0, 0))], some (0, (-2), (-2)), [], [])
theorem w501 : vrf GG [] [] 300 1 g501
  [] = true := by decide +kernel
theorem r501 {l : Launch} {D : va_G} {tys : List (ClassId × FieldType)} {A : Nat → Prop} {ad : Nat → Nat} (hAD : ∀ i : Nat, ad (1000 + i) = D.2 1000 i) : CRok l D tys A ad GG 2 g501 := CR_of_vrf (dep := 1) hAD (fun c hc => by cases hc) T2OK_nil w501
def g502 : CR := (325, [(2, 90, 90), (0, (-2147483648), 0)], [((91, 0), (0, 1, 9))], some (0, (-2), (-2)), [], [])
theorem w502 : vrf GG [] [] 300 1 g502
  [] = true := by decide +kernel
theorem r502 {l : Launch} {D : va_G} {tys : List (ClassId × FieldType)} {A : Nat → Prop} {ad : Nat → Nat} (hAD : ∀ i : Nat, ad (1000 + i) = D.2 1000 i) : CRok l D tys A ad GG 2 g502 := CR_of_vrf (dep := 1) hAD (fun c hc => by cases hc) T2OK_nil w502
def g503 : CR := (325, [(2, 90, 90), (0, 7, 2147483647)], [((91, 0), (0, 0, 0))], some (0, (-2), (-2)), [], [])
theorem w503 : vrf GG [] [] 300 1 g503
  [] = true := by decide +kernel
theorem r503 {l : Launch} {D : va_G} {tys : List (ClassId × FieldType)} {A : Nat → Prop} {ad : Nat → Nat} (hAD : ∀ i : Nat, ad (1000 + i) = D.2 1000 i) : CRok l D tys A ad GG 2 g503 := CR_of_vrf (dep := 1) hAD (fun c hc => by cases hc) T2OK_nil w503
def g504 : CR := (325, [(2, 90, 90), (0, 7, 2147483647)], [((91, 0), (0, 1, 9))], some (0, (-2), (-2)), [], [])
theorem w504 : vrf GG [] [] 300 1 g504
  [] = true := by decide +kernel
theorem r504 {l : Launch} {D : va_G} {tys : List (ClassId × FieldType)} {A : Nat → Prop} {ad : Nat → Nat} (hAD : ∀ i : Nat, ad (1000 + i) = D.2 1000 i) : CRok l D tys A ad GG 2 g504 := CR_of_vrf (dep := 1) hAD (fun c hc => by cases hc) T2OK_nil w504
def g505 : CR := (325, [(2, 90, 90), (0, 1, 1)], [((91, 0), (0, 0, 0))], some (0, (-2), 0), [], [])
theorem w505 : vrf GG [(1, g344)] [] 300 1 g505
  [(26, [(1, 2147483647)], [(0, rA 90), (1, iA (1, [])), (2, iA (0, [])), (3, iA (0, []))], [], [((91, 0), iA (0, [])), ((91, 5), iA (0, [(1, 0)]))], (78, []))] = true := by decide +kernel
theorem r505 {l : Launch} {D : va_G} {tys : List (ClassId × FieldType)} {A : Nat → Prop} {ad : Nat → Nat} (hAD : ∀ i : Nat, ad (1000 + i) = D.2 1000 i) : CRok l D tys A ad GG 2 g505 := CR_of_vrf (dep := 1) hAD (List.forall_mem_cons.mpr ⟨r344 hAD, fun c hc => by cases hc⟩) T2OK_nil w505
def g506 : CR := (323, [(2, 90, 90), (0, 0, 5)], [((91, 0), (0, 1, 9))], some (0, 0, 1), [], [])
theorem w506 : vrf GG [] [] 300 1 g506
  [(2, [(0, 5), (0, 6), (1, 9)], [(0, rA 90), (1, iA (0, [(1, 0)])), (2, iA (0, [(1, 1)]))], [], [((91, 0), iA (0, [(1, 2)]))], (638, [((-92), 1)]))] = true := by decide +kernel
theorem r506 {l : Launch} {D : va_G} {tys : List (ClassId × FieldType)} {A : Nat → Prop} {ad : Nat → Nat} (hAD : ∀ i : Nat, ad (1000 + i) = D.2 1000 i) : CRok l D tys A ad GG 2 g506 := CR_of_vrf (dep := 1) hAD (fun c hc => by cases hc) T2OK_nil w506
def g507 : CR := (324, [(2, 90, 90)], [((91, 0), (0, 1, 9))], some (0, 0, 1), [], [])
theorem w507 : vrf GG [(2, g506)] [] 300 2 g507
  [(2, [(0, 6), (1, 9)], [(0, rA 90), (1, iA (0, [(1, 0)]))], [], [((91, 0), iA (0, [(1, 1)]))], (442, [((-64), 0)]))] = true := by decide +kernel
theorem r507 {l : Launch} {D : va_G} {tys : List (ClassId × FieldType)} {A : Nat → Prop} {ad : Nat → Nat} (hAD : ∀ i : Nat, ad (1000 + i) = D.2 1000 i) : CRok l D tys A ad GG 3 g507 := CR_of_vrf (dep := 2) hAD (List.forall_mem_cons.mpr ⟨r506 hAD, fun c hc => by cases hc⟩) T2OK_nil w507
def g508 : CR := (325, [(2, 90, 90), (0, 1, 1)], [((91, 0), (0, 1, 9))], some (0, (-2147483648), 2147483647), [], [90, 105])
theorem w508 : vrf GG [(1, g383), (1, g384), (3, g507)] [] 300 3 g508
  [(26, [((-2147483648), 2147483647), (0, 9), (1, 9), (1, 2147483647)], [(0, rA 90), (1, iA (1, [])), (2, iA (0, [(1, 0)])), (3, iA (0, [(1, 1)]))], [], [((91, 0), iA (0, [(1, 2)])), ((91, 5), iA (0, [(1, 3)]))], (1266, [((-132), 1)])),
  (54, [((-2147483648), 2147483647), (0, 8), (0, 1), ((-2147483648), 2147483647), (1, 9), (1, 2147483647)], [(0, rA 90), (1, iA (1, [])), (2, iA (0, [(1, 0)])), (3, iA (0, [(1, 1)]))], [iA (0, [(1, 2)]), iA (0, [(1, 3)])], [((91, 0), iA (0, [(1, 4)])), ((91, 5), iA (0, [(1, 5)]))], (1238, [((-132), 1)]))] = true := by decide +kernel
theorem r508 {l : Launch} {D : va_G} {tys : List (ClassId × FieldType)} {A : Nat → Prop} {ad : Nat → Nat} (hAD : ∀ i : Nat, ad (1000 + i) = D.2 1000 i) : CRok l D tys A ad GG 4 g508 := CR_of_vrf (dep := 3) hAD (List.forall_mem_cons.mpr ⟨r383 hAD, List.forall_mem_cons.mpr ⟨r384 hAD, List.forall_mem_cons.mpr ⟨r507 hAD, fun c hc => by cases hc⟩⟩⟩) T2OK_nil w508
def g509 : CR := (325, [(2, 90, 90), (0, 2, 2)], [((91, 0), (0, 0, 0))], some (0, (-2), 0), [], [])
theorem w509 : vrf GG [(1, g386)] [] 300 1 g509
  [(26, [(1, 2147483647)], [(0, rA 90), (1, iA (2, [])), (2, iA (0, [])), (3, iA (0, []))], [], [((91, 0), iA (0, [])), ((91, 5), iA (0, [(1, 0)]))], (78, []))] = true := by decide +kernel
theorem r509 {l : Launch} {D : va_G} {tys : List (ClassId × FieldType)} {A : Nat → Prop} {ad : Nat → Nat} (hAD : ∀ i : Nat, ad (1000 + i) = D.2 1000 i) : CRok l D tys A ad GG 2 g509 := CR_of_vrf (dep := 1) hAD (List.forall_mem_cons.mpr ⟨r386 hAD, fun c hc => by cases hc⟩) T2OK_nil w509
def g510 : CR := (325, [(2, 90, 90), (0, 2, 2)], [((91, 0), (0, 1, 9))], some (0, (-2147483648), 2147483647), [], [90, 105])
theorem w510 : vrf GG [(1, g388), (1, g389), (3, g507)] [] 300 3 g510
  [(26, [((-2147483648), 2147483647), ((-2147483647), 2147483647), (1, 9), (1, 2147483647)], [(0, rA 90), (1, iA (2, [])), (2, iA (0, [(1, 0)])), (3, iA (0, [(1, 1)]))], [], [((91, 0), iA (0, [(1, 2)])), ((91, 5), iA (0, [(1, 3)]))], (283467841482, [((-132), 1)])),
  (54, [((-2147483648), 2147483647), ((-2147483647), 2147483646), (0, 1), ((-2147483648), 2147483647), (1, 9), (1, 2147483647)], [(0, rA 90), (1, iA (2, [])), (2, iA (0, [(1, 0)])), (3, iA (0, [(1, 1)]))], [iA (0, [(1, 2)]), iA (0, [(1, 3)])], [((91, 0), iA (0, [(1, 4)])), ((91, 5), iA (0, [(1, 5)]))], (283467841454, [((-132), 1)]))] = true := by decide +kernel
theorem r510 {l : Launch} {D : va_G} {tys : List (ClassId × FieldType)} {A : Nat → Prop} {ad : Nat → Nat} (hAD : ∀ i : Nat, ad (1000 + i) = D.2 1000 i) : CRok l D tys A ad GG 4 g510 := CR_of_vrf (dep := 3) hAD (List.forall_mem_cons.mpr ⟨r388 hAD, List.forall_mem_cons.mpr ⟨r389 hAD, List.forall_mem_cons.mpr ⟨r507 hAD, fun c hc => by cases hc⟩⟩⟩) T2OK_nil w510
def g511 : CR := (325, [(2, 90, 90), (0, 3, 3)], [((91, 0), (0, 0, 0))], some (0, (-2), 0), [], [])
theorem w511 : vrf GG [(1, g391)] [] 300 1 g511
  [(26, [(1, 2147483647)], [(0, rA 90), (1, iA (3, [])), (2, iA (0, [])), (3, iA (0, []))], [], [((91, 0), iA (0, [])), ((91, 5), iA (0, [(1, 0)]))], (78, []))] = true := by decide +kernel
theorem r511 {l : Launch} {D : va_G} {tys : List (ClassId × FieldType)} {A : Nat → Prop} {ad : Nat → Nat} (hAD : ∀ i : Nat, ad (1000 + i) = D.2 1000 i) : CRok l D tys A ad GG 2 g511 := CR_of_vrf (dep := 1) hAD (List.forall_mem_cons.mpr ⟨r391 hAD, fun c hc => by cases hc⟩) T2OK_nil w511
def g512 : CR := (325, [(2, 90, 90), (0, 3, 3)], [((91, 0), (0, 1, 9))], some (0, (-2147483648), 2147483647), [], [90, 105])
theorem w512 : vrf GG [(1, g393), (1, g394), (3, g507)] [] 300 3 g512
  [(26, [((-2147483648), 2147483647), ((-2147483647), 2147483647), (1, 9), (1, 2147483647)], [(0, rA 90), (1, iA (3, [])), (2, iA (0, [(1, 0)])), (3, iA (0, [(1, 1)]))], [], [((91, 0), iA (0, [(1, 2)])), ((91, 5), iA (0, [(1, 3)]))], (283467841482, [((-132), 1)])),
  (54, [((-2147483648), 2147483647), ((-2147483647), 2147483646), (0, 1), ((-2147483648), 2147483647), (1, 9), (1, 2147483647)], [(0, rA 90), (1, iA (3, [])), (2, iA (0, [(1, 0)])), (3, iA (0, [(1, 1)]))], [iA (0, [(1, 2)]), iA (0, [(1, 3)])], [((91, 0), iA (0, [(1, 4)])), ((91, 5), iA (0, [(1, 5)]))], (283467841454, [((-132), 1)]))] = true := by decide +kernel
theorem r512 {l : Launch} {D : va_G} {tys : List (ClassId × FieldType)} {A : Nat → Prop} {ad : Nat → Nat} (hAD : ∀ i : Nat, ad (1000 + i) = D.2 1000 i) : CRok l D tys A ad GG 4 g512 := CR_of_vrf (dep := 3) hAD (List.forall_mem_cons.mpr ⟨r393 hAD, List.forall_mem_cons.mpr ⟨r394 hAD, List.forall_mem_cons.mpr ⟨r507 hAD, fun c hc => by cases hc⟩⟩⟩) T2OK_nil w512
def g513 : CR := (325, [(2, 90, 90), (0, 4, 4)], [((91, 0), (0, 0, 0))], some (0, (-2), 0), [], [])
theorem w513 : vrf GG [(1, g396)] [] 300 1 g513
  [(26, [(1, 2147483647)], [(0, rA 90), (1, iA (4, [])), (2, iA (0, [])), (3, iA (0, []))], [], [((91, 0), iA (0, [])), ((91, 5), iA (0, [(1, 0)]))], (78, []))] = true := by decide +kernel
theorem r513 {l : Launch} {D : va_G} {tys : List (ClassId × FieldType)} {A : Nat → Prop} {ad : Nat → Nat} (hAD : ∀ i : Nat, ad (1000 + i) = D.2 1000 i) : CRok l D tys A ad GG 2 g513 := CR_of_vrf (dep := 1) hAD (List.forall_mem_cons.mpr ⟨r396 hAD, fun c hc => by cases hc⟩) T2OK_nil w513
def g514 : CR := (325, [(2, 90, 90), (0, 4, 4)], [((91, 0), (0, 1, 9))], some (0, (-2147483648), 2147483647), [], [90, 105])
theorem w514 : vrf GG [(1, g398), (1, g399), (3, g507)] [] 300 3 g514
  [(26, [((-2147483648), 2147483647), ((-2147483647), 2147483647), (1, 9), (1, 2147483647)], [(0, rA 90), (1, iA (4, [])), (2, iA (0, [(1, 0)])), (3, iA (0, [(1, 1)]))], [], [((91, 0), iA (0, [(1, 2)])), ((91, 5), iA (0, [(1, 3)]))], (283467841482, [((-132), 1)])),
  (54, [((-2147483648), 2147483647), ((-2147483647), 2147483646), (0, 1), ((-2147483648), 2147483647), (1, 9), (1, 2147483647)], [(0, rA 90), (1, iA (4, [])), (2, iA (0, [(1, 0)])), (3, iA (0, [(1, 1)]))], [iA (0, [(1, 2)]), iA (0, [(1, 3)])], [((91, 0), iA (0, [(1, 4)])), ((91, 5), iA (0, [(1, 5)]))], (283467841454, [((-132), 1)]))] = true := by decide +kernel
theorem r514 {l : Launch} {D : va_G} {tys : List (ClassId × FieldType)} {A : Nat → Prop} {ad : Nat → Nat} (hAD : ∀ i : Nat, ad (1000 + i) = D.2 1000 i) : CRok l D tys A ad GG 4 g514 := CR_of_vrf (dep := 3) hAD (List.forall_mem_cons.mpr ⟨r398 hAD, List.forall_mem_cons.mpr ⟨r399 hAD, List.forall_mem_cons.mpr ⟨r507 hAD, fun c hc => by cases hc⟩⟩⟩) T2OK_nil w514
def g515 : CR := (325, [(2, 90, 90), (0, 5, 5)], [((91, 0), (0, 0, 0))], some (0, (-2), 0), [], [])
theorem w515 : vrf GG [(1, g401)] [] 300 1 g515
  [(26, [(1, 2147483647)], [(0, rA 90), (1, iA (5, [])), (2, iA (0, [])), (3, iA (0, []))], [], [((91, 0), iA (0, [])), ((91, 5), iA (0, [(1, 0)]))], (78, []))] = true := by decide +kernel
theorem r515 {l : Launch} {D : va_G} {tys : List (ClassId × FieldType)} {A : Nat → Prop} {ad : Nat → Nat} (hAD : ∀ i : Nat, ad (1000 + i) = D.2 1000 i) : CRok l D tys A ad GG 2 g515 := CR_of_vrf (dep := 1) hAD (List.forall_mem_cons.mpr ⟨r401 hAD, fun c hc => by cases hc⟩) T2OK_nil w515
def g516 : CR := (325, [(2, 90, 90), (0, 5, 5)], [((91, 0), (0, 1, 9))], some (0, (-2147483648), 2147483647), [], [90, 105])
theorem w516 : vrf GG [(1, g403), (1, g404), (3, g507)] [] 300 3 g516
  [(26, [((-2147483648), 2147483647), ((-2147483647), 2147483647), (1, 9), (1, 2147483647)], [(0, rA 90), (1, iA (5, [])), (2, iA (0, [(1, 0)])), (3, iA (0, [(1, 1)]))], [], [((91, 0), iA (0, [(1, 2)])), ((91, 5), iA (0, [(1, 3)]))], (283467841482, [((-132), 1)])),
  (54, [((-2147483648), 2147483647), ((-2147483647), 2147483646), (0, 1), ((-2147483648), 2147483647), (1, 9), (1, 2147483647)], [(0, rA 90), (1, iA (5, [])), (2, iA (0, [(1, 0)])), (3, iA (0, [(1, 1)]))], [iA (0, [(1, 2)]), iA (0, [(1, 3)])], [((91, 0), iA (0, [(1, 4)])), ((91, 5), iA (0, [(1, 5)]))], (283467841454, [((-132), 1)]))] = true := by decide +kernel
theorem r516 {l : Launch} {D : va_G} {tys : List (ClassId × FieldType)} {A : Nat → Prop} {ad : Nat → Nat} (hAD : ∀ i : Nat, ad (1000 + i) = D.2 1000 i) : CRok l D tys A ad GG 4 g516 := CR_of_vrf (dep := 3) hAD (List.forall_mem_cons.mpr ⟨r403 hAD, List.forall_mem_cons.mpr ⟨r404 hAD, List.forall_mem_cons.mpr ⟨r507 hAD, fun c hc => by cases hc⟩⟩⟩) T2OK_nil w516
def g517 : CR := (325, [(2, 90, 90), (0, 6, 6)], [((91, 0), (0, 0, 0))], some (0, (-2), 0), [], [])
theorem w517 : vrf GG [(1, g406)] [] 300 1 g517
  [(26, [(1, 2147483647)], [(0, rA 90), (1, iA (6, [])), (2, iA (0, [])), (3, iA (0, []))], [], [((91, 0), iA (0, [])), ((91, 5), iA (0, [(1, 0)]))], (78, []))] = true := by decide +kernel
theorem r517 {l : Launch} {D : va_G} {tys : List (ClassId × FieldType)} {A : Nat → Prop} {ad : Nat → Nat} (hAD : ∀ i : Nat, ad (1000 + i) = D.2 1000 i) : CRok l D tys A ad GG 2 g517 := CR_of_vrf (dep := 1) hAD (List.forall_mem_cons.mpr ⟨r406 hAD, fun c hc => by cases hc⟩) T2OK_nil w517
def g518 : CR := (325, [(2, 90, 90), (0, 6, 6)], [((91, 0), (0, 1, 9))], some (0, (-2147483648), 2147483647), [], [90, 105])
theorem w518 : vrf GG [(1, g408), (1, g409), (3, g507)] [] 300 3 g518
  [(26, [((-2147483648), 2147483647), ((-2147483647), 2147483647), (1, 9), (1, 2147483647)], [(0, rA 90), (1, iA (6, [])), (2, iA (0, [(1, 0)])), (3, iA (0, [(1, 1)]))], [], [((91, 0), iA (0, [(1, 2)])), ((91, 5), iA (0, [(1, 3)]))], (283467841482, [((-132), 1)])),
  (54, [((-2147483648), 2147483647), ((-2147483647), 2147483646), (0, 1), ((-2147483648), 2147483647), (1, 9), (1, 2147483647)], [(0, rA 90), (1, iA (6, [])), (2, iA (0, [(1, 0)])), (3, iA (0, [(1, 1)]))], [iA (0, [(1, 2)]), iA (0, [(1, 3)])], [((91, 0), iA (0, [(1, 4)])), ((91, 5), iA (0, [(1, 5)]))], (283467841454, [((-132), 1)]))] = true := by decide +kernel
theorem r518 {l : Launch} {D : va_G} {tys : List (ClassId × FieldType)} {A : Nat → Prop} {ad : Nat → Nat} (hAD : ∀ i : Nat, ad (1000 + i) = D.2 1000 i) : CRok l D tys A ad GG 4 g518 := CR_of_vrf (dep := 3) hAD (List.forall_mem_cons.mpr ⟨r408 hAD, List.forall_mem_cons.mpr ⟨r409 hAD, List.forall_mem_cons.mpr ⟨r507 hAD, fun c hc => by cases hc⟩⟩⟩) T2OK_nil w518
def g519 : CR := (151, [(0, 0, 9), (0, (-2147483648), 6)], [], some (1, (-9223372036854775808), 9223372036854775807), [], [])
theorem w519 : vrf GG [] [] 300 0 g519
  [(5, [(0, 9), ((-2147483648), 6), ((-9223372036854775808), 9223372036854775807), (0, 6)], [(0, iA (0, [(1, 0)])), (1, iA (0, [(1, 1)])), (2, lA (0, [(1, 2)])), (4, iA (0, [(1, 3)]))], [], [], (352, [((-52), 3)]))] = true := by decide +kernel
theorem r519 {l : Launch} {D : va_G} {tys : List (ClassId × FieldType)} {A : Nat → Prop} {ad : Nat → Nat} (hAD : ∀ i : Nat, ad (1000 + i) = D.2 1000 i) : CRok l D tys A ad GG 1 g519 := CR_of_vrf (dep := 0) hAD (fun c hc => by cases hc) T2OK_nil w519
def g520 : CR := (125, [(2, 50, 50), (2, 4, 4), (0, 1, 6), (0, 0, 0)], [], some (0, (-2147483648), 2147483647), [], [])
theorem w520 : vrf GG [(3, g475), (4, g477), (1, g478), (1, g519)] [] 300 4 g520
  [(15, [(1, 6), ((-9223372036854775808), 9223372036854775807), (0, 6), (0, 9)], [(0, rA 50), (1, rA 4), (2, iA (0, [(1, 0)])), (3, iA (0, [])), (4, lA (0, [(1, 1)])), (6, iA (0, [(1, 2)]))], [], [((4, 1), iA (0, [(1, 3)]))], (1340, [((-196), 2)])),
  (86, [(1, 6), ((-9223372036854775808), 9223372036854775807), (0, 5), (0, 6), (0, 9), (1, 6)], [(0, rA 50), (1, rA 4), (2, iA (0, [(1, 0)])), (3, iA (0, [])), (4, lA (0, [(1, 1)])), (6, iA (0, [(1, 2)])), (7, iA (0, [(1, 3)]))], [], [((4, 1), iA (0, [(1, 4)])), ((4, 4), iA (0, [(1, 5)]))], (1269, [((-196), 2)]))] = true := by decide +kernel
theorem r520 {l : Launch} {D : va_G} {tys : List (ClassId × FieldType)} {A : Nat → Prop} {ad : Nat → Nat} (hAD : ∀ i : Nat, ad (1000 + i) = D.2 1000 i) : CRok l D tys A ad GG 5 g520 := CR_of_vrf (dep := 4) hAD (List.forall_mem_cons.mpr ⟨r475 hAD, List.forall_mem_cons.mpr ⟨r477 hAD, List.forall_mem_cons.mpr ⟨r478 hAD, List.forall_mem_cons.mpr ⟨r519 hAD, fun c hc => by cases hc⟩⟩⟩⟩) T2OK_nil w520
def g521 : CR := (129, [(2, 50, 50), (2, 4, 4)], [], some (0, (-1), 6), [], [])
theorem w521 : vrf GG [(5, g520)] [] 300 5 g521
  [(2, [(1, 7)], [(0, rA 50), (1, rA 4), (2, iA (0, [(1, 0)]))], [], [], (474, [((-60), 0)]))] = true := by decide +kernel
theorem r521 {l : Launch} {D : va_G} {tys : List (ClassId × FieldType)} {A : Nat → Prop} {ad : Nat → Nat} (hAD : ∀ i : Nat, ad (1000 + i) = D.2 1000 i) : CRok l D tys A ad GG 6 g521 := CR_of_vrf (dep := 5) hAD (List.forall_mem_cons.mpr ⟨r520 hAD, fun c hc => by cases hc⟩) T2OK_nil w521
def g522 : CR := (126, [(2, 50, 50), (2, 4, 4), (0, 0, 5), (0, 0, 5)], [], some (0, 0, 1), [], [])
theorem w522 : vrf GG [] [] 300 2 g522
  [(3, [(0, 5), (0, 5), (0, 5)], [(0, rA 50), (1, rA 4), (2, iA (0, [(1, 0)])), (3, iA (0, [(1, 1)])), (4, iA (0, [(1, 2)]))], [], [], (472, [((-80), 2)]))] = true := by decide +kernel
theorem r522 {l : Launch} {D : va_G} {tys : List (ClassId × FieldType)} {A : Nat → Prop} {ad : Nat → Nat} (hAD : ∀ i : Nat, ad (1000 + i) = D.2 1000 i) : CRok l D tys A ad GG 3 g522 := CR_of_vrf (dep := 2) hAD (fun c hc => by cases hc) T2OK_nil w522
def g523 : CR := (125, [(2, 50, 50), (2, 4, 4), (0, 1, 6), (0, 1, 6)], [], some (0, (-2147483648), 2147483647), [], [])
theorem w523 : vrf GG [(3, g522), (3, g475), (4, g477), (1, g478), (1, g519)] [] 300 4 g523
  [(15, [(1, 6), (1, 6), ((-9223372036854775808), 9223372036854775807), (0, 6), (0, 9)], [(0, rA 50), (1, rA 4), (2, iA (0, [(1, 0)])), (3, iA (0, [(1, 1)])), (4, lA (0, [(1, 2)])), (6, iA (0, [(1, 3)]))], [], [((4, 1), iA (0, [(1, 4)]))], (1340, [((-196), 3)])),
  (86, [(1, 6), (1, 6), ((-9223372036854775808), 9223372036854775807), (0, 5), (0, 6), (0, 9), (1, 6)], [(0, rA 50), (1, rA 4), (2, iA (0, [(1, 0)])), (3, iA (0, [(1, 1)])), (4, lA (0, [(1, 2)])), (6, iA (0, [(1, 3)])), (7, iA (0, [(1, 4)]))], [], [((4, 1), iA (0, [(1, 5)])), ((4, 4), iA (0, [(1, 6)]))], (1269, [((-196), 3)]))] = true := by decide +kernel
theorem r523 {l : Launch} {D : va_G} {tys : List (ClassId × FieldType)} {A : Nat → Prop} {ad : Nat → Nat} (hAD : ∀ i : Nat, ad (1000 + i) = D.2 1000 i) : CRok l D tys A ad GG 5 g523 := CR_of_vrf (dep := 4) hAD (List.forall_mem_cons.mpr ⟨r522 hAD, List.forall_mem_cons.mpr ⟨r475 hAD, List.forall_mem_cons.mpr ⟨r477 hAD, List.forall_mem_cons.mpr ⟨r478 hAD, List.forall_mem_cons.mpr ⟨r519 hAD, fun c hc => by cases hc⟩⟩⟩⟩⟩) T2OK_nil w523
def g524 : CR := (130, [(2, 50, 50), (2, 4, 4), (0, 1, 6)], [], none, [], [51])
theorem w524 : vrf GG [(5, g523)] [] 300 5 g524
  [(2, [(1, 6), (0, 6)], [(0, rA 50), (1, rA 4), (2, iA (0, [(1, 0)])), (3, iA (0, [(1, 1)]))], [], [], (9906, [((-1416), 1)])),
  (10, [(1, 6), (0, 5), (0, 9)], [(0, rA 50), (1, rA 4), (2, iA (0, [(1, 0)])), (3, iA (0, [(1, 1)])), (4, iA (0, [(1, 2)]))], [], [], (9710, [((-118), 2), ((-1416), 1)])),
  (50, [(1, 6), (0, 5), (0, 9), (0, 9)], [(0, rA 50), (1, rA 4), (2, iA (0, [(1, 0)])), (3, iA (0, [(1, 1)])), (4, iA (0, [(1, 2)]))], [], [((4, 1), iA (0, [(1, 3)]))], (8560, [((-1416), 1)]))] = true := by decide +kernel
theorem r524 {l : Launch} {D : va_G} {tys : List (ClassId × FieldType)} {A : Nat → Prop} {ad : Nat → Nat} (hAD : ∀ i : Nat, ad (1000 + i) = D.2 1000 i) : CRok l D tys A ad GG 6 g524 := CR_of_vrf (dep := 5) hAD (List.forall_mem_cons.mpr ⟨r523 hAD, fun c hc => by cases hc⟩) T2OK_nil w524
def g525 : CR := (61, [(2, 0, 0), (0, (-2147483648), 2147483647)], [], some (0, (-2147483648), 2147483647), [], [51])
theorem w525 : vrf GG [(6, g521), (6, g524)] [] 300 6 g525
  [] = true := by decide +kernel
theorem r525 {l : Launch} {D : va_G} {tys : List (ClassId × FieldType)} {A : Nat → Prop} {ad : Nat → Nat} (hAD : ∀ i : Nat, ad (1000 + i) = D.2 1000 i) : CRok l D tys A ad GG 7 g525 := CR_of_vrf (dep := 6) hAD (List.forall_mem_cons.mpr ⟨r521 hAD, List.forall_mem_cons.mpr ⟨r524 hAD, fun c hc => by cases hc⟩⟩) T2OK_nil w525
def g526 : CR := (309, [(2, 90, 90), (0, 1, 6)], [((91, 0), (0, 0, 0))], some (0, 0, 0), [], [])
theorem w526 : vrf GG [] [] 300 0 g526
  [] = true := by decide +kernel
theorem r526 {l : Launch} {D : va_G} {tys : List (ClassId × FieldType)} {A : Nat → Prop} {ad : Nat → Nat} (hAD : ∀ i : Nat, ad (1000 + i) = D.2 1000 i) : CRok l D tys A ad GG 1 g526 := CR_of_vrf (dep := 0) hAD (fun c hc => by cases hc) T2OK_nil w526
def g527 : CR := (326, [(2, 90, 90), (0, (-2147483648), 2147483647)], [((91, 0), (0, 0, 0))], some (0, (-2), (-1)), [], [])
theorem w527 : vrf GG [(1, g526)] [] 300 1 g527
  [(17, [((-1), 2147483647), (1, 7), (1, 2147483647)], [(0, rA 90), (1, iA (0, [(1, 0)])), (2, iA (0, [(1, 1)]))], [], [((91, 0), iA (0, [])), ((91, 5), iA (0, [(1, 2)]))], (4188, [((-528), 1)])),
  (25, [((-1), 2147483647), (1, 6), (1, 2147483647)], [(0, rA 90), (1, iA (0, [(1, 0)])), (2, iA (0, [(1, 1)])), (3, iA (0, []))], [], [((91, 0), iA (0, [])), ((91, 5), iA (0, [(1, 2)]))], (3890, [((-528), 1)]))] = true := by decide +kernel
theorem r527 {l : Launch} {D : va_G} {tys : List (ClassId × FieldType)} {A : Nat → Prop} {ad : Nat → Nat} (hAD : ∀ i : Nat, ad (1000 + i) = D.2 1000 i) : CRok l D tys A ad GG 2 g527 := CR_of_vrf (dep := 1) hAD (List.forall_mem_cons.mpr ⟨r526 hAD, fun c hc => by cases hc⟩) T2OK_nil w527
