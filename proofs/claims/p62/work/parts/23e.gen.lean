def g469 : CR := (320, [(2, 90, 90), (0, 0, 6), (0, 4, 4), (0, 6, 6)], [], some (0, 1, 210), [], [106])
theorem w469 : vrf GG [] [] 2278 1 g469
  [] = true := by decide +kernel
theorem r469 {l : Launch} {D : va_G} {tys : List (ClassId × FieldType)} {A : Nat → Prop} {ad : Nat → Nat} (hAD : ∀ i : Nat, ad (1000 + i) = D.2 1000 i) : CRok l D tys A ad GG 2 g469 := CR_of_vrf (dep := 1) hAD (fun c hc => by cases hc) T2OK_nil w469
def g470 : CR := (320, [(2, 90, 90), (0, 0, 6), (0, 5, 5), (0, 6, 6)], [], some (0, 1, 462), [], [106])
theorem w470 : vrf GG [] [] 2690 1 g470
  [] = true := by decide +kernel
theorem r470 {l : Launch} {D : va_G} {tys : List (ClassId × FieldType)} {A : Nat → Prop} {ad : Nat → Nat} (hAD : ∀ i : Nat, ad (1000 + i) = D.2 1000 i) : CRok l D tys A ad GG 2 g470 := CR_of_vrf (dep := 1) hAD (fun c hc => by cases hc) T2OK_nil w470
def g471 : CR := (320, [(2, 90, 90), (0, 0, 6), (0, 6, 6), (0, 6, 6)], [], some (0, 1, 924), [], [106])
theorem w471 : vrf GG [] [] 3104 1 g471
  [] = true := by decide +kernel
theorem r471 {l : Launch} {D : va_G} {tys : List (ClassId × FieldType)} {A : Nat → Prop} {ad : Nat → Nat} (hAD : ∀ i : Nat, ad (1000 + i) = D.2 1000 i) : CRok l D tys A ad GG 2 g471 := CR_of_vrf (dep := 1) hAD (fun c hc => by cases hc) T2OK_nil w471
def g472 : CR := (321, [(2, 90, 90), (0, (-2147483648), 2147483647), (0, (-2147483648), 2147483647), (0, (-2147483648), 2147483647)], [], some (0, (-2147483648), 2147483647), [], [106])
theorem w472 : vrf GG [(2, g464), (2, g466), (2, g467), (2, g468), (2, g469), (2, g470), (2, g471), (2, g465)] [] 300 3 g472
  [] = true := by decide +kernel
theorem r472 {l : Launch} {D : va_G} {tys : List (ClassId × FieldType)} {A : Nat → Prop} {ad : Nat → Nat} (hAD : ∀ i : Nat, ad (1000 + i) = D.2 1000 i) : CRok l D tys A ad GG 4 g472 := CR_of_vrf (dep := 3) hAD (List.forall_mem_cons.mpr ⟨r464 hAD, List.forall_mem_cons.mpr ⟨r466 hAD, List.forall_mem_cons.mpr ⟨r467 hAD, List.forall_mem_cons.mpr ⟨r468 hAD, List.forall_mem_cons.mpr ⟨r469 hAD, List.forall_mem_cons.mpr ⟨r470 hAD, List.forall_mem_cons.mpr ⟨r471 hAD, List.forall_mem_cons.mpr ⟨r465 hAD, fun c hc => by cases hc⟩⟩⟩⟩⟩⟩⟩⟩) T2OK_nil w472
def g473 : CR := (59, [(2, 0, 0), (0, (-2147483648), 2147483647), (0, (-2147483648), 2147483647)], [], some (0, (-2), 6), [], [52])
theorem w473 : vrf GG [(2, g462)] [] 300 2 g473
  [(14, [(0, 5), (0, 5), (0, 7), (1, 6)], [(0, rA 0), (1, iA (0, [(1, 0)])), (2, iA (0, [(1, 1)])), (3, iA (0, [(1, 2)]))], [], [((4, 4), iA (0, [(1, 3)]))], (914, [((-118), 2)]))] = true := by decide +kernel
theorem r473 {l : Launch} {D : va_G} {tys : List (ClassId × FieldType)} {A : Nat → Prop} {ad : Nat → Nat} (hAD : ∀ i : Nat, ad (1000 + i) = D.2 1000 i) : CRok l D tys A ad GG 3 g473 := CR_of_vrf (dep := 2) hAD (List.forall_mem_cons.mpr ⟨r462 hAD, fun c hc => by cases hc⟩) T2OK_nil w473
def g474 : CR := (322, [(2, 90, 90), (0, (-2147483648), 2147483647), (0, (-2147483648), 2147483647)], [], some (0, (-2), 6), [], [106])
theorem w474 : vrf GG [(2, g464), (2, g466), (2, g467), (2, g468), (2, g469), (2, g470), (2, g471), (2, g465)] [] 300 3 g474
  [(14, [(0, 5), (0, 5), (0, 6), (1, 6)], [(0, rA 90), (1, iA (0, [(1, 0)])), (2, iA (0, [(1, 1)])), (3, iA (0, [(1, 2)]))], [], [((91, 3), iA (0, [(1, 3)]))], (558, [((-84), 2)]))] = true := by decide +kernel
theorem r474 {l : Launch} {D : va_G} {tys : List (ClassId × FieldType)} {A : Nat → Prop} {ad : Nat → Nat} (hAD : ∀ i : Nat, ad (1000 + i) = D.2 1000 i) : CRok l D tys A ad GG 4 g474 := CR_of_vrf (dep := 3) hAD (List.forall_mem_cons.mpr ⟨r464 hAD, List.forall_mem_cons.mpr ⟨r466 hAD, List.forall_mem_cons.mpr ⟨r467 hAD, List.forall_mem_cons.mpr ⟨r468 hAD, List.forall_mem_cons.mpr ⟨r469 hAD, List.forall_mem_cons.mpr ⟨r470 hAD, List.forall_mem_cons.mpr ⟨r471 hAD, List.forall_mem_cons.mpr ⟨r465 hAD, fun c hc => by cases hc⟩⟩⟩⟩⟩⟩⟩⟩) T2OK_nil w474
def g475 : CR := (60, [(2, 0, 0), (0, (-2147483648), 0)], [], some (0, (-2), (-2)), [], [])
theorem w475 : vrf GG [] [] 300 1 g475
  [] = true := by decide +kernel
theorem r475 {l : Launch} {D : va_G} {tys : List (ClassId × FieldType)} {A : Nat → Prop} {ad : Nat → Nat} (hAD : ∀ i : Nat, ad (1000 + i) = D.2 1000 i) : CRok l D tys A ad GG 2 g475 := CR_of_vrf (dep := 1) hAD (fun c hc => by cases hc) T2OK_nil w475
def g476 : CR := (60, [(2, 0, 0), (0, 7, 2147483647)], [], some (0, (-2), (-2)), [], [])
theorem w476 : vrf GG [] [] 300 1 g476
  [] = true := by decide +kernel
theorem r476 {l : Launch} {D : va_G} {tys : List (ClassId × FieldType)} {A : Nat → Prop} {ad : Nat → Nat} (hAD : ∀ i : Nat, ad (1000 + i) = D.2 1000 i) : CRok l D tys A ad GG 2 g476 := CR_of_vrf (dep := 1) hAD (fun c hc => by cases hc) T2OK_nil w476
def g477 : CR := (126, [(2, 50, 50), (2, 4, 4), (0, 0, 5), (0, 0, 6)], [], some (0, 0, 1), [], [])
theorem w477 : vrf GG [] [] 300 2 g477
  [(3, [(0, 5), (0, 6), (0, 6)], [(0, rA 50), (1, rA 4), (2, iA (0, [(1, 0)])), (3, iA (0, [(1, 1)])), (4, iA (0, [(1, 2)]))], [], [], (552, [((-80), 2)]))] = true := by decide +kernel
theorem r477 {l : Launch} {D : va_G} {tys : List (ClassId × FieldType)} {A : Nat → Prop} {ad : Nat → Nat} (hAD : ∀ i : Nat, ad (1000 + i) = D.2 1000 i) : CRok l D tys A ad GG 3 g477 := CR_of_vrf (dep := 2) hAD (fun c hc => by cases hc) T2OK_nil w477
def g478 : CR := (128, [(2, 4, 4), (0, 0, 5), (0, 0, 5), (0, 0, 6)], [], some (0, 0, 1), [], [])
theorem w478 : vrf GG [] [] 300 2 g478
  [(3, [(0, 5), (0, 5), (0, 6), (0, 6)], [(0, rA 4), (1, iA (0, [(1, 0)])), (2, iA (0, [(1, 1)])), (3, iA (0, [(1, 2)])), (4, iA (0, [(1, 3)]))], [], [], (524, [((-76), 3)]))] = true := by decide +kernel
theorem r478 {l : Launch} {D : va_G} {tys : List (ClassId × FieldType)} {A : Nat → Prop} {ad : Nat → Nat} (hAD : ∀ i : Nat, ad (1000 + i) = D.2 1000 i) : CRok l D tys A ad GG 3 g478 := CR_of_vrf (dep := 2) hAD (fun c hc => by cases hc) T2OK_nil w478
def g479 : CR := (127, [(2, 4, 4), (0, 0, 5), (0, 1, 6)], [], some (0, 0, 1), [], [])
theorem w479 : vrf GG [(3, g478)] [] 300 3 g479
  [(13, [(0, 5), (1, 6), (0, 6), (0, 6)], [(0, rA 4), (1, iA (0, [(1, 0)])), (2, iA (0, [(1, 1)])), (3, iA (0, [(1, 2)])), (4, iA (0, [(1, 3)]))], [], [], (1288, [((-188), 3)])),
  (52, [(0, 5), (1, 6), (0, 6), (0, 5), (0, 6), (1, 6)], [(0, rA 4), (1, iA (0, [(1, 0)])), (2, iA (0, [(1, 1)])), (3, iA (0, [(1, 2)])), (4, iA (0, [(1, 3)])), (5, iA (0, [(1, 4)]))], [], [((4, 4), iA (0, [(1, 5)]))], (1249, [((-188), 3)])),
  (56, [(0, 5), (1, 6), (0, 6), (0, 5), (0, 6), (1, 6)], [(0, rA 4), (1, iA (0, [(1, 0)])), (2, iA (0, [(1, 1)])), (3, iA (0, [(1, 2)])), (4, iA (0, [(1, 3)])), (5, iA (0, [(1, 4)]))], [], [((4, 4), iA (0, [(1, 5)]))], (1245, [((-188), 3)])),
  (57, [(0, 5), (1, 6), (0, 6), (0, 5), (0, 6), (0, 1), (1, 6)], [(0, rA 4), (1, iA (0, [(1, 0)])), (2, iA (0, [(1, 1)])), (3, iA (0, [(1, 2)])), (4, iA (0, [(1, 3)])), (5, iA (0, [(1, 4)]))], [iA (0, [(1, 5)])], [((4, 4), iA (0, [(1, 6)]))], (1244, [((-188), 3)])),
  (84, [(0, 5), (1, 6), (0, 6), (0, 5), (0, 6), (0, 1), (1, 6)], [(0, rA 4), (1, iA (0, [(1, 0)])), (2, iA (0, [(1, 1)])), (3, iA (0, [(1, 2)])), (4, iA (0, [(1, 3)])), (5, iA (0, [(1, 4)])), (6, iA (0, [(1, 5)]))], [], [((4, 4), iA (0, [(1, 6)]))], (1217, [((-188), 3)]))] = true := by decide +kernel
theorem r479 {l : Launch} {D : va_G} {tys : List (ClassId × FieldType)} {A : Nat → Prop} {ad : Nat → Nat} (hAD : ∀ i : Nat, ad (1000 + i) = D.2 1000 i) : CRok l D tys A ad GG 4 g479 := CR_of_vrf (dep := 3) hAD (List.forall_mem_cons.mpr ⟨r478 hAD, fun c hc => by cases hc⟩) T2OK_nil w479
def g480 : CR := (151, [(0, 0, 9), (0, 0, 0)], [], some (1, 1, 1), [], [])
theorem w480 : vrf GG [] [] 300 0 g480
  [(5, [(0, 9)], [(0, iA (0, [(1, 0)])), (1, iA (0, [])), (2, lA (1, [])), (4, iA (0, []))], [], [], (40, []))] = true := by decide +kernel
theorem r480 {l : Launch} {D : va_G} {tys : List (ClassId × FieldType)} {A : Nat → Prop} {ad : Nat → Nat} (hAD : ∀ i : Nat, ad (1000 + i) = D.2 1000 i) : CRok l D tys A ad GG 1 g480 := CR_of_vrf (dep := 0) hAD (fun c hc => by cases hc) T2OK_nil w480
def g481 : CR := (151, [(0, 0, 9), (0, 1, 1)], [], some (1, (-9223372036854775808), 9223372036854775807), [], [])
theorem w481 : vrf GG [] [] 300 0 g481
  [(5, [(0, 9), ((-9223372036854775808), 9223372036854775807), (0, 1)], [(0, iA (0, [(1, 0)])), (1, iA (1, [])), (2, lA (0, [(1, 1)])), (4, iA (0, [(1, 2)]))], [], [], (92, [((-52), 2)]))] = true := by decide +kernel
theorem r481 {l : Launch} {D : va_G} {tys : List (ClassId × FieldType)} {A : Nat → Prop} {ad : Nat → Nat} (hAD : ∀ i : Nat, ad (1000 + i) = D.2 1000 i) : CRok l D tys A ad GG 1 g481 := CR_of_vrf (dep := 0) hAD (fun c hc => by cases hc) T2OK_nil w481
def g482 : CR := (125, [(2, 50, 50), (2, 4, 4), (0, 1, 1), (0, 0, 0)], [], some (0, (-2147483648), 2147483647), [], [])
theorem w482 : vrf GG [(3, g477), (4, g479), (1, g480), (1, g481)] [] 300 4 g482
  [(15, [((-9223372036854775808), 9223372036854775807), (0, 6), (0, 9)], [(0, rA 50), (1, rA 4), (2, iA (1, [])), (3, iA (0, [])), (4, lA (0, [(1, 0)])), (6, iA (0, [(1, 1)]))], [], [((4, 1), iA (0, [(1, 2)]))], (1340, [((-196), 1)])),
  (86, [((-9223372036854775808), 9223372036854775807), (0, 5), (0, 1), (0, 9), (1, 6)], [(0, rA 50), (1, rA 4), (2, iA (1, [])), (3, iA (0, [])), (4, lA (0, [(1, 0)])), (6, iA (0, [(1, 1)])), (7, iA (0, [(1, 2)]))], [], [((4, 1), iA (0, [(1, 3)])), ((4, 4), iA (0, [(1, 4)]))], (1269, [((-196), 1)]))] = true := by decide +kernel
theorem r482 {l : Launch} {D : va_G} {tys : List (ClassId × FieldType)} {A : Nat → Prop} {ad : Nat → Nat} (hAD : ∀ i : Nat, ad (1000 + i) = D.2 1000 i) : CRok l D tys A ad GG 5 g482 := CR_of_vrf (dep := 4) hAD (List.forall_mem_cons.mpr ⟨r477 hAD, List.forall_mem_cons.mpr ⟨r479 hAD, List.forall_mem_cons.mpr ⟨r480 hAD, List.forall_mem_cons.mpr ⟨r481 hAD, fun c hc => by cases hc⟩⟩⟩⟩) T2OK_nil w482
def g483 : CR := (60, [(2, 0, 0), (0, 1, 1)], [], some (0, (-2147483648), 2147483647), [], [])
theorem w483 : vrf GG [(5, g482)] [] 300 5 g483
  [] = true := by decide +kernel
theorem r483 {l : Launch} {D : va_G} {tys : List (ClassId × FieldType)} {A : Nat → Prop} {ad : Nat → Nat} (hAD : ∀ i : Nat, ad (1000 + i) = D.2 1000 i) : CRok l D tys A ad GG 6 g483 := CR_of_vrf (dep := 5) hAD (List.forall_mem_cons.mpr ⟨r482 hAD, fun c hc => by cases hc⟩) T2OK_nil w483
def g484 : CR := (151, [(0, 0, 9), (0, 2, 2)], [], some (1, (-9223372036854775808), 9223372036854775807), [], [])
theorem w484 : vrf GG [] [] 300 0 g484
  [(5, [(0, 9), ((-9223372036854775808), 9223372036854775807), (0, 2)], [(0, iA (0, [(1, 0)])), (1, iA (2, [])), (2, lA (0, [(1, 1)])), (4, iA (0, [(1, 2)]))], [], [], (144, [((-52), 2)]))] = true := by decide +kernel
theorem r484 {l : Launch} {D : va_G} {tys : List (ClassId × FieldType)} {A : Nat → Prop} {ad : Nat → Nat} (hAD : ∀ i : Nat, ad (1000 + i) = D.2 1000 i) : CRok l D tys A ad GG 1 g484 := CR_of_vrf (dep := 0) hAD (fun c hc => by cases hc) T2OK_nil w484
def g485 : CR := (125, [(2, 50, 50), (2, 4, 4), (0, 2, 2), (0, 0, 0)], [], some (0, (-2147483648), 2147483647), [], [])
theorem w485 : vrf GG [(3, g477), (4, g479), (1, g480), (1, g481), (1, g484)] [] 300 4 g485
  [(15, [((-9223372036854775808), 9223372036854775807), (0, 6), (0, 9)], [(0, rA 50), (1, rA 4), (2, iA (2, [])), (3, iA (0, [])), (4, lA (0, [(1, 0)])), (6, iA (0, [(1, 1)]))], [], [((4, 1), iA (0, [(1, 2)]))], (1340, [((-196), 1)])),
  (86, [((-9223372036854775808), 9223372036854775807), (0, 5), (0, 2), (0, 9), (1, 6)], [(0, rA 50), (1, rA 4), (2, iA (2, [])), (3, iA (0, [])), (4, lA (0, [(1, 0)])), (6, iA (0, [(1, 1)])), (7, iA (0, [(1, 2)]))], [], [((4, 1), iA (0, [(1, 3)])), ((4, 4), iA (0, [(1, 4)]))], (1269, [((-196), 1)]))] = true := by decide +kernel
theorem r485 {l : Launch} {D : va_G} {tys : List (ClassId × FieldType)} {A : Nat → Prop} {ad : Nat → Nat} (hAD : ∀ i : Nat, ad (1000 + i) = D.2 1000 i) : CRok l D tys A ad GG 5 g485 := CR_of_vrf (dep := 4) hAD (List.forall_mem_cons.mpr ⟨r477 hAD, List.forall_mem_cons.mpr ⟨r479 hAD, List.forall_mem_cons.mpr ⟨r480 hAD, List.forall_mem_cons.mpr ⟨r481 hAD, List.forall_mem_cons.mpr ⟨r484 hAD, fun c hc => by cases hc⟩⟩⟩⟩⟩) T2OK_nil w485
def g486 : CR := (60, [(2, 0, 0), (0, 2, 2)], [], some (0, (-2147483648), 2147483647), [], [])
theorem w486 : vrf GG [(5, g485)] [] 300 5 g486
  [] = true := by decide +kernel
theorem r486 {l : Launch} {D : va_G} {tys : List (ClassId × FieldType)} {A : Nat → Prop} {ad : Nat → Nat} (hAD : ∀ i : Nat, ad (1000 + i) = D.2 1000 i) : CRok l D tys A ad GG 6 g486 := CR_of_vrf (dep := 5) hAD (List.forall_mem_cons.mpr ⟨r485 hAD, fun c hc => by cases hc⟩) T2OK_nil w486
def g487 : CR := (151, [(0, 0, 9), (0, 1, 2)], [], some (1, (-9223372036854775808), 9223372036854775807), [], [])
theorem w487 : vrf GG [] [] 300 0 g487
  [(5, [(0, 9), (1, 2), ((-9223372036854775808), 9223372036854775807), (0, 2)], [(0, iA (0, [(1, 0)])), (1, iA (0, [(1, 1)])), (2, lA (0, [(1, 2)])), (4, iA (0, [(1, 3)]))], [], [], (144, [((-52), 3)]))] = true := by decide +kernel
theorem r487 {l : Launch} {D : va_G} {tys : List (ClassId × FieldType)} {A : Nat → Prop} {ad : Nat → Nat} (hAD : ∀ i : Nat, ad (1000 + i) = D.2 1000 i) : CRok l D tys A ad GG 1 g487 := CR_of_vrf (dep := 0) hAD (fun c hc => by cases hc) T2OK_nil w487
def g488 : CR := (151, [(0, 0, 9), (0, 3, 3)], [], some (1, (-9223372036854775808), 9223372036854775807), [], [])
theorem w488 : vrf GG [] [] 300 0 g488
  [(5, [(0, 9), ((-9223372036854775808), 9223372036854775807), (0, 3)], [(0, iA (0, [(1, 0)])), (1, iA (3, [])), (2, lA (0, [(1, 1)])), (4, iA (0, [(1, 2)]))], [], [], (196, [((-52), 2)]))] = true := by decide +kernel
theorem r488 {l : Launch} {D : va_G} {tys : List (ClassId × FieldType)} {A : Nat → Prop} {ad : Nat → Nat} (hAD : ∀ i : Nat, ad (1000 + i) = D.2 1000 i) : CRok l D tys A ad GG 1 g488 := CR_of_vrf (dep := 0) hAD (fun c hc => by cases hc) T2OK_nil w488
def g489 : CR := (125, [(2, 50, 50), (2, 4, 4), (0, 3, 3), (0, 0, 0)], [], some (0, (-2147483648), 2147483647), [], [])
theorem w489 : vrf GG [(3, g477), (4, g479), (1, g480), (1, g488), (1, g487)] [] 300 4 g489
  [(15, [((-9223372036854775808), 9223372036854775807), (0, 6), (0, 9)], [(0, rA 50), (1, rA 4), (2, iA (3, [])), (3, iA (0, [])), (4, lA (0, [(1, 0)])), (6, iA (0, [(1, 1)]))], [], [((4, 1), iA (0, [(1, 2)]))], (1340, [((-196), 1)])),
  (86, [((-9223372036854775808), 9223372036854775807), (0, 5), (0, 3), (0, 9), (1, 6)], [(0, rA 50), (1, rA 4), (2, iA (3, [])), (3, iA (0, [])), (4, lA (0, [(1, 0)])), (6, iA (0, [(1, 1)])), (7, iA (0, [(1, 2)]))], [], [((4, 1), iA (0, [(1, 3)])), ((4, 4), iA (0, [(1, 4)]))], (1269, [((-196), 1)]))] = true := by decide +kernel
theorem r489 {l : Launch} {D : va_G} {tys : List (ClassId × FieldType)} {A : Nat → Prop} {ad : Nat → Nat} (hAD : ∀ i : Nat, ad (1000 + i) = D.2 1000 i) : CRok l D tys A ad GG 5 g489 := CR_of_vrf (dep := 4) hAD (List.forall_mem_cons.mpr ⟨r477 hAD, List.forall_mem_cons.mpr ⟨r479 hAD, List.forall_mem_cons.mpr ⟨r480 hAD, List.forall_mem_cons.mpr ⟨r488 hAD, List.forall_mem_cons.mpr ⟨r487 hAD, fun c hc => by cases hc⟩⟩⟩⟩⟩) T2OK_nil w489
def g490 : CR := (60, [(2, 0, 0), (0, 3, 3)], [], some (0, (-2147483648), 2147483647), [], [])
theorem w490 : vrf GG [(5, g489)] [] 300 5 g490
  [] = true := by decide +kernel
theorem r490 {l : Launch} {D : va_G} {tys : List (ClassId × FieldType)} {A : Nat → Prop} {ad : Nat → Nat} (hAD : ∀ i : Nat, ad (1000 + i) = D.2 1000 i) : CRok l D tys A ad GG 6 g490 := CR_of_vrf (dep := 5) hAD (List.forall_mem_cons.mpr ⟨r489 hAD, fun c hc => by cases hc⟩) T2OK_nil w490
def g491 : CR := (151, [(0, 0, 9), (0, 1, 3)], [], some (1, (-9223372036854775808), 9223372036854775807), [], [])
theorem w491 : vrf GG [] [] 300 0 g491
  [(5, [(0, 9), (1, 3), ((-9223372036854775808), 9223372036854775807), (0, 3)], [(0, iA (0, [(1, 0)])), (1, iA (0, [(1, 1)])), (2, lA (0, [(1, 2)])), (4, iA (0, [(1, 3)]))], [], [], (196, [((-52), 3)]))] = true := by decide +kernel
theorem r491 {l : Launch} {D : va_G} {tys : List (ClassId × FieldType)} {A : Nat → Prop} {ad : Nat → Nat} (hAD : ∀ i : Nat, ad (1000 + i) = D.2 1000 i) : CRok l D tys A ad GG 1 g491 := CR_of_vrf (dep := 0) hAD (fun c hc => by cases hc) T2OK_nil w491
def g492 : CR := (151, [(0, 0, 9), (0, 4, 4)], [], some (1, (-9223372036854775808), 9223372036854775807), [], [])
theorem w492 : vrf GG [] [] 300 0 g492
  [(5, [(0, 9), ((-9223372036854775808), 9223372036854775807), (0, 4)], [(0, iA (0, [(1, 0)])), (1, iA (4, [])), (2, lA (0, [(1, 1)])), (4, iA (0, [(1, 2)]))], [], [], (248, [((-52), 2)]))] = true := by decide +kernel
theorem r492 {l : Launch} {D : va_G} {tys : List (ClassId × FieldType)} {A : Nat → Prop} {ad : Nat → Nat} (hAD : ∀ i : Nat, ad (1000 + i) = D.2 1000 i) : CRok l D tys A ad GG 1 g492 := CR_of_vrf (dep := 0) hAD (fun c hc => by cases hc) T2OK_nil w492
def g493 : CR := (125, [(2, 50, 50), (2, 4, 4), (0, 4, 4), (0, 0, 0)], [], some (0, (-2147483648), 2147483647), [], [])
theorem w493 : vrf GG [(3, g477), (4, g479), (1, g480), (1, g492), (1, g491)] [] 300 4 g493
  [(15, [((-9223372036854775808), 9223372036854775807), (0, 6), (0, 9)], [(0, rA 50), (1, rA 4), (2, iA (4, [])), (3, iA (0, [])), (4, lA (0, [(1, 0)])), (6, iA (0, [(1, 1)]))], [], [((4, 1), iA (0, [(1, 2)]))], (1340, [((-196), 1)])),
  (86, [((-9223372036854775808), 9223372036854775807), (0, 5), (0, 4), (0, 9), (1, 6)], [(0, rA 50), (1, rA 4), (2, iA (4, [])), (3, iA (0, [])), (4, lA (0, [(1, 0)])), (6, iA (0, [(1, 1)])), (7, iA (0, [(1, 2)]))], [], [((4, 1), iA (0, [(1, 3)])), ((4, 4), iA (0, [(1, 4)]))], (1269, [((-196), 1)]))] = true := by decide +kernel
theorem r493 {l : Launch} {D : va_G} {tys : List (ClassId × FieldType)} {A : Nat → Prop} {ad : Nat → Nat} (hAD : ∀ i : Nat, ad (1000 + i) = D.2 1000 i) : CRok l D tys A ad GG 5 g493 := CR_of_vrf (dep := 4) hAD (List.forall_mem_cons.mpr ⟨r477 hAD, List.forall_mem_cons.mpr ⟨r479 hAD, List.forall_mem_cons.mpr ⟨r480 hAD, List.forall_mem_cons.mpr ⟨r492 hAD, List.forall_mem_cons.mpr ⟨r491 hAD, fun c hc => by cases hc⟩⟩⟩⟩⟩) T2OK_nil w493
def g494 : CR := (60, [(2, 0, 0), (0, 4, 4)], [], some (0, (-2147483648), 2147483647), [], [])
theorem w494 : vrf GG [(5, g493)] [] 300 5 g494
  [] = true := by decide +kernel
theorem r494 {l : Launch} {D : va_G} {tys : List (ClassId × FieldType)} {A : Nat → Prop} {ad : Nat → Nat} (hAD : ∀ i : Nat, ad (1000 + i) = D.2 1000 i) : CRok l D tys A ad GG 6 g494 := CR_of_vrf (dep := 5) hAD (List.forall_mem_cons.mpr ⟨r493 hAD, fun c hc => by cases hc⟩) T2OK_nil w494
def g495 : CR := (151, [(0, 0, 9), (0, 1, 4)], [], some (1, (-9223372036854775808), 9223372036854775807), [], [])
theorem w495 : vrf GG [] [] 300 0 g495
  [(5, [(0, 9), (1, 4), ((-9223372036854775808), 9223372036854775807), (0, 4)], [(0, iA (0, [(1, 0)])), (1, iA (0, [(1, 1)])), (2, lA (0, [(1, 2)])), (4, iA (0, [(1, 3)]))], [], [], (248, [((-52), 3)]))] = true := by decide +kernel
theorem r495 {l : Launch} {D : va_G} {tys : List (ClassId × FieldType)} {A : Nat → Prop} {ad : Nat → Nat} (hAD : ∀ i : Nat, ad (1000 + i) = D.2 1000 i) : CRok l D tys A ad GG 1 g495 := CR_of_vrf (dep := 0) hAD (fun c hc => by cases hc) T2OK_nil w495
def g496 : CR := (151, [(0, 0, 9), (0, 5, 5)], [], some (1, (-9223372036854775808), 9223372036854775807), [], [])
theorem w496 : vrf GG [] [] 300 0 g496
  [(5, [(0, 9), ((-9223372036854775808), 9223372036854775807), (0, 5)], [(0, iA (0, [(1, 0)])), (1, iA (5, [])), (2, lA (0, [(1, 1)])), (4, iA (0, [(1, 2)]))], [], [], (300, [((-52), 2)]))] = true := by decide +kernel
theorem r496 {l : Launch} {D : va_G} {tys : List (ClassId × FieldType)} {A : Nat → Prop} {ad : Nat → Nat} (hAD : ∀ i : Nat, ad (1000 + i) = D.2 1000 i) : CRok l D tys A ad GG 1 g496 := CR_of_vrf (dep := 0) hAD (fun c hc => by cases hc) T2OK_nil w496
def g497 : CR := (125, [(2, 50, 50), (2, 4, 4), (0, 5, 5), (0, 0, 0)], [], some (0, (-2147483648), 2147483647), [], [])
theorem w497 : vrf GG [(3, g477), (4, g479), (1, g480), (1, g496), (1, g495)] [] 300 4 g497
  [(15, [((-9223372036854775808), 9223372036854775807), (0, 6), (0, 9)], [(0, rA 50), (1, rA 4), (2, iA (5, [])), (3, iA (0, [])), (4, lA (0, [(1, 0)])), (6, iA (0, [(1, 1)]))], [], [((4, 1), iA (0, [(1, 2)]))], (1340, [((-196), 1)])),
  (86, [((-9223372036854775808), 9223372036854775807), (0, 5), (0, 5), (0, 9), (1, 6)], [(0, rA 50), (1, rA 4), (2, iA (5, [])), (3, iA (0, [])), (4, lA (0, [(1, 0)])), (6, iA (0, [(1, 1)])), (7, iA (0, [(1, 2)]))], [], [((4, 1), iA (0, [(1, 3)])), ((4, 4), iA (0, [(1, 4)]))], (1269, [((-196), 1)]))] = true := by decide +kernel
theorem r497 {l : Launch} {D : va_G} {tys : List (ClassId × FieldType)} {A : Nat → Prop} {ad : Nat → Nat} (hAD : ∀ i : Nat, ad (1000 + i) = D.2 1000 i) : CRok l D tys A ad GG 5 g497 := CR_of_vrf (dep := 4) hAD (List.forall_mem_cons.mpr ⟨r477 hAD, List.forall_mem_cons.mpr ⟨r479 hAD, List.forall_mem_cons.mpr ⟨r480 hAD, List.forall_mem_cons.mpr ⟨r496 hAD, List.forall_mem_cons.mpr ⟨r495 hAD, fun c hc => by cases hc⟩⟩⟩⟩⟩) T2OK_nil w497
def g498 : CR := (60, [(2, 0, 0), (0, 5, 5)], [], some (0, (-2147483648), 2147483647), [], [])
theorem w498 : vrf GG [(5, g497)] [] 300 5 g498
  [] = true := by decide +kernel
theorem r498 {l : Launch} {D : va_G} {tys : List (ClassId × FieldType)} {A : Nat → Prop} {ad : Nat → Nat} (hAD : ∀ i : Nat, ad (1000 + i) = D.2 1000 i) : CRok l D tys A ad GG 6 g498 := CR_of_vrf (dep := 5) hAD (List.forall_mem_cons.mpr ⟨r497 hAD, fun c hc => by cases hc⟩) T2OK_nil w498
def g499 : CR := (151, [(0, 0, 9), (0, 1, 5)], [], some (1, (-9223372036854775808), 9223372036854775807), [], [])
theorem w499 : vrf GG [] [] 300 0 g499
  [(5, [(0, 9), (1, 5), ((-9223372036854775808), 9223372036854775807), (0, 5)], [(0, iA (0, [(1, 0)])), (1, iA (0, [(1, 1)])), (2, lA (0, [(1, 2)])), (4, iA (0, [(1, 3)]))], [], [], (300, [((-52), 3)]))] = true := by decide +kernel
theorem r499 {l : Launch} {D : va_G} {tys : List (ClassId × FieldType)} {A : Nat → Prop} {ad : Nat → Nat} (hAD : ∀ i : Nat, ad (1000 + i) = D.2 1000 i) : CRok l D tys A ad GG 1 g499 := CR_of_vrf (dep := 0) hAD (fun c hc => by cases hc) T2OK_nil w499
def g500 : CR := (151, [(0, 0, 9), (0, 6, 6)], [], some (1, (-9223372036854775808), 9223372036854775807), [], [])
theorem w500 : vrf GG [] [] 300 0 g500
  [(5, [(0, 9), ((-9223372036854775808), 9223372036854775807), (0, 6)], [(0, iA (0, [(1, 0)])), (1, iA (6, [])), (2, lA (0, [(1, 1)])), (4, iA (0, [(1, 2)]))], [], [], (352, [((-52), 2)]))] = true := by decide +kernel
theorem r500 {l : Launch} {D : va_G} {tys : List (ClassId × FieldType)} {A : Nat → Prop} {ad : Nat → Nat} (hAD : ∀ i : Nat, ad (1000 + i) = D.2 1000 i) : CRok l D tys A ad GG 1 g500 := CR_of_vrf (dep := 0) hAD (fun c hc => by cases hc) T2OK_nil w500
def g501 : CR := (125, [(2, 50, 50), (2, 4, 4), (0, 6, 6), (0, 0, 0)], [], some (0, (-2147483648), 2147483647), [], [])
theorem w501 : vrf GG [(3, g477), (4, g479), (1, g480), (1, g500), (1, g499)] [] 300 4 g501
  [(15, [((-9223372036854775808), 9223372036854775807), (0, 6), (0, 9)], [(0, rA 50), (1, rA 4), (2, iA (6, [])), (3, iA (0, [])), (4, lA (0, [(1, 0)])), (6, iA (0, [(1, 1)]))], [], [((4, 1), iA (0, [(1, 2)]))], (1340, [((-196), 1)])),
  (86, [((-9223372036854775808), 9223372036854775807), (0, 5), (0, 6), (0, 9), (1, 6)], [(0, rA 50), (1, rA 4), (2, iA (6, [])), (3, iA (0, [])), (4, lA (0, [(1, 0)])), (6, iA (0, [(1, 1)])), (7, iA (0, [(1, 2)]))], [], [((4, 1), iA (0, [(1, 3)])), ((4, 4), iA (0, [(1, 4)]))], (1269, [((-196), 1)]))] = true := by decide +kernel
theorem r501 {l : Launch} {D : va_G} {tys : List (ClassId × FieldType)} {A : Nat → Prop} {ad : Nat → Nat} (hAD : ∀ i : Nat, ad (1000 + i) = D.2 1000 i) : CRok l D tys A ad GG 5 g501 := CR_of_vrf (dep := 4) hAD (List.forall_mem_cons.mpr ⟨r477 hAD, List.forall_mem_cons.mpr ⟨r479 hAD, List.forall_mem_cons.mpr ⟨r480 hAD, List.forall_mem_cons.mpr ⟨r500 hAD, List.forall_mem_cons.mpr ⟨r499 hAD, fun c hc => by cases hc⟩⟩⟩⟩⟩) T2OK_nil w501
def g502 : CR := (60, [(2, 0, 0), (0, 6, 6)], [], some (0, (-2147483648), 2147483647), [], [])
theorem w502 : vrf GG [(5, g501)] [] 300 5 g502
  [] = true := by decide +kernel
theorem r502 {l : Launch} {D : va_G} {tys : List (ClassId × FieldType)} {A : Nat → Prop} {ad : Nat → Nat} (hAD : ∀ i : Nat, ad (1000 + i) = D.2 1000 i) : CRok l D tys A ad GG 6 g502 := CR_of_vrf (dep := 5) hAD (List.forall_mem_cons.mpr ⟨r501 hAD, fun c hc => by cases hc⟩) T2OK_nil w502
def g503 : CR := (325, [(2, 90, 90), (0, (-2147483648), 0)], [((91, 0), (0, 0, 0))], some (0, (-2), (-2)), [], [])
theorem w503 : vrf GG [] [] 300 1 g503
  [] = true := by decide +kernel
theorem r503 {l : Launch} {D : va_G} {tys : List (ClassId × FieldType)} {A : Nat → Prop} {ad : Nat → Nat} (hAD : ∀ i : Nat, ad (1000 + i) = D.2 1000 i) : CRok l D tys A ad GG 2 g503 := CR_of_vrf (dep := 1) hAD (fun c hc => by cases hc) T2OK_nil w503
def g504 : CR := (325, [(2, 90, 90), (0, (-2147483648), 0)], [((91, 0), (0, 1, 9))], some (0, (-2), (-2)), [], [])
theorem w504 : vrf GG [] [] 300 1 g504
  [] = true := by decide +kernel
theorem r504 {l : Launch} {D : va_G} {tys : List (ClassId × FieldType)} {A : Nat → Prop} {ad : Nat → Nat} (hAD : ∀ i : Nat, ad (1000 + i) = D.2 1000 i) : CRok l D tys A ad GG 2 g504 := CR_of_vrf (dep := 1) hAD (fun c hc => by cases hc) T2OK_nil w504
def g505 : CR := (325, [(2, 90, 90), (0, 7, 2147483647)], [((91, 0), (0, 0, 0))], some (0, (-2), (-2)), [], [])
theorem w505 : vrf GG [] [] 300 1 g505
  [] = true := by decide +kernel
theorem r505 {l : Launch} {D : va_G} {tys : List (ClassId × FieldType)} {A : Nat → Prop} {ad : Nat → Nat} (hAD : ∀ i : Nat, ad (1000 + i) = D.2 1000 i) : CRok l D tys A ad GG 2 g505 := CR_of_vrf (dep := 1) hAD (fun c hc => by cases hc) T2OK_nil w505
def g506 : CR := (325, [(2, 90, 90), (0, 7, 2147483647)], [((91, 0), (0, 1, 9))], some (0, (-2), (-2)), [], [])
theorem w506 : vrf GG [] [] 300 1 g506
  [] = true := by decide +kernel
theorem r506 {l : Launch} {D : va_G} {tys : List (ClassId × FieldType)} {A : Nat → Prop} {ad : Nat → Nat} (hAD : ∀ i : Nat, ad (1000 + i) = D.2 1000 i) : CRok l D tys A ad GG 2 g506 := CR_of_vrf (dep := 1) hAD (fun c hc => by cases hc) T2OK_nil w506
def g507 : CR := (325, [(2, 90, 90), (0, 1, 1)], [((91, 0), (0, 0, 0))], some (0, (-2), 0), [], [])
theorem w507 : vrf GG [(1, g340)] [] 300 1 g507
  [(26, [(1, 2147483647)], [(0, rA 90), (1, iA (1, [])), (2, iA (0, [])), (3, iA (0, []))], [], [((91, 0), iA (0, [])), ((91, 5), iA (0, [(1, 0)]))], (78, []))] = true := by decide +kernel
theorem r507 {l : Launch} {D : va_G} {tys : List (ClassId × FieldType)} {A : Nat → Prop} {ad : Nat → Nat} (hAD : ∀ i : Nat, ad (1000 + i) = D.2 1000 i) : CRok l D tys A ad GG 2 g507 := CR_of_vrf (dep := 1) hAD (List.forall_mem_cons.mpr ⟨r340 hAD, fun c hc => by cases hc⟩) T2OK_nil w507
def g508 : CR := (323, [(2, 90, 90), (0, 0, 5)], [((91, 0), (0, 1, 9))], some (0, 0, 1), [], [])
theorem w508 : vrf GG [] [] 300 1 g508
  [(2, [(0, 5), (0, 6), (1, 9)], [(0, rA 90), (1, iA (0, [(1, 0)])), (2, iA (0, [(1, 1)]))], [], [((91, 0), iA (0, [(1, 2)]))], (638, [((-92), 1)]))] = true := by decide +kernel
theorem r508 {l : Launch} {D : va_G} {tys : List (ClassId × FieldType)} {A : Nat → Prop} {ad : Nat → Nat} (hAD : ∀ i : Nat, ad (1000 + i) = D.2 1000 i) : CRok l D tys A ad GG 2 g508 := CR_of_vrf (dep := 1) hAD (fun c hc => by cases hc) T2OK_nil w508
def g509 : CR := (324, [(2, 90, 90)], [((91, 0), (0, 1, 9))], some (0, 0, 1), [], [])
theorem w509 : vrf GG [(2, g508)] [] 300 2 g509
  [(2, [(0, 6), (1, 9)], [(0, rA 90), (1, iA (0, [(1, 0)]))], [], [((91, 0), iA (0, [(1, 1)]))], (442, [((-64), 0)]))] = true := by decide +kernel
theorem r509 {l : Launch} {D : va_G} {tys : List (ClassId × FieldType)} {A : Nat → Prop} {ad : Nat → Nat} (hAD : ∀ i : Nat, ad (1000 + i) = D.2 1000 i) : CRok l D tys A ad GG 3 g509 := CR_of_vrf (dep := 2) hAD (List.forall_mem_cons.mpr ⟨r508 hAD, fun c hc => by cases hc⟩) T2OK_nil w509
def g510 : CR := (325, [(2, 90, 90), (0, 1, 1)], [((91, 0), (0, 1, 9))], some (0, (-2147483648), 2147483647), [], [90, 105])
theorem w510 : vrf GG [(1, g379), (1, g380), (3, g509)] [] 300 3 g510
  [(26, [((-2147483648), 2147483647), (0, 9), (1, 9), (1, 2147483647)], [(0, rA 90), (1, iA (1, [])), (2, iA (0, [(1, 0)])), (3, iA (0, [(1, 1)]))], [], [((91, 0), iA (0, [(1, 2)])), ((91, 5), iA (0, [(1, 3)]))], (1266, [((-132), 1)])),
  (54, [((-2147483648), 2147483647), (0, 8), (0, 1), ((-2147483648), 2147483647), (1, 9), (1, 2147483647)], [(0, rA 90), (1, iA (1, [])), (2, iA (0, [(1, 0)])), (3, iA (0, [(1, 1)]))], [iA (0, [(1, 2)]), iA (0, [(1, 3)])], [((91, 0), iA (0, [(1, 4)])), ((91, 5), iA (0, [(1, 5)]))], (1238, [((-132), 1)]))] = true := by decide +kernel
theorem r510 {l : Launch} {D : va_G} {tys : List (ClassId × FieldType)} {A : Nat → Prop} {ad : Nat → Nat} (hAD : ∀ i : Nat, ad (1000 + i) = D.2 1000 i) : CRok l D tys A ad GG 4 g510 := CR_of_vrf (dep := 3) hAD (List.forall_mem_cons.mpr ⟨r379 hAD, List.forall_mem_cons.mpr ⟨r380 hAD, List.forall_mem_cons.mpr ⟨r509 hAD, fun c hc => by cases hc⟩⟩⟩) T2OK_nil w510
def g511 : CR := (325, [(2, 90, 90), (0, 2, 2)], [((91, 0), (0, 0, 0))], some (0, (-2), 0), [], [])
theorem w511 : vrf GG [(1, g382)] [] 300 1 g511
  [(26, [(1, 2147483647)], [(0, rA 90), (1, iA (2, [])), (2, iA (0, [])), (3, iA (0, []))], [], [((91, 0), iA (0, [])), ((91, 5), iA (0, [(1, 0)]))], (78, []))] = true := by decide +kernel
theorem r511 {l : Launch} {D : va_G} {tys : List (ClassId × FieldType)} {A : Nat → Prop} {ad : Nat → Nat} (hAD : ∀ i : Nat, ad (1000 + i) = D.2 1000 i) : CRok l D tys A ad GG 2 g511 := CR_of_vrf (dep := 1) hAD (List.forall_mem_cons.mpr ⟨r382 hAD, fun c hc => by cases hc⟩) T2OK_nil w511
def g512 : CR := (325, [(2, 90, 90), (0, 2, 2)], [((91, 0), (0, 1, 9))], some (0, (-2147483648), 2147483647), [], [90, 105])
theorem w512 : vrf GG [(1, g384), (1, g385), (3, g509)] [] 300 3 g512
  [(26, [((-2147483648), 2147483647), ((-2147483647), 2147483647), (1, 9), (1, 2147483647)], [(0, rA 90), (1, iA (2, [])), (2, iA (0, [(1, 0)])), (3, iA (0, [(1, 1)]))], [], [((91, 0), iA (0, [(1, 2)])), ((91, 5), iA (0, [(1, 3)]))], (283467841482, [((-132), 1)])),
  (54, [((-2147483648), 2147483647), ((-2147483647), 2147483646), (0, 1), ((-2147483648), 2147483647), (1, 9), (1, 2147483647)], [(0, rA 90), (1, iA (2, [])), (2, iA (0, [(1, 0)])), (3, iA (0, [(1, 1)]))], [iA (0, [(1, 2)]), iA (0, [(1, 3)])], [((91, 0), iA (0, [(1, 4)])), ((91, 5), iA (0, [(1, 5)]))], (283467841454, [((-132), 1)]))] = true := by decide +kernel
theorem r512 {l : Launch} {D : va_G} {tys : List (ClassId × FieldType)} {A : Nat → Prop} {ad : Nat → Nat} (hAD : ∀ i : Nat, ad (1000 + i) = D.2 1000 i) : CRok l D tys A ad GG 4 g512 := CR_of_vrf (dep := 3) hAD (List.forall_mem_cons.mpr ⟨r384 hAD, List.forall_mem_cons.mpr ⟨r385 hAD, List.forall_mem_cons.mpr ⟨r509 hAD, fun c hc => by cases hc⟩⟩⟩) T2OK_nil w512
def g513 : CR := (325, [(2, 90, 90), (0, 3, 3)], [((91, 0), (0, 0, 0))], some (0, (-2), 0), [], [])
theorem w513 : vrf GG [(1, g387)] [] 300 1 g513
  [(26, [(1, 2147483647)], [(0, rA 90), (1, iA (3, [])), (2, iA (0, [])), (3, iA (0, []))], [], [((91, 0), iA (0, [])), ((91, 5), iA (0, [(1, 0)]))], (78, []))] = true := by decide +kernel
theorem r513 {l : Launch} {D : va_G} {tys : List (ClassId × FieldType)} {A : Nat → Prop} {ad : Nat → Nat} (hAD : ∀ i : Nat, ad (1000 + i) = D.2 1000 i) : CRok l D tys A ad GG 2 g513 := CR_of_vrf (dep := 1) hAD (List.forall_mem_cons.mpr ⟨r387 hAD, fun c hc => by cases hc⟩) T2OK_nil w513
def g514 : CR := (325, [(2, 90, 90), (0, 3, 3)], [((91, 0), (0, 1, 9))], some (0, (-2147483648), 2147483647), [], [90, 105])
theorem w514 : vrf GG [(1, g389), (1, g390), (3, g509)] [] 300 3 g514
  [(26, [((-2147483648), 2147483647), ((-2147483647), 2147483647), (1, 9), (1, 2147483647)], [(0, rA 90), (1, iA (3, [])), (2, iA (0, [(1, 0)])), (3, iA (0, [(1, 1)]))], [], [((91, 0), iA (0, [(1, 2)])), ((91, 5), iA (0, [(1, 3)]))], (283467841482, [((-132), 1)])),
  (54, [((-2147483648), 2147483647), ((-2147483647), 2147483646), (0, 1), ((-2147483648), 2147483647), (1, 9), (1, 2147483647)], [(0, rA 90), (1, iA (3, [])), (2, iA (0, [(1, 0)])), (3, iA (0, [(1, 1)]))], [iA (0, [(1, 2)]), iA (0, [(1, 3)])], [((91, 0), iA (0, [(1, 4)])), ((91, 5), iA (0, [(1, 5)]))], (283467841454, [((-132), 1)]))] = true := by decide +kernel
theorem r514 {l : Launch} {D : va_G} {tys : List (ClassId × FieldType)} {A : Nat → Prop} {ad : Nat → Nat} (hAD : ∀ i : Nat, ad (1000 + i) = D.2 1000 i) : CRok l D tys A ad GG 4 g514 := CR_of_vrf (dep := 3) hAD (List.forall_mem_cons.mpr ⟨r389 hAD, List.forall_mem_cons.mpr ⟨r390 hAD, List.forall_mem_cons.mpr ⟨r509 hAD, fun c hc => by cases hc⟩⟩⟩) T2OK_nil w514
def g515 : CR := (325, [(2, 90, 90), (0, 4, 4)], [((91, 0), (0, 0, 0))], some (0, (-2), 0), [], [])
theorem w515 : vrf GG [(1, g392)] [] 300 1 g515
  [(26, [(1, 2147483647)], [(0, rA 90), (1, iA (4, [])), (2, iA (0, [])), (3, iA (0, []))], [], [((91, 0), iA (0, [])), ((91, 5), iA (0, [(1, 0)]))], (78, []))] = true := by decide +kernel
theorem r515 {l : Launch} {D : va_G} {tys : List (ClassId × FieldType)} {A : Nat → Prop} {ad : Nat → Nat} (hAD : ∀ i : Nat, ad (1000 + i) = D.2 1000 i) : CRok l D tys A ad GG 2 g515 := CR_of_vrf (dep := 1) hAD (List.forall_mem_cons.mpr ⟨r392 hAD, fun c hc => by cases hc⟩) T2OK_nil w515
def g516 : CR := (325, [(2, 90, 90), (0, 4, 4)], [((91, 0), (0, 1, 9))], some (0, (-2147483648), 2147483647), [], [90, 105])
theorem w516 : vrf GG [(1, g394), (1, g395), (3, g509)] [] 300 3 g516
  [(26, [((-2147483648), 2147483647), ((-2147483647), 2147483647), (1, 9), (1, 2147483647)], [(0, rA 90), (1, iA (4, [])), (2, iA (0, [(1, 0)])), (3, iA (0, [(1, 1)]))], [], [((91, 0), iA (0, [(1, 2)])), ((91, 5), iA (0, [(1, 3)]))], (283467841482, [((-132), 1)])),
  (54, [((-2147483648), 2147483647), ((-2147483647), 2147483646), (0, 1), ((-2147483648), 2147483647), (1, 9), (1, 2147483647)], [(0, rA 90), (1, iA (4, [])), (2, iA (0, [(1, 0)])), (3, iA (0, [(1, 1)]))], [iA (0, [(1, 2)]), iA (0, [(1, 3)])], [((91, 0), iA (0, [(1, 4)])), ((91, 5), iA (0, [(1, 5)]))], (283467841454, [((-132), 1)]))] = true := by decide +kernel
theorem r516 {l : Launch} {D : va_G} {tys : List (ClassId × FieldType)} {A : Nat → Prop} {ad : Nat → Nat} (hAD : ∀ i : Nat, ad (1000 + i) = D.2 1000 i) : CRok l D tys A ad GG 4 g516 := CR_of_vrf (dep := 3) hAD (List.forall_mem_cons.mpr ⟨r394 hAD, List.forall_mem_cons.mpr ⟨r395 hAD, List.forall_mem_cons.mpr ⟨r509 hAD, fun c hc => by cases hc⟩⟩⟩) T2OK_nil w516
def g517 : CR := (325, [(2, 90, 90), (0, 5, 5)], [((91, 0), (0, 0, 0))], some (0, (-2), 0), [], [])
theorem w517 : vrf GG [(1, g397)] [] 300 1 g517
  [(26, [(1, 2147483647)], [(0, rA 90), (1, iA (5, [])), (2, iA (0, [])), (3, iA (0, []))], [], [((91, 0), iA (0, [])), ((91, 5), iA (0, [(1, 0)]))], (78, []))] = true := by decide +kernel
theorem r517 {l : Launch} {D : va_G} {tys : List (ClassId × FieldType)} {A : Nat → Prop} {ad : Nat → Nat} (hAD : ∀ i : Nat, ad (1000 + i) = D.2 1000 i) : CRok l D tys A ad GG 2 g517 := CR_of_vrf (dep := 1) hAD (List.forall_mem_cons.mpr ⟨r397 hAD, fun c hc => by cases hc⟩) T2OK_nil w517
def g518 : CR := (325, [(2, 90, 90), (0, 5, 5)], [((91, 0), (0, 1, 9))], some (0, (-2147483648), 2147483647), [], [90, 105])
theorem w518 : vrf GG [(1, g399), (1, g400), (3, g509)] [] 300 3 g518
  [(26, [((-2147483648), 2147483647), ((-2147483647), 2147483647), (1, 9), (1, 2147483647)], [(0, rA 90), (1, iA (5, [])), (2, iA (0, [(1, 0)])), (3, iA (0, [(1, 1)]))], [], [((91, 0), iA (0, [(1, 2)])), ((91, 5), iA (0, [(1, 3)]))], (283467841482, [((-132), 1)])),
  (54, [((-2147483648), 2147483647), ((-2147483647), 2147483646), (0, 1), ((-2147483648), 2147483647), (1, 9), (1, 2147483647)], [(0, rA 90), (1, iA (5, [])), (2, iA (0, [(1, 0)])), (3, iA (0, [(1, 1)]))], [iA (0, [(1, 2)]), iA (0, [(1, 3)])], [((91, 0), iA (0, [(1, 4)])), ((91, 5), iA (0, [(1, 5)]))], (283467841454, [((-132), 1)]))] = true := by decide +kernel
theorem r518 {l : Launch} {D : va_G} {tys : List (ClassId × FieldType)} {A : Nat → Prop} {ad : Nat → Nat} (hAD : ∀ i : Nat, ad (1000 + i) = D.2 1000 i) : CRok l D tys A ad GG 4 g518 := CR_of_vrf (dep := 3) hAD (List.forall_mem_cons.mpr ⟨r399 hAD, List.forall_mem_cons.mpr ⟨r400 hAD, List.forall_mem_cons.mpr ⟨r509 hAD, fun c hc => by cases hc⟩⟩⟩) T2OK_nil w518
def g519 : CR := (325, [(2, 90, 90), (0, 6, 6)], [((91, 0), (0, 0, 0))], some (0, (-2), 0), [], [])
theorem w519 : vrf GG [(1, g402)] [] 300 1 g519
  [(26, [(1, 2147483647)], [(0, rA 90), (1, iA (6, [])), (2, iA (0, [])), (3, iA (0, []))], [], [((91, 0), iA (0, [])), ((91, 5), iA (0, [(1, 0)]))], (78, []))] = true := by decide +kernel
theorem r519 {l : Launch} {D : va_G} {tys : List (ClassId × FieldType)} {A : Nat → Prop} {ad : Nat → Nat} (hAD : ∀ i : Nat, ad (1000 + i) = D.2 1000 i) : CRok l D tys A ad GG 2 g519 := CR_of_vrf (dep := 1) hAD (List.forall_mem_cons.mpr ⟨r402 hAD, fun c hc => by cases hc⟩) T2OK_nil w519
def g520 : CR := (325, [(2, 90, 90), (0, 6, 6)], [((91, 0), (0, 1, 9))], some (0, (-2147483648), 2147483647), [], [90, 105])
theorem w520 : vrf GG [(1, g404), (1, g405), (3, g509)] [] 300 3 g520
  [(26, [((-2147483648), 2147483647), ((-2147483647), 2147483647), (1, 9), (1, 2147483647)], [(0, rA 90), (1, iA (6, [])), (2, iA (0, [(1, 0)])), (3, iA (0, [(1, 1)]))], [], [((91, 0), iA (0, [(1, 2)])), ((91, 5), iA (0, [(1, 3)]))], (283467841482, [((-132), 1)])),
  (54, [((-2147483648), 2147483647), ((-2147483647), 2147483646), (0, 1), ((-2147483648), 2147483647), (1, 9), (1, 2147483647)], [(0, rA 90), (1, iA (6, [])), (2, iA (0, [(1, 0)])), (3, iA (0, [(1, 1)]))], [iA (0, [(1, 2)]), iA (0, [(1, 3)])], [((91, 0), iA (0, [(1, 4)])), ((91, 5), iA (0, [(1, 5)]))], (283467841454, [((-132), 1)]))] = true := by decide +kernel
theorem r520 {l : Launch} {D : va_G} {tys : List (ClassId × FieldType)} {A : Nat → Prop} {ad : Nat → Nat} (hAD : ∀ i : Nat, ad (1000 + i) = D.2 1000 i) : CRok l D tys A ad GG 4 g520 := CR_of_vrf (dep := 3) hAD (List.forall_mem_cons.mpr ⟨r404 hAD, List.forall_mem_cons.mpr ⟨r405 hAD, List.forall_mem_cons.mpr ⟨r509 hAD, fun c hc => by cases hc⟩⟩⟩) T2OK_nil w520
def g521 : CR := (151, [(0, 0, 9), (0, (-2147483648), 6)], [], some (1, (-9223372036854775808), 9223372036854775807), [], [])
theorem w521 : vrf GG [] [] 300 0 g521
  [(5, [(0, 9), ((-2147483648), 6), ((-9223372036854775808), 9223372036854775807), (0, 6)], [(0, iA (0, [(1, 0)])), (1, iA (0, [(1, 1)])), (2, lA (0, [(1, 2)])), (4, iA (0, [(1, 3)]))], [], [], (352, [((-52), 3)]))] = true := by decide +kernel
theorem r521 {l : Launch} {D : va_G} {tys : List (ClassId × FieldType)} {A : Nat → Prop} {ad : Nat → Nat} (hAD : ∀ i : Nat, ad (1000 + i) = D.2 1000 i) : CRok l D tys A ad GG 1 g521 := CR_of_vrf (dep := 0) hAD (fun c hc => by cases hc) T2OK_nil w521
def g522 : CR := (125, [(2, 50, 50), (2, 4, 4), (0, 1, 6), (0, 0, 0)], [], some (0, (-2147483648), 2147483647), [], [])
theorem w522 : vrf GG [(3, g477), (4, g479), (1, g480), (1, g521)] [] 300 4 g522
  [(15, [(1, 6), ((-9223372036854775808), 9223372036854775807), (0, 6), (0, 9)], [(0, rA 50), (1, rA 4), (2, iA (0, [(1, 0)])), (3, iA (0, [])), (4, lA (0, [(1, 1)])), (6, iA (0, [(1, 2)]))], [], [((4, 1), iA (0, [(1, 3)]))], (1340, [((-196), 2)])),
  (86, [(1, 6), ((-9223372036854775808), 9223372036854775807), (0, 5), (0, 6), (0, 9), (1, 6)], [(0, rA 50), (1, rA 4), (2, iA (0, [(1, 0)])), (3, iA (0, [])), (4, lA (0, [(1, 1)])), (6, iA (0, [(1, 2)])), (7, iA (0, [(1, 3)]))], [], [((4, 1), iA (0, [(1, 4)])), ((4, 4), iA (0, [(1, 5)]))], (1269, [((-196), 2)]))] = true := by decide +kernel
theorem r522 {l : Launch} {D : va_G} {tys : List (ClassId × FieldType)} {A : Nat → Prop} {ad : Nat → Nat} (hAD : ∀ i : Nat, ad (1000 + i) = D.2 1000 i) : CRok l D tys A ad GG 5 g522 := CR_of_vrf (dep := 4) hAD (List.forall_mem_cons.mpr ⟨r477 hAD, List.forall_mem_cons.mpr ⟨r479 hAD, List.forall_mem_cons.mpr ⟨r480 hAD, List.forall_mem_cons.mpr ⟨r521 hAD, fun c hc => by cases hc⟩⟩⟩⟩) T2OK_nil w522
def g523 : CR := (129, [(2, 50, 50), (2, 4, 4)], [], some (0, (-1), 6), [], [])
theorem w523 : vrf GG [(5, g522)] [] 300 5 g523
  [(2, [(1, 7)], [(0, rA 50), (1, rA 4), (2, iA (0, [(1, 0)]))], [], [], (474, [((-60), 0)]))] = true := by decide +kernel
theorem r523 {l : Launch} {D : va_G} {tys : List (ClassId × FieldType)} {A : Nat → Prop} {ad : Nat → Nat} (hAD : ∀ i : Nat, ad (1000 + i) = D.2 1000 i) : CRok l D tys A ad GG 6 g523 := CR_of_vrf (dep := 5) hAD (List.forall_mem_cons.mpr ⟨r522 hAD, fun c hc => by cases hc⟩) T2OK_nil w523
def g524 : CR := (126, [(2, 50, 50), (2, 4, 4), (0, 0, 5), (0, 0, 5)], [], some (0, 0, 1), [], [])
theorem w524 : vrf GG [] [] 300 2 g524
  [(3, [(0, 5), (0, 5), (0, 5)], [(0, rA 50), (1, rA 4), (2, iA (0, [(1, 0)])), (3, iA (0, [(1, 1)])), (4, iA (0, [(1, 2)]))], [], [], (472, [((-80), 2)]))] = true := by decide +kernel
theorem r524 {l : Launch} {D : va_G} {tys : List (ClassId × FieldType)} {A : Nat → Prop} {ad : Nat → Nat} (hAD : ∀ i : Nat, ad (1000 + i) = D.2 1000 i) : CRok l D tys A ad GG 3 g524 := CR_of_vrf (dep := 2) hAD (fun c hc => by cases hc) T2OK_nil w524
def g525 : CR := (125, [(2, 50, 50), (2, 4, 4), (0, 1, 6), (0, 1, 6)], [], some (0, (-2147483648), 2147483647), [], [])
theorem w525 : vrf GG [(3, g524), (3, g477), (4, g479), (1, g480), (1, g521)] [] 300 4 g525
  [(15, [(1, 6), (1, 6), ((-9223372036854775808), 9223372036854775807), (0, 6), (0, 9)], [(0, rA 50), (1, rA 4), (2, iA (0, [(1, 0)])), (3, iA (0, [(1, 1)])), (4, lA (0, [(1, 2)])), (6, iA (0, [(1, 3)]))], [], [((4, 1), iA (0, [(1, 4)]))], (1340, [((-196), 3)])),
  (86, [(1, 6), (1, 6), ((-9223372036854775808), 9223372036854775807), (0, 5), (0, 6), (0, 9), (1, 6)], [(0, rA 50), (1, rA 4), (2, iA (0, [(1, 0)])), (3, iA (0, [(1, 1)])), (4, lA (0, [(1, 2)])), (6, iA (0, [(1, 3)])), (7, iA (0, [(1, 4)]))], [], [((4, 1), iA (0, [(1, 5)])), ((4, 4), iA (0, [(1, 6)]))], (1269, [((-196), 3)]))] = true := by decide +kernel
theorem r525 {l : Launch} {D : va_G} {tys : List (ClassId × FieldType)} {A : Nat → Prop} {ad : Nat → Nat} (hAD : ∀ i : Nat, ad (1000 + i) = D.2 1000 i) : CRok l D tys A ad GG 5 g525 := CR_of_vrf (dep := 4) hAD (List.forall_mem_cons.mpr ⟨r524 hAD, List.forall_mem_cons.mpr ⟨r477 hAD, List.forall_mem_cons.mpr ⟨r479 hAD, List.forall_mem_cons.mpr ⟨r480 hAD, List.forall_mem_cons.mpr ⟨r521 hAD, fun c hc => by cases hc⟩⟩⟩⟩⟩) T2OK_nil w525
def g526 : CR := (130, [(2, 50, 50), (2, 4, 4), (0, 1, 6)], [], none, [], [51])
theorem w526 : vrf GG [(5, g525)] [] 300 5 g526
  [(2, [(1, 6), (0, 6)], [(0, rA 50), (1, rA 4), (2, iA (0, [(1, 0)])), (3, iA (0, [(1, 1)]))], [], [], (9906, [((-1416), 1)])),
  (10, [(1, 6), (0, 5), (0, 9)], [(0, rA 50), (1, rA 4), (2, iA (0, [(1, 0)])), (3, iA (0, [(1, 1)])), (4, iA (0, [(1, 2)]))], [], [], (9710, [((-118), 2), ((-1416), 1)])),
  (50, [(1, 6), (0, 5), (0, 9), (0, 9)], [(0, rA 50), (1, rA 4), (2, iA (0, [(1, 0)])), (3, iA (0, [(1, 1)])), (4, iA (0, [(1, 2)]))], [], [((4, 1), iA (0, [(1, 3)]))], (8560, [((-1416), 1)]))] = true := by decide +kernel
theorem r526 {l : Launch} {D : va_G} {tys : List (ClassId × FieldType)} {A : Nat → Prop} {ad : Nat → Nat} (hAD : ∀ i : Nat, ad (1000 + i) = D.2 1000 i) : CRok l D tys A ad GG 6 g526 := CR_of_vrf (dep := 5) hAD (List.forall_mem_cons.mpr ⟨r525 hAD, fun c hc => by cases hc⟩) T2OK_nil w526
def g527 : CR := (61, [(2, 0, 0), (0, (-2147483648), 2147483647)], [], some (0, (-2147483648), 2147483647), [], [51])
theorem w527 : vrf GG [(6, g523), (6, g526)] [] 300 6 g527
  [] = true := by decide +kernel
theorem r527 {l : Launch} {D : va_G} {tys : List (ClassId × FieldType)} {A : Nat → Prop} {ad : Nat → Nat} (hAD : ∀ i : Nat, ad (1000 + i) = D.2 1000 i) : CRok l D tys A ad GG 7 g527 := CR_of_vrf (dep := 6) hAD (List.forall_mem_cons.mpr ⟨r523 hAD, List.forall_mem_cons.mpr ⟨r526 hAD, fun c hc => by cases hc⟩⟩) T2OK_nil w527
def g528 : CR := (309, [(2, 90, 90), (0, 1, 6)], [((91, 0), (0, 0, 0))], some (0, 0, 0), [], [])
theorem w528 : vrf GG [] [] 300 0 g528
  [] = true := by decide +kernel
theorem r528 {l : Launch} {D : va_G} {tys : List (ClassId × FieldType)} {A : Nat → Prop} {ad : Nat → Nat} (hAD : ∀ i : Nat, ad (1000 + i) = D.2 1000 i) : CRok l D tys A ad GG 1 g528 := CR_of_vrf (dep := 0) hAD (fun c hc => by cases hc) T2OK_nil w528
def g529 : CR := (326, [(2, 90, 90), (0, (-2147483648), 2147483647)], [((91, 0), (0, 0, 0))], some (0, (-2), (-1)), [], [])
theorem w529 : vrf GG [(1, g528)] [] 300 1 g529
  [(17, [((-1), 2147483647), (1, 7), (1, 2147483647)], [(0, rA 90), (1, iA (0, [(1, 0)])), (2, iA (0, [(1, 1)]))], [], [((91, 0), iA (0, [])), ((91, 5), iA (0, [(1, 2)]))], (4188, [((-528), 1)])),
  (25, [((-1), 2147483647), (1, 6), (1, 2147483647)], [(0, rA 90), (1, iA (0, [(1, 0)])), (2, iA (0, [(1, 1)])), (3, iA (0, []))], [], [((91, 0), iA (0, [])), ((91, 5), iA (0, [(1, 2)]))], (3890, [((-528), 1)]))] = true := by decide +kernel
theorem r529 {l : Launch} {D : va_G} {tys : List (ClassId × FieldType)} {A : Nat → Prop} {ad : Nat → Nat} (hAD : ∀ i : Nat, ad (1000 + i) = D.2 1000 i) : CRok l D tys A ad GG 2 g529 := CR_of_vrf (dep := 1) hAD (List.forall_mem_cons.mpr ⟨r528 hAD, fun c hc => by cases hc⟩) T2OK_nil w529
def g530 : CR := (309, [(2, 90, 90), (0, 1, 6)], [((91, 0), (0, 1, 9))], some (0, (-2147483648), 2147483647), [], [])
theorem w530 : vrf GG [] [] 300 0 g530
  [] = true := by decide +kernel
theorem r530 {l : Launch} {D : va_G} {tys : List (ClassId × FieldType)} {A : Nat → Prop} {ad : Nat → Nat} (hAD : ∀ i : Nat, ad (1000 + i) = D.2 1000 i) : CRok l D tys A ad GG 1 g530 := CR_of_vrf (dep := 0) hAD (fun c hc => by cases hc) T2OK_nil w530
def g531 : CR := (310, [(2, 90, 90), (0, 0, 2147483646), (0, 1, 6)], [((91, 0), (0, 1, 9))], none, [], [90, 105])
theorem w531 : vrf GG [] [] 300 0 g531
  [(12, [(0, 2147483646), (1, 6), (0, 2147483646), ((-1), 5), (1, 6), (1, 9)], [(0, rA 90), (1, iA (0, [(1, 0)])), (2, iA (0, [(1, 1)])), (3, iA (0, [(1, 2)])), (4, iA (0, [(1, 3)]))], [], [((90, 30), iA (0, [(1, 4)])), ((91, 0), iA (0, [(1, 5)]))], (174, [(100, 3)]))] = true := by decide +kernel
theorem r531 {l : Launch} {D : va_G} {tys : List (ClassId × FieldType)} {A : Nat → Prop} {ad : Nat → Nat} (hAD : ∀ i : Nat, ad (1000 + i) = D.2 1000 i) : CRok l D tys A ad GG 1 g531 := CR_of_vrf (dep := 0) hAD (fun c hc => by cases hc) T2OK_nil w531
def g532 : CR := (326, [(2, 90, 90), (0, (-2147483648), 2147483647)], [((91, 0), (0, 1, 9))], some (0, (-2147483648), 2147483647), [], [90, 105])
theorem w532 : vrf GG [(1, g530), (1, g531), (3, g509)] [] 300 3 g532
  [(17, [((-1), 2147483647), (1, 7), (1, 9), (1, 2147483647)], [(0, rA 90), (1, iA (0, [(1, 0)])), (2, iA (0, [(1, 1)]))], [], [((91, 0), iA (0, [(1, 2)])), ((91, 5), iA (0, [(1, 3)]))], (3023656979164, [((-377957122400), 1)])),
  (25, [((-1), 2147483647), (1, 6), (0, 2147483647), (1, 9), (1, 2147483647)], [(0, rA 90), (1, iA (0, [(1, 0)])), (2, iA (0, [(1, 1)])), (3, iA (0, [(1, 2)]))], [], [((91, 0), iA (0, [(1, 3)])), ((91, 5), iA (0, [(1, 4)]))], (3023656978866, [((-176), 2), ((-377957122400), 1)])),
  (71, [((-1), 2147483647), (1, 6), (0, 2147483646), ((-2147483648), 2147483647), (1, 9), (1, 2147483647)], [(0, rA 90), (1, iA (0, [(1, 0)])), (2, iA (0, [(1, 1)])), (3, iA (0, [(1, 2)]))], [iA (0, [(1, 3)])], [((91, 0), iA (0, [(1, 4)])), ((91, 5), iA (0, [(1, 5)]))], (3023656978820, [((-176), 2), ((-377957122400), 1)]))] = true := by decide +kernel
theorem r532 {l : Launch} {D : va_G} {tys : List (ClassId × FieldType)} {A : Nat → Prop} {ad : Nat → Nat} (hAD : ∀ i : Nat, ad (1000 + i) = D.2 1000 i) : CRok l D tys A ad GG 4 g532 := CR_of_vrf (dep := 3) hAD (List.forall_mem_cons.mpr ⟨r530 hAD, List.forall_mem_cons.mpr ⟨r531 hAD, List.forall_mem_cons.mpr ⟨r509 hAD, fun c hc => by cases hc⟩⟩⟩) T2OK_nil w532
def g533 : CR := (31, [(2, 0, 0), (0, (-2147483648), 2147483647)], [], some (0, (-2), 63), [], [])
theorem w533 : vrf GG [(3, g129)] [] 300 3 g533
  [(18, [(0, 5), (0, 63), (0, 6), (1, 6)], [(0, rA 0), (1, iA (0, [(1, 0)])), (2, iA (0, [(1, 1)])), (3, iA (0, [(1, 2)]))], [], [((4, 4), iA (0, [(1, 3)]))], (998, [((-148), 2)])),
  (58, [(0, 5), (0, 63), (0, 5), (1, 6)], [(0, rA 0), (1, iA (0, [(1, 0)])), (2, iA (0, [(1, 1)])), (3, iA (0, [(1, 2)]))], [], [((4, 4), iA (0, [(1, 3)]))], (958, [((-148), 2)])),
  (64, [(0, 5), (0, 63), (0, 5), (1, 6)], [(0, rA 0), (1, iA (0, [(1, 0)])), (2, iA (0, [(1, 1)])), (3, iA (0, [(1, 2)]))], [], [((4, 4), iA (0, [(1, 3)]))], (952, [((-148), 2)]))] = true := by decide +kernel
theorem r533 {l : Launch} {D : va_G} {tys : List (ClassId × FieldType)} {A : Nat → Prop} {ad : Nat → Nat} (hAD : ∀ i : Nat, ad (1000 + i) = D.2 1000 i) : CRok l D tys A ad GG 4 g533 := CR_of_vrf (dep := 3) hAD (List.forall_mem_cons.mpr ⟨r129 hAD, fun c hc => by cases hc⟩) T2OK_nil w533
def g534 : CR := (275, [(2, 90, 90), (0, (-2147483648), 2147483647)], [], some (0, (-2), 63), [], [])
theorem w534 : vrf GG [(2, g131)] [] 300 2 g534
  [(15, [(0, 5), (0, 63), (0, 6), (1, 6)], [(0, rA 90), (1, iA (0, [(1, 0)])), (2, iA (0, [(1, 1)])), (3, iA (0, [(1, 2)]))], [], [((91, 3), iA (0, [(1, 3)]))], (920, [((-136), 2)])),
  (49, [(0, 5), (0, 63), (0, 5), (0, 63), (1, 6)], [(0, rA 90), (1, iA (0, [(1, 0)])), (2, iA (0, [(1, 1)])), (3, iA (0, [(1, 2)]))], [iA (0, [(1, 3)])], [((91, 3), iA (0, [(1, 4)]))], (886, [((-136), 2)])),
  (55, [(0, 5), (0, 63), (0, 5), (0, 63), (1, 6)], [(0, rA 90), (1, iA (0, [(1, 0)])), (2, iA (0, [(1, 1)])), (3, iA (0, [(1, 2)]))], [iA (0, [(1, 3)])], [((91, 3), iA (0, [(1, 4)]))], (880, [((-136), 2)])),
  (56, [(0, 5), (0, 63), (0, 5), (0, 32), (0, 63), (1, 6)], [(0, rA 90), (1, iA (0, [(1, 0)])), (2, iA (0, [(1, 1)])), (3, iA (0, [(1, 2)]))], [iA (0, [(1, 3)]), iA (0, [(1, 4)])], [((91, 3), iA (0, [(1, 5)]))], (879, [((-136), 2)]))] = true := by decide +kernel
theorem r534 {l : Launch} {D : va_G} {tys : List (ClassId × FieldType)} {A : Nat → Prop} {ad : Nat → Nat} (hAD : ∀ i : Nat, ad (1000 + i) = D.2 1000 i) : CRok l D tys A ad GG 3 g534 := CR_of_vrf (dep := 2) hAD (List.forall_mem_cons.mpr ⟨r131 hAD, fun c hc => by cases hc⟩) T2OK_nil w534
def g535 : CR := (151, [(0, 100, 100), (0, 0, 63)], [], some (1, (-9223372036854775808), 9223372036854775807), [], [])
theorem w535 : vrf GG [] [] 300 0 g535
  [(5, [(0, 63), ((-9223372036854775808), 9223372036854775807), (0, 63)], [(0, iA (100, [])), (1, iA (0, [(1, 0)])), (2, lA (0, [(1, 1)])), (4, iA (0, [(1, 2)]))], [], [], (3316, [((-52), 2)]))] = true := by decide +kernel
theorem r535 {l : Launch} {D : va_G} {tys : List (ClassId × FieldType)} {A : Nat → Prop} {ad : Nat → Nat} (hAD : ∀ i : Nat, ad (1000 + i) = D.2 1000 i) : CRok l D tys A ad GG 1 g535 := CR_of_vrf (dep := 0) hAD (fun c hc => by cases hc) T2OK_nil w535
def g536 : CR := (152, [(1, (-9223372036854775808), 9223372036854775807), (1, (-9223372036854775808), 9223372036854775807)], [], some (1, (-9223372036854775808), 9223372036854775807), [], [])
theorem w536 : vrf GG [] [] 300 0 g536
  [(9, [((-9223372036854775808), 9223372036854775807), ((-9223372036854775808), 9223372036854775807), ((-9223372036854775808), 9223372036854775807), ((-9223372036854775808), 9223372036854775807), (0, 200)], [(0, lA (0, [(1, 0)])), (2, lA (0, [(1, 1)])), (4, lA (0, [(1, 2)])), (6, lA (0, [(1, 3)])), (8, iA (0, [(1, 4)]))], [], [], (20080, [((-100), 4)]))] = true := by decide +kernel
theorem r536 {l : Launch} {D : va_G} {tys : List (ClassId × FieldType)} {A : Nat → Prop} {ad : Nat → Nat} (hAD : ∀ i : Nat, ad (1000 + i) = D.2 1000 i) : CRok l D tys A ad GG 1 g536 := CR_of_vrf (dep := 0) hAD (fun c hc => by cases hc) T2OK_nil w536
def g537 : CR := (63, [(2, 0, 0), (0, 0, 5)], [], some (0, 0, 4095), [], [])
theorem w537 : vrf GG [] [] 300 2 g537
  [(4, [(0, 5), (0, 4095), (0, 12)], [(0, rA 0), (1, iA (0, [(1, 0)])), (2, iA (0, [(1, 1)])), (3, iA (0, [(1, 2)]))], [], [], (2642, [((-204), 2)])),
  (38, [(0, 5), (0, 4095), (0, 11), (0, 1), (1, 12)], [(0, rA 0), (1, iA (0, [(1, 0)])), (2, iA (0, [(1, 1)])), (3, iA (0, [(1, 2)]))], [iA (0, [(1, 3)])], [((4, 5), iA (0, [(1, 4)]))], (2608, [((-204), 2)])),
  (92, [(0, 5), (0, 4095), (0, 11), (0, 1), ((-2147483648), 2147483647), (1, 12)], [(0, rA 0), (1, iA (0, [(1, 0)])), (2, iA (0, [(1, 1)])), (3, iA (0, [(1, 2)])), (4, iA (0, [(1, 3)])), (5, iA (0, [(1, 4)]))], [], [((4, 5), iA (0, [(1, 5)]))], (2554, [((-204), 2)]))] = true := by decide +kernel
theorem r537 {l : Launch} {D : va_G} {tys : List (ClassId × FieldType)} {A : Nat → Prop} {ad : Nat → Nat} (hAD : ∀ i : Nat, ad (1000 + i) = D.2 1000 i) : CRok l D tys A ad GG 3 g537 := CR_of_vrf (dep := 2) hAD (fun c hc => by cases hc) T2OK_nil w537
def g538 : CR := (92, [(2, 28, 28), (2, 4, 4), (0, (-2147483648), 2147483647), (0, (-2147483648), 2147483647)], [], some (0, 0, 63), [], [31])
theorem w538 : vrf GG [] [] 748 2 g538
  [(28, [((-2147483648), 2147483647), ((-2147483648), 2147483647), ((-2147483648), 2147483647), ((-2147483648), 2147483647), (0, 63), (0, 6)], [(0, rA 28), (1, rA 4), (2, iA (0, [(1, 0)])), (3, iA (0, [(1, 1)])), (4, iA (0, [(1, 2)])), (5, iA (0, [(1, 3)])), (6, iA (0, [(1, 4)])), (7, iA (0, [(1, 5)]))], [], [], (1426, [((-212), 5)])),
  (95, [((-2147483648), 2147483647), ((-2147483648), 2147483647), ((-2147483648), 2147483647), ((-2147483648), 2147483647), (0, 63), (0, 5), (1, 6)], [(0, rA 28), (1, rA 4), (2, iA (0, [(1, 0)])), (3, iA (0, [(1, 1)])), (4, iA (0, [(1, 2)])), (5, iA (0, [(1, 3)])), (6, iA (0, [(1, 4)])), (7, iA (0, [(1, 5)]))], [], [((4, 4), iA (0, [(1, 6)]))], (1359, [((-212), 5)]))] = true := by decide +kernel
theorem r538 {l : Launch} {D : va_G} {tys : List (ClassId × FieldType)} {A : Nat → Prop} {ad : Nat → Nat} (hAD : ∀ i : Nat, ad (1000 + i) = D.2 1000 i) : CRok l D tys A ad GG 3 g538 := CR_of_vrf (dep := 2) hAD (fun c hc => by cases hc) T2OK_nil w538
def g539 : CR := (94, [(2, 28, 28), (2, 4, 4), (0, 0, 5), (0, 0, 5), (0, 0, 4095)], [], some (0, 0, 1), [], [31])
theorem w539 : vrf GG [(3, g63), (3, g538)] [] 675 3 g539
  [(8, [(0, 5), (0, 5), (0, 4095), (0, 12)], [(0, rA 28), (1, rA 4), (2, iA (0, [(1, 0)])), (3, iA (0, [(1, 1)])), (4, iA (0, [(1, 2)])), (5, iA (0, [(1, 3)]))], [], [], (2738, [((-212), 3)])),
  (66, [(0, 5), (0, 5), (0, 4095), (0, 11), ((-2147483648), 2147483647), ((-2147483648), 2147483647), (1, 12)], [(0, rA 28), (1, rA 4), (2, iA (0, [(1, 0)])), (3, iA (0, [(1, 1)])), (4, iA (0, [(1, 2)])), (5, iA (0, [(1, 3)])), (6, iA (0, [(1, 4)]))], [iA (0, [(1, 5)])], [((4, 5), iA (0, [(1, 6)]))], (2680, [((-212), 3)])),
  (78, [(0, 5), (0, 5), (0, 4095), (0, 11), ((-2147483648), 2147483647), (1, 12)], [(0, rA 28), (1, rA 4), (2, iA (0, [(1, 0)])), (3, iA (0, [(1, 1)])), (4, iA (0, [(1, 2)])), (5, iA (0, [(1, 3)])), (6, iA (0, [(1, 4)]))], [], [((4, 5), iA (0, [(1, 5)]))], (2668, [((-212), 3)]))] = true := by decide +kernel
theorem r539 {l : Launch} {D : va_G} {tys : List (ClassId × FieldType)} {A : Nat → Prop} {ad : Nat → Nat} (hAD : ∀ i : Nat, ad (1000 + i) = D.2 1000 i) : CRok l D tys A ad GG 4 g539 := CR_of_vrf (dep := 3) hAD (List.forall_mem_cons.mpr ⟨r63 hAD, List.forall_mem_cons.mpr ⟨r538 hAD, fun c hc => by cases hc⟩⟩) T2OK_nil w539
def g540 : CR := (96, [(0, 0, 4095), (0, 0, 4095), (0, (-2147483648), 2147483647)], [], some (1, (-9223372036854775808), 9223372036854775807), [], [])
theorem w540 : vrf GG [] [] 300 0 g540
  [(5, [(0, 4095), (0, 4095), ((-2147483648), 2147483647), ((-9223372036854775808), 9223372036854775807), (0, 12)], [(0, iA (0, [(1, 0)])), (1, iA (0, [(1, 1)])), (2, iA (0, [(1, 2)])), (3, lA (0, [(1, 3)])), (5, iA (0, [(1, 4)]))], [], [], (1366, [((-106), 4)])),
  (41, [(0, 4095), (0, 4095), ((-2147483648), 2147483647), ((-9223372036854775808), 9223372036854775807), (0, 11), ((-2147483648), 2147483647), ((-9223372036854775808), 9223372036854775807)], [(0, iA (0, [(1, 0)])), (1, iA (0, [(1, 1)])), (2, iA (0, [(1, 2)])), (3, lA (0, [(1, 3)])), (5, iA (0, [(1, 4)]))], [lA (0, [(1, 5)]), lA (0, [(1, 6)])], [], (1330, [((-106), 4)])),
  (43, [(0, 4095), (0, 4095), ((-2147483648), 2147483647), ((-9223372036854775808), 9223372036854775807), (0, 11)], [(0, iA (0, [(1, 0)])), (1, iA (0, [(1, 1)])), (2, iA (0, [(1, 2)])), (3, lA (0, [(1, 3)])), (5, iA (0, [(1, 4)]))], [], [], (1328, [((-106), 4)]))] = true := by decide +kernel
theorem r540 {l : Launch} {D : va_G} {tys : List (ClassId × FieldType)} {A : Nat → Prop} {ad : Nat → Nat} (hAD : ∀ i : Nat, ad (1000 + i) = D.2 1000 i) : CRok l D tys A ad GG 1 g540 := CR_of_vrf (dep := 0) hAD (fun c hc => by cases hc) T2OK_nil w540
def g541 : CR := (95, [(2, 28, 28), (2, 4, 4), (0, 0, 5), (0, 0, 5), (0, 0, 4095)], [], some (1, (-9223372036854775808), 9223372036854775807), [], [31])
theorem w541 : vrf GG [(4, g539), (1, g540)] [] 300 4 g541
  [(9, [(0, 5), (0, 5), (0, 4095), ((-9223372036854775808), 9223372036854775807), (0, 4095), (0, 256)], [(0, rA 28), (1, rA 4), (2, iA (0, [(1, 0)])), (3, iA (0, [(1, 1)])), (4, iA (0, [(1, 2)])), (5, lA (0, [(1, 3)])), (7, iA (0, [(1, 4)])), (8, iA (0, [(1, 5)]))], [], [], (45726, [((-178), 5)])),
  (60, [(0, 5), (0, 5), (0, 4095), ((-9223372036854775808), 9223372036854775807), (0, 4095), (0, 255), ((-9223372036854775808), 9223372036854775807)], [(0, rA 28), (1, rA 4), (2, iA (0, [(1, 0)])), (3, iA (0, [(1, 1)])), (4, iA (0, [(1, 2)])), (5, lA (0, [(1, 3)])), (7, iA (0, [(1, 4)])), (8, iA (0, [(1, 5)])), (9, lA (0, [(1, 6)]))], [], [], (45675, [((-178), 5)]))] = true := by decide +kernel
theorem r541 {l : Launch} {D : va_G} {tys : List (ClassId × FieldType)} {A : Nat → Prop} {ad : Nat → Nat} (hAD : ∀ i : Nat, ad (1000 + i) = D.2 1000 i) : CRok l D tys A ad GG 5 g541 := CR_of_vrf (dep := 4) hAD (List.forall_mem_cons.mpr ⟨r539 hAD, List.forall_mem_cons.mpr ⟨r540 hAD, fun c hc => by cases hc⟩⟩) T2OK_nil w541
def g542 : CR := (62, [(2, 0, 0), (0, (-2147483648), 2147483647), (0, (-2147483648), 2147483647), (0, (-2147483648), 2147483647)], [], some (1, (-9223372036854775808), 9223372036854775807), [], [31])
theorem w542 : vrf GG [(3, g537), (5, g541), (1, g535), (1, g536)] [] 300 5 g542
  [] = true := by decide +kernel
theorem r542 {l : Launch} {D : va_G} {tys : List (ClassId × FieldType)} {A : Nat → Prop} {ad : Nat → Nat} (hAD : ∀ i : Nat, ad (1000 + i) = D.2 1000 i) : CRok l D tys A ad GG 6 g542 := CR_of_vrf (dep := 5) hAD (List.forall_mem_cons.mpr ⟨r537 hAD, List.forall_mem_cons.mpr ⟨r541 hAD, List.forall_mem_cons.mpr ⟨r535 hAD, List.forall_mem_cons.mpr ⟨r536 hAD, fun c hc => by cases hc⟩⟩⟩⟩) T2OK_nil w542
def g543 : CR := (327, [(2, 90, 90), (0, 0, 5)], [], some (0, 0, 4095), [], [])
theorem w543 : vrf GG [] [] 300 2 g543
  [(4, [(0, 5), (0, 4095), (0, 12)], [(0, rA 90), (1, iA (0, [(1, 0)])), (2, iA (0, [(1, 1)])), (3, iA (0, [(1, 2)]))], [], [], (2512, [((-194), 2)])),
  (66, [(0, 5), (0, 4095), (0, 11), (0, 5), (0, 63), (0, 4095), (1, 12)], [(0, rA 90), (1, iA (0, [(1, 0)])), (2, iA (0, [(1, 1)])), (3, iA (0, [(1, 2)])), (4, iA (0, [(1, 3)]))], [iA (0, [(1, 4)]), iA (0, [(1, 5)])], [((91, 4), iA (0, [(1, 6)]))], (2450, [((-194), 2)])),
  (84, [(0, 5), (0, 4095), (0, 11), (0, 5), (0, 4095), (1, 12)], [(0, rA 90), (1, iA (0, [(1, 0)])), (2, iA (0, [(1, 1)])), (3, iA (0, [(1, 2)])), (4, iA (0, [(1, 3)]))], [iA (0, [(1, 4)])], [((91, 4), iA (0, [(1, 5)]))], (2432, [((-194), 2)])),
  (85, [(0, 5), (0, 4095), (0, 11), (0, 5), (0, 2048), (0, 4095), (1, 12)], [(0, rA 90), (1, iA (0, [(1, 0)])), (2, iA (0, [(1, 1)])), (3, iA (0, [(1, 2)])), (4, iA (0, [(1, 3)]))], [iA (0, [(1, 4)]), iA (0, [(1, 5)])], [((91, 4), iA (0, [(1, 6)]))], (2431, [((-194), 2)]))] = true := by decide +kernel
theorem r543 {l : Launch} {D : va_G} {tys : List (ClassId × FieldType)} {A : Nat → Prop} {ad : Nat → Nat} (hAD : ∀ i : Nat, ad (1000 + i) = D.2 1000 i) : CRok l D tys A ad GG 3 g543 := CR_of_vrf (dep := 2) hAD (fun c hc => by cases hc) T2OK_nil w543
def g544 : CR := (329, [(2, 90, 90), (0, 0, 5), (0, 0, 5), (0, 0, 4095)], [], some (1, (-9223372036854775808), 9223372036854775807), [], [90, 98, 99, 100, 101])
theorem w544 : vrf GG [(4, g84)] [] 300 5 g544
  [(6, [(0, 5), (0, 5), (0, 4095), ((-9223372036854775808), 9223372036854775807), (0, 4096)], [(0, rA 90), (1, iA (0, [(1, 0)])), (2, iA (0, [(1, 1)])), (3, iA (0, [(1, 2)])), (4, lA (0, [(1, 3)])), (6, iA (0, [(1, 4)]))], [], [], (19542676, [((-4770), 4)])),
  (30, [(0, 5), (0, 5), (0, 4095), ((-9223372036854775808), 9223372036854775807), (0, 4095), ((-9223372036854775808), 9223372036854775807), (0, 12)], [(0, rA 90), (1, iA (0, [(1, 0)])), (2, iA (0, [(1, 1)])), (3, iA (0, [(1, 2)])), (4, lA (0, [(1, 3)])), (6, iA (0, [(1, 4)])), (7, lA (0, [(1, 5)])), (9, iA (0, [(1, 6)]))], [], [], (19542144, [((-318), 6), ((-4770), 4)])),
  (89, [(0, 5), (0, 5), (0, 4095), ((-9223372036854775808), 9223372036854775807), (0, 4095), ((-9223372036854775808), 9223372036854775807), (0, 11), (0, 100), ((-9223372036854775808), 9223372036854775807)], [(0, rA 90), (1, iA (0, [(1, 0)])), (2, iA (0, [(1, 1)])), (3, iA (0, [(1, 2)])), (4, lA (0, [(1, 3)])), (6, iA (0, [(1, 4)])), (7, lA (0, [(1, 5)])), (9, iA (0, [(1, 6)]))], [lA (0, [(1, 7)]), lA (0, [(1, 8)])], [], (19542085, [((-318), 6), ((-4770), 4)])),
  (145, [(0, 5), (0, 5), (0, 4095), ((-9223372036854775808), 9223372036854775807), (0, 4095), ((-9223372036854775808), 9223372036854775807), ((-9223372036854775808), 9223372036854775807), ((-9223372036854775808), 9223372036854775807), (0, 24)], [(0, rA 90), (1, iA (0, [(1, 0)])), (2, iA (0, [(1, 1)])), (3, iA (0, [(1, 2)])), (4, lA (0, [(1, 3)])), (6, iA (0, [(1, 4)])), (7, lA (0, [(1, 5)])), (9, iA (12, []))], [lA (0, [(1, 6)]), lA (0, [(1, 7)])], [((90, 22), iA ((-1), [])), ((91, 2), iA (0, [(1, 8)]))], (19538085, [((-4770), 4)])),
  (148, [(0, 5), (0, 5), (0, 4095), ((-9223372036854775808), 9223372036854775807), (0, 4095)], [(0, rA 90), (1, iA (0, [(1, 0)])), (2, iA (0, [(1, 1)])), (3, iA (0, [(1, 2)])), (4, lA (0, [(1, 3)])), (6, iA (0, [(1, 4)]))], [], [], (19538082, [((-4770), 4)]))] = true := by decide +kernel
theorem r544 {l : Launch} {D : va_G} {tys : List (ClassId × FieldType)} {A : Nat → Prop} {ad : Nat → Nat} (hAD : ∀ i : Nat, ad (1000 + i) = D.2 1000 i) : CRok l D tys A ad GG 6 g544 := CR_of_vrf (dep := 5) hAD (List.forall_mem_cons.mpr ⟨r84 hAD, fun c hc => by cases hc⟩) T2OK_nil w544
def g545 : CR := (330, [(2, 90, 90), (0, (-2147483648), 2147483647), (0, (-2147483648), 2147483647), (0, (-2147483648), 2147483647)], [], some (1, (-9223372036854775808), 9223372036854775807), [], [90, 98, 99, 100, 101])
theorem w545 : vrf GG [(1, g162), (4, g84), (3, g543), (6, g544)] hDiv 812 6 g545
  [] = true := by decide +kernel
theorem r545 {l : Launch} {D : va_G} {tys : List (ClassId × FieldType)} {A : Nat → Prop} {ad : Nat → Nat} (hAD : ∀ i : Nat, ad (1000 + i) = D.2 1000 i) : CRok l D tys A ad GG 7 g545 := CR_of_vrf (dep := 6) hAD (List.forall_mem_cons.mpr ⟨r162 hAD, List.forall_mem_cons.mpr ⟨r84 hAD, List.forall_mem_cons.mpr ⟨r543 hAD, List.forall_mem_cons.mpr ⟨r544 hAD, fun c hc => by cases hc⟩⟩⟩⟩) HDiv_ok w545
