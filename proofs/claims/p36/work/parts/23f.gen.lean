def g558 : CR := (97, [(2, 28, 28), (2, 4, 4), (1, 0, 2000000000)], [], none, [], [31])
theorem w558 : vrf GG [(3, g75), (3, g550)] [] 631 3 g558
  [(11, [(0, 2000000000), (0, 2147483647), (0, 12)], [(0, rA 28), (1, rA 4), (2, lA (0, [(1, 0)])), (4, lA (0, [(1, 1)])), (6, iA (0, [(1, 2)]))], [], [], (34608, [((-2664), 2)])),
  (49, [(0, 2000000000), (0, 2147483647), (0, 11), ((-2147483648), 2147483647), ((-2147483648), 2147483647), (0, 6), (1, 12)], [(0, rA 28), (1, rA 4), (2, lA (0, [(1, 0)])), (4, lA (0, [(1, 1)])), (6, iA (0, [(1, 2)])), (7, iA (0, [(1, 3)])), (8, iA (0, [(1, 4)])), (9, iA (0, [(1, 5)]))], [], [((4, 5), iA (0, [(1, 6)]))], (34076, [((-296), 5), ((-2664), 2)])),
  (123, [(0, 2000000000), (0, 2147483647), (0, 11), ((-2147483648), 2147483647), ((-2147483648), 2147483647), (0, 5), (1, 6), (1, 12)], [(0, rA 28), (1, rA 4), (2, lA (0, [(1, 0)])), (4, lA (0, [(1, 1)])), (6, iA (0, [(1, 2)])), (7, iA (0, [(1, 3)])), (8, iA (0, [(1, 4)])), (9, iA (0, [(1, 5)]))], [], [((4, 4), iA (0, [(1, 6)])), ((4, 5), iA (0, [(1, 7)]))], (34002, [((-296), 5), ((-2664), 2)])),
  (139, [(0, 2000000000), (0, 2147483647), (0, 11), ((-2147483648), 2147483647), (1, 12)], [(0, rA 28), (1, rA 4), (2, lA (0, [(1, 0)])), (4, lA (0, [(1, 1)])), (6, iA (0, [(1, 2)])), (7, iA (0, [(1, 3)]))], [], [((4, 5), iA (0, [(1, 4)]))], (32112, [((-2664), 2)]))] = true := by decide +kernel
theorem r558 {l : Launch} {D : va_G} {tys : List (ClassId × FieldType)} {A : Nat → Prop} {ad : Nat → Nat} (hAD : ∀ i : Nat, ad (1000 + i) = D.2 1000 i) : CRok l D tys A ad GG 4 g558 := CR_of_vrf (dep := 3) hAD (List.forall_mem_cons.mpr ⟨r75 hAD, List.forall_mem_cons.mpr ⟨r550 hAD, fun c hc => by cases hc⟩⟩) T2OK_nil w558
def g559 : CR := (64, [(2, 0, 0), (0, (-2147483648), 2147483647), (0, (-2147483648), 2147483647), (0, (-2147483648), 2147483647)], [], some (0, (-2147483648), 2147483647), [], [31])
theorem w559 : vrf GG [(4, g558)] [] 300 4 g559
  [] = true := by decide +kernel
theorem r559 {l : Launch} {D : va_G} {tys : List (ClassId × FieldType)} {A : Nat → Prop} {ad : Nat → Nat} (hAD : ∀ i : Nat, ad (1000 + i) = D.2 1000 i) : CRok l D tys A ad GG 5 g559 := CR_of_vrf (dep := 4) hAD (List.forall_mem_cons.mpr ⟨r558 hAD, fun c hc => by cases hc⟩) T2OK_nil w559
def g560 : CR := (333, [(2, 90, 90), (0, (-2147483648), 2147483647), (0, (-2147483648), 2147483647), (0, (-2147483648), 2147483647)], [((90, 22), (0, (-1), (-1))), ((90, 24), (0, 0, 0))], some (0, (-2), 63), [((90, 22), (0, (-1), (-1))), ((90, 24), (0, 0, 0))], [90, 98, 99, 100, 101, 1024])
theorem w560 : vrf GG [(4, g96)] [] 300 6 g560
  [] = true := by decide +kernel
theorem r560 {l : Launch} {D : va_G} {tys : List (ClassId × FieldType)} {A : Nat → Prop} {ad : Nat → Nat} (hAD : ∀ i : Nat, ad (1000 + i) = D.2 1000 i) : CRok l D tys A ad GG 7 g560 := CR_of_vrf (dep := 6) hAD (List.forall_mem_cons.mpr ⟨r96 hAD, fun c hc => by cases hc⟩) T2OK_nil w560
def g561 : CR := (97, [(2, 28, 28), (2, 4, 4), (1, 0, 2147483647)], [], none, [], [31])
theorem w561 : vrf GG [(3, g75), (3, g550)] [] 631 3 g561
  [(11, [(0, 2147483647), (0, 2147483647), (0, 12)], [(0, rA 28), (1, rA 4), (2, lA (0, [(1, 0)])), (4, lA (0, [(1, 1)])), (6, iA (0, [(1, 2)]))], [], [], (34608, [((-2664), 2)])),
  (49, [(0, 2147483647), (0, 2147483647), (0, 11), ((-2147483648), 2147483647), ((-2147483648), 2147483647), (0, 6), (1, 12)], [(0, rA 28), (1, rA 4), (2, lA (0, [(1, 0)])), (4, lA (0, [(1, 1)])), (6, iA (0, [(1, 2)])), (7, iA (0, [(1, 3)])), (8, iA (0, [(1, 4)])), (9, iA (0, [(1, 5)]))], [], [((4, 5), iA (0, [(1, 6)]))], (34076, [((-296), 5), ((-2664), 2)])),
  (123, [(0, 2147483647), (0, 2147483647), (0, 11), ((-2147483648), 2147483647), ((-2147483648), 2147483647), (0, 5), (1, 6), (1, 12)], [(0, rA 28), (1, rA 4), (2, lA (0, [(1, 0)])), (4, lA (0, [(1, 1)])), (6, iA (0, [(1, 2)])), (7, iA (0, [(1, 3)])), (8, iA (0, [(1, 4)])), (9, iA (0, [(1, 5)]))], [], [((4, 4), iA (0, [(1, 6)])), ((4, 5), iA (0, [(1, 7)]))], (34002, [((-296), 5), ((-2664), 2)])),
  (139, [(0, 2147483647), (0, 2147483647), (0, 11), ((-2147483648), 2147483647), (1, 12)], [(0, rA 28), (1, rA 4), (2, lA (0, [(1, 0)])), (4, lA (0, [(1, 1)])), (6, iA (0, [(1, 2)])), (7, iA (0, [(1, 3)]))], [], [((4, 5), iA (0, [(1, 4)]))], (32112, [((-2664), 2)]))] = true := by decide +kernel
theorem r561 {l : Launch} {D : va_G} {tys : List (ClassId × FieldType)} {A : Nat → Prop} {ad : Nat → Nat} (hAD : ∀ i : Nat, ad (1000 + i) = D.2 1000 i) : CRok l D tys A ad GG 4 g561 := CR_of_vrf (dep := 3) hAD (List.forall_mem_cons.mpr ⟨r75 hAD, List.forall_mem_cons.mpr ⟨r550 hAD, fun c hc => by cases hc⟩⟩) T2OK_nil w561
def g562 : CR := (65, [(2, 0, 0), (0, (-2147483648), 2147483647), (0, (-2147483648), 2147483647), (0, (-2147483648), 2147483647), (0, (-2147483648), 2147483647)], [], some (0, (-2147483648), 2147483647), [], [31])
theorem w562 : vrf GG [(4, g561)] [] 300 4 g562
  [(57, [(0, 2000000000), (1, 20), (0, 5), (0, 5), ((-2147483648), 2147483647), (0, 20), (1, 6)], [(0, rA 0), (1, iA (0, [(1, 0)])), (2, iA (0, [(1, 1)])), (3, iA (0, [(1, 2)])), (4, iA (0, [(1, 3)])), (5, iA (0, [(1, 4)])), (6, iA (0, [(1, 5)]))], [], [((4, 4), iA (0, [(1, 6)]))], (4756, [((-232), 5)])),
  (105, [(0, 2000000000), (1, 20), (0, 5), (0, 5), ((-2147483648), 2147483647), (0, 19), (1, 6)], [(0, rA 0), (1, iA (0, [(1, 0)])), (2, iA (0, [(1, 1)])), (3, iA (0, [(1, 2)])), (4, iA (0, [(1, 3)])), (5, iA (0, [(1, 4)])), (6, iA (0, [(1, 5)]))], [], [((4, 4), iA (0, [(1, 6)]))], (4708, [((-232), 5)]))] = true := by decide +kernel
theorem r562 {l : Launch} {D : va_G} {tys : List (ClassId × FieldType)} {A : Nat → Prop} {ad : Nat → Nat} (hAD : ∀ i : Nat, ad (1000 + i) = D.2 1000 i) : CRok l D tys A ad GG 5 g562 := CR_of_vrf (dep := 4) hAD (List.forall_mem_cons.mpr ⟨r561 hAD, fun c hc => by cases hc⟩) T2OK_nil w562
def g563 : CR := (334, [(2, 90, 90), (0, (-2147483648), 2147483647), (0, (-2147483648), 2147483647), (0, (-2147483648), 2147483647), (0, (-2147483648), 2147483647)], [((90, 22), (0, (-1), (-1))), ((90, 24), (0, 0, 0))], some (0, (-2147483648), 2147483647), [((90, 22), (0, (-1), (-1))), ((90, 24), (0, 0, 0))], [90, 98, 99, 100, 101, 1024])
theorem w563 : vrf GG [(4, g96)] [] 300 6 g563
  [(45, [(0, 2000000000), (1, 20), (0, 5), (0, 5), ((-2147483648), 2147483647), (0, 20), (1, 6)], [(0, rA 90), (1, iA (0, [(1, 0)])), (2, iA (0, [(1, 1)])), (3, iA (0, [(1, 2)])), (4, iA (0, [(1, 3)])), (5, iA (0, [(1, 4)])), (6, iA (0, [(1, 5)]))], [], [((90, 22), iA ((-1), [])), ((90, 24), iA (0, [])), ((91, 3), iA (0, [(1, 6)]))], (3772, [((-184), 5)])),
  (78, [(0, 2000000000), (1, 20), (0, 5), (0, 5), ((-2147483648), 2147483647), (0, 19), (0, 1), ((-2147483648), 2147483647), (0, 24), (1, 6)], [(0, rA 90), (1, iA (0, [(1, 0)])), (2, iA (0, [(1, 1)])), (3, iA (0, [(1, 2)])), (4, iA (0, [(1, 3)])), (5, iA (0, [(1, 4)])), (6, iA (0, [(1, 5)]))], [iA (0, [(1, 6)]), iA (0, [(1, 7)])], [((90, 22), iA ((-1), [])), ((90, 24), iA (0, [])), ((91, 2), iA (0, [(1, 8)])), ((91, 3), iA (0, [(1, 9)]))], (3739, [((-184), 5)]))] = true := by decide +kernel
theorem r563 {l : Launch} {D : va_G} {tys : List (ClassId × FieldType)} {A : Nat → Prop} {ad : Nat → Nat} (hAD : ∀ i : Nat, ad (1000 + i) = D.2 1000 i) : CRok l D tys A ad GG 7 g563 := CR_of_vrf (dep := 6) hAD (List.forall_mem_cons.mpr ⟨r96 hAD, fun c hc => by cases hc⟩) T2OK_nil w563
def g564 : CR := (44, [(2, 0, 0), (0, (-2147483648), 2147483647), (0, (-2147483648), 2147483647), (0, (-2147483648), 2147483647), (0, (-2147483648), 2147483647)], [], some (0, (-2), 1), [], [11, 29, 30, 31, 32, 33, 34, 35])
theorem w564 : vrf GG [(4, g78), (5, g76)] [] 454 6 g564
  [] = true := by decide +kernel
theorem r564 {l : Launch} {D : va_G} {tys : List (ClassId × FieldType)} {A : Nat → Prop} {ad : Nat → Nat} (hAD : ∀ i : Nat, ad (1000 + i) = D.2 1000 i) : CRok l D tys A ad GG 7 g564 := CR_of_vrf (dep := 6) hAD (List.forall_mem_cons.mpr ⟨r78 hAD, List.forall_mem_cons.mpr ⟨r76 hAD, fun c hc => by cases hc⟩⟩) T2OK_nil w564
def g565 : CR := (294, [(2, 90, 90), (0, (-2147483648), 2147483647), (0, (-2147483648), 2147483647), (0, (-2147483648), 2147483647), (0, (-2147483648), 2147483647)], [], some (0, (-2), 1), [], [91])
theorem w565 : vrf GG [] [] 300 3 g565
  [] = true := by decide +kernel
theorem r565 {l : Launch} {D : va_G} {tys : List (ClassId × FieldType)} {A : Nat → Prop} {ad : Nat → Nat} (hAD : ∀ i : Nat, ad (1000 + i) = D.2 1000 i) : CRok l D tys A ad GG 4 g565 := CR_of_vrf (dep := 3) hAD (fun c hc => by cases hc) T2OK_nil w565
def g566 : CR := (171, [(2, 39, 39)], [], some (0, (-2147483648), 2147483647), [], [])
theorem w566 : vrf GG [] [] 300 3 g566
  [(4, [((-2147483648), 2147483647), (0, 4)], [(0, rA 39), (1, iA (0, [(1, 0)])), (2, iA (0, [(1, 1)]))], [], [], (290, [((-60), 1)])),
  (20, [((-2147483648), 2147483647), (0, 3)], [(0, rA 39), (1, iA (0, [(1, 0)])), (2, iA (0, [(1, 1)]))], [], [], (274, [((-60), 1)]))] = true := by decide +kernel
theorem r566 {l : Launch} {D : va_G} {tys : List (ClassId × FieldType)} {A : Nat → Prop} {ad : Nat → Nat} (hAD : ∀ i : Nat, ad (1000 + i) = D.2 1000 i) : CRok l D tys A ad GG 4 g566 := CR_of_vrf (dep := 3) hAD (fun c hc => by cases hc) T2OK_nil w566
def g567 : CR := (66, [(2, 0, 0), (0, (-2147483648), 2147483647)], [], some (0, (-2147483648), 2147483647), [], [])
theorem w567 : vrf GG [(4, g566)] [] 300 4 g567
  [] = true := by decide +kernel
theorem r567 {l : Launch} {D : va_G} {tys : List (ClassId × FieldType)} {A : Nat → Prop} {ad : Nat → Nat} (hAD : ∀ i : Nat, ad (1000 + i) = D.2 1000 i) : CRok l D tys A ad GG 5 g567 := CR_of_vrf (dep := 4) hAD (List.forall_mem_cons.mpr ⟨r566 hAD, fun c hc => by cases hc⟩) T2OK_nil w567
def g568 : CR := (335, [(2, 90, 90), (0, (-2147483648), 2147483647)], [], some (0, (-2147483648), 2147483647), [], [])
theorem w568 : vrf GG [] [] 300 0 g568
  [(97, [((-2147483648), 2147483647), (0, 4)], [(0, rA 90), (1, iA (7, [])), (2, iA (0, [(1, 0)])), (3, iA (0, [(1, 1)]))], [], [], (1124, [((-264), 1)])),
  (118, [((-2147483648), 2147483647), (0, 3), (0, 1), ((-2147483648), 2147483647)], [(0, rA 90), (1, iA (7, [])), (2, iA (0, [(1, 0)])), (3, iA (0, [(1, 1)]))], [iA (0, [(1, 2)]), iA (0, [(1, 3)])], [], (1103, [((-264), 1)]))] = true := by decide +kernel
theorem r568 {l : Launch} {D : va_G} {tys : List (ClassId × FieldType)} {A : Nat → Prop} {ad : Nat → Nat} (hAD : ∀ i : Nat, ad (1000 + i) = D.2 1000 i) : CRok l D tys A ad GG 1 g568 := CR_of_vrf (dep := 0) hAD (fun c hc => by cases hc) T2OK_nil w568
def g569 : CR := (67, [(2, 0, 0), (0, (-2147483648), (-1))], [], some (0, (-2), (-2)), [], [])
theorem w569 : vrf GG [] [] 300 1 g569
  [] = true := by decide +kernel
theorem r569 {l : Launch} {D : va_G} {tys : List (ClassId × FieldType)} {A : Nat → Prop} {ad : Nat → Nat} (hAD : ∀ i : Nat, ad (1000 + i) = D.2 1000 i) : CRok l D tys A ad GG 2 g569 := CR_of_vrf (dep := 1) hAD (fun c hc => by cases hc) T2OK_nil w569
def g570 : CR := (67, [(2, 0, 0), (0, 3, 2147483647)], [], some (0, (-2), (-2)), [], [])
theorem w570 : vrf GG [] [] 300 1 g570
  [] = true := by decide +kernel
theorem r570 {l : Launch} {D : va_G} {tys : List (ClassId × FieldType)} {A : Nat → Prop} {ad : Nat → Nat} (hAD : ∀ i : Nat, ad (1000 + i) = D.2 1000 i) : CRok l D tys A ad GG 2 g570 := CR_of_vrf (dep := 1) hAD (fun c hc => by cases hc) T2OK_nil w570
def g571 : CR := (150, [(2, 10, 10), (2, 60, 60)], [], none, [], [60])
theorem w571 : vrf GG [] [] 300 0 g571
  [(2, [(0, 144)], [(0, rA 10), (1, rA 60), (2, iA (0, [(1, 0)]))], [], [], (8404, [((-58), 0)]))] = true := by decide +kernel
theorem r571 {l : Launch} {D : va_G} {tys : List (ClassId × FieldType)} {A : Nat → Prop} {ad : Nat → Nat} (hAD : ∀ i : Nat, ad (1000 + i) = D.2 1000 i) : CRok l D tys A ad GG 1 g571 := CR_of_vrf (dep := 0) hAD (fun c hc => by cases hc) T2OK_nil w571
def g572 : CR := (150, [(2, 11, 11), (2, 61, 61)], [], none, [], [61])
theorem w572 : vrf GG [] [] 300 0 g572
  [(2, [(0, 36)], [(0, rA 11), (1, rA 61), (2, iA (0, [(1, 0)]))], [], [], (2140, [((-58), 0)]))] = true := by decide +kernel
theorem r572 {l : Launch} {D : va_G} {tys : List (ClassId × FieldType)} {A : Nat → Prop} {ad : Nat → Nat} (hAD : ∀ i : Nat, ad (1000 + i) = D.2 1000 i) : CRok l D tys A ad GG 1 g572 := CR_of_vrf (dep := 0) hAD (fun c hc => by cases hc) T2OK_nil w572
def g573 : CR := (150, [(2, 12, 12), (2, 62, 62)], [], none, [], [62])
theorem w573 : vrf GG [] [] 300 0 g573
  [(2, [(0, 12)], [(0, rA 12), (1, rA 62), (2, iA (0, [(1, 0)]))], [], [], (748, [((-58), 0)]))] = true := by decide +kernel
theorem r573 {l : Launch} {D : va_G} {tys : List (ClassId × FieldType)} {A : Nat → Prop} {ad : Nat → Nat} (hAD : ∀ i : Nat, ad (1000 + i) = D.2 1000 i) : CRok l D tys A ad GG 1 g573 := CR_of_vrf (dep := 0) hAD (fun c hc => by cases hc) T2OK_nil w573
def g574 : CR := (150, [(2, 13, 13), (2, 63, 63)], [], none, [], [63])
theorem w574 : vrf GG [] [] 300 0 g574
  [(2, [(0, 12)], [(0, rA 13), (1, rA 63), (2, iA (0, [(1, 0)]))], [], [], (748, [((-58), 0)]))] = true := by decide +kernel
theorem r574 {l : Launch} {D : va_G} {tys : List (ClassId × FieldType)} {A : Nat → Prop} {ad : Nat → Nat} (hAD : ∀ i : Nat, ad (1000 + i) = D.2 1000 i) : CRok l D tys A ad GG 1 g574 := CR_of_vrf (dep := 0) hAD (fun c hc => by cases hc) T2OK_nil w574
def g575 : CR := (150, [(2, 14, 14), (2, 64, 64)], [], none, [], [64])
theorem w575 : vrf GG [] [] 300 0 g575
  [(2, [(0, 12)], [(0, rA 14), (1, rA 64), (2, iA (0, [(1, 0)]))], [], [], (748, [((-58), 0)]))] = true := by decide +kernel
theorem r575 {l : Launch} {D : va_G} {tys : List (ClassId × FieldType)} {A : Nat → Prop} {ad : Nat → Nat} (hAD : ∀ i : Nat, ad (1000 + i) = D.2 1000 i) : CRok l D tys A ad GG 1 g575 := CR_of_vrf (dep := 0) hAD (fun c hc => by cases hc) T2OK_nil w575
def g576 : CR := (150, [(2, 15, 15), (2, 65, 65)], [], none, [], [65])
theorem w576 : vrf GG [] [] 300 0 g576
  [(2, [(0, 12)], [(0, rA 15), (1, rA 65), (2, iA (0, [(1, 0)]))], [], [], (748, [((-58), 0)]))] = true := by decide +kernel
theorem r576 {l : Launch} {D : va_G} {tys : List (ClassId × FieldType)} {A : Nat → Prop} {ad : Nat → Nat} (hAD : ∀ i : Nat, ad (1000 + i) = D.2 1000 i) : CRok l D tys A ad GG 1 g576 := CR_of_vrf (dep := 0) hAD (fun c hc => by cases hc) T2OK_nil w576
def g577 : CR := (150, [(2, 5, 5), (2, 55, 55)], [], none, [], [55])
theorem w577 : vrf GG [] [] 300 0 g577
  [(2, [(0, 6)], [(0, rA 5), (1, rA 55), (2, iA (0, [(1, 0)]))], [], [], (400, [((-58), 0)]))] = true := by decide +kernel
theorem r577 {l : Launch} {D : va_G} {tys : List (ClassId × FieldType)} {A : Nat → Prop} {ad : Nat → Nat} (hAD : ∀ i : Nat, ad (1000 + i) = D.2 1000 i) : CRok l D tys A ad GG 1 g577 := CR_of_vrf (dep := 0) hAD (fun c hc => by cases hc) T2OK_nil w577
def g578 : CR := (150, [(2, 6, 6), (2, 56, 56)], [], none, [], [56])
theorem w578 : vrf GG [] [] 300 0 g578
  [(2, [(0, 36)], [(0, rA 6), (1, rA 56), (2, iA (0, [(1, 0)]))], [], [], (2140, [((-58), 0)]))] = true := by decide +kernel
theorem r578 {l : Launch} {D : va_G} {tys : List (ClassId × FieldType)} {A : Nat → Prop} {ad : Nat → Nat} (hAD : ∀ i : Nat, ad (1000 + i) = D.2 1000 i) : CRok l D tys A ad GG 1 g578 := CR_of_vrf (dep := 0) hAD (fun c hc => by cases hc) T2OK_nil w578
def g579 : CR := (150, [(2, 7, 7), (2, 57, 57)], [], none, [], [57])
theorem w579 : vrf GG [] [] 300 0 g579
  [(2, [(0, 6)], [(0, rA 7), (1, rA 57), (2, iA (0, [(1, 0)]))], [], [], (400, [((-58), 0)]))] = true := by decide +kernel
theorem r579 {l : Launch} {D : va_G} {tys : List (ClassId × FieldType)} {A : Nat → Prop} {ad : Nat → Nat} (hAD : ∀ i : Nat, ad (1000 + i) = D.2 1000 i) : CRok l D tys A ad GG 1 g579 := CR_of_vrf (dep := 0) hAD (fun c hc => by cases hc) T2OK_nil w579
def g580 : CR := (150, [(2, 8, 8), (2, 58, 58)], [], none, [], [58])
theorem w580 : vrf GG [] [] 300 0 g580
  [(2, [(0, 6)], [(0, rA 8), (1, rA 58), (2, iA (0, [(1, 0)]))], [], [], (400, [((-58), 0)]))] = true := by decide +kernel
theorem r580 {l : Launch} {D : va_G} {tys : List (ClassId × FieldType)} {A : Nat → Prop} {ad : Nat → Nat} (hAD : ∀ i : Nat, ad (1000 + i) = D.2 1000 i) : CRok l D tys A ad GG 1 g580 := CR_of_vrf (dep := 0) hAD (fun c hc => by cases hc) T2OK_nil w580
def g581 : CR := (150, [(2, 9, 9), (2, 59, 59)], [], none, [], [59])
theorem w581 : vrf GG [] [] 300 0 g581
  [(2, [(0, 6)], [(0, rA 9), (1, rA 59), (2, iA (0, [(1, 0)]))], [], [], (400, [((-58), 0)]))] = true := by decide +kernel
theorem r581 {l : Launch} {D : va_G} {tys : List (ClassId × FieldType)} {A : Nat → Prop} {ad : Nat → Nat} (hAD : ∀ i : Nat, ad (1000 + i) = D.2 1000 i) : CRok l D tys A ad GG 1 g581 := CR_of_vrf (dep := 0) hAD (fun c hc => by cases hc) T2OK_nil w581
def g582 : CR := (67, [(2, 0, 0), (0, 0, 0)], [], some (0, 0, 0), [], [0, 54, 55, 56, 57, 58, 59, 60, 61, 62, 63, 64, 65])
theorem w582 : vrf GG [(1, g571), (1, g572), (1, g573), (1, g574), (1, g575), (1, g576), (1, g577), (1, g578), (1, g579), (1, g580), (1, g581)] [] 300 2 g582
  [] = true := by decide +kernel
theorem r582 {l : Launch} {D : va_G} {tys : List (ClassId × FieldType)} {A : Nat → Prop} {ad : Nat → Nat} (hAD : ∀ i : Nat, ad (1000 + i) = D.2 1000 i) : CRok l D tys A ad GG 3 g582 := CR_of_vrf (dep := 2) hAD (List.forall_mem_cons.mpr ⟨r571 hAD, List.forall_mem_cons.mpr ⟨r572 hAD, List.forall_mem_cons.mpr ⟨r573 hAD, List.forall_mem_cons.mpr ⟨r574 hAD, List.forall_mem_cons.mpr ⟨r575 hAD, List.forall_mem_cons.mpr ⟨r576 hAD, List.forall_mem_cons.mpr ⟨r577 hAD, List.forall_mem_cons.mpr ⟨r578 hAD, List.forall_mem_cons.mpr ⟨r579 hAD, List.forall_mem_cons.mpr ⟨r580 hAD, List.forall_mem_cons.mpr ⟨r581 hAD, fun c hc => by cases hc⟩⟩⟩⟩⟩⟩⟩⟩⟩⟩⟩) T2OK_nil w582
def g583 : CR := (150, [(2, 10, 10), (2, 72, 72)], [], none, [], [72])
theorem w583 : vrf GG [] [] 300 0 g583
  [(2, [(0, 144)], [(0, rA 10), (1, rA 72), (2, iA (0, [(1, 0)]))], [], [], (8404, [((-58), 0)]))] = true := by decide +kernel
theorem r583 {l : Launch} {D : va_G} {tys : List (ClassId × FieldType)} {A : Nat → Prop} {ad : Nat → Nat} (hAD : ∀ i : Nat, ad (1000 + i) = D.2 1000 i) : CRok l D tys A ad GG 1 g583 := CR_of_vrf (dep := 0) hAD (fun c hc => by cases hc) T2OK_nil w583
def g584 : CR := (150, [(2, 11, 11), (2, 73, 73)], [], none, [], [73])
theorem w584 : vrf GG [] [] 300 0 g584
  [(2, [(0, 36)], [(0, rA 11), (1, rA 73), (2, iA (0, [(1, 0)]))], [], [], (2140, [((-58), 0)]))] = true := by decide +kernel
theorem r584 {l : Launch} {D : va_G} {tys : List (ClassId × FieldType)} {A : Nat → Prop} {ad : Nat → Nat} (hAD : ∀ i : Nat, ad (1000 + i) = D.2 1000 i) : CRok l D tys A ad GG 1 g584 := CR_of_vrf (dep := 0) hAD (fun c hc => by cases hc) T2OK_nil w584
def g585 : CR := (150, [(2, 12, 12), (2, 74, 74)], [], none, [], [74])
theorem w585 : vrf GG [] [] 300 0 g585
  [(2, [(0, 12)], [(0, rA 12), (1, rA 74), (2, iA (0, [(1, 0)]))], [], [], (748, [((-58), 0)]))] = true := by decide +kernel
theorem r585 {l : Launch} {D : va_G} {tys : List (ClassId × FieldType)} {A : Nat → Prop} {ad : Nat → Nat} (hAD : ∀ i : Nat, ad (1000 + i) = D.2 1000 i) : CRok l D tys A ad GG 1 g585 := CR_of_vrf (dep := 0) hAD (fun c hc => by cases hc) T2OK_nil w585
def g586 : CR := (150, [(2, 13, 13), (2, 75, 75)], [], none, [], [75])
theorem w586 : vrf GG [] [] 300 0 g586
  [(2, [(0, 12)], [(0, rA 13), (1, rA 75), (2, iA (0, [(1, 0)]))], [], [], (748, [((-58), 0)]))] = true := by decide +kernel
theorem r586 {l : Launch} {D : va_G} {tys : List (ClassId × FieldType)} {A : Nat → Prop} {ad : Nat → Nat} (hAD : ∀ i : Nat, ad (1000 + i) = D.2 1000 i) : CRok l D tys A ad GG 1 g586 := CR_of_vrf (dep := 0) hAD (fun c hc => by cases hc) T2OK_nil w586
def g587 : CR := (150, [(2, 14, 14), (2, 76, 76)], [], none, [], [76])
theorem w587 : vrf GG [] [] 300 0 g587
  [(2, [(0, 12)], [(0, rA 14), (1, rA 76), (2, iA (0, [(1, 0)]))], [], [], (748, [((-58), 0)]))] = true := by decide +kernel
theorem r587 {l : Launch} {D : va_G} {tys : List (ClassId × FieldType)} {A : Nat → Prop} {ad : Nat → Nat} (hAD : ∀ i : Nat, ad (1000 + i) = D.2 1000 i) : CRok l D tys A ad GG 1 g587 := CR_of_vrf (dep := 0) hAD (fun c hc => by cases hc) T2OK_nil w587
def g588 : CR := (150, [(2, 15, 15), (2, 77, 77)], [], none, [], [77])
theorem w588 : vrf GG [] [] 300 0 g588
  [(2, [(0, 12)], [(0, rA 15), (1, rA 77), (2, iA (0, [(1, 0)]))], [], [], (748, [((-58), 0)]))] = true := by decide +kernel
theorem r588 {l : Launch} {D : va_G} {tys : List (ClassId × FieldType)} {A : Nat → Prop} {ad : Nat → Nat} (hAD : ∀ i : Nat, ad (1000 + i) = D.2 1000 i) : CRok l D tys A ad GG 1 g588 := CR_of_vrf (dep := 0) hAD (fun c hc => by cases hc) T2OK_nil w588
def g589 : CR := (150, [(2, 5, 5), (2, 67, 67)], [], none, [], [67])
theorem w589 : vrf GG [] [] 300 0 g589
  [(2, [(0, 6)], [(0, rA 5), (1, rA 67), (2, iA (0, [(1, 0)]))], [], [], (400, [((-58), 0)]))] = true := by decide +kernel
theorem r589 {l : Launch} {D : va_G} {tys : List (ClassId × FieldType)} {A : Nat → Prop} {ad : Nat → Nat} (hAD : ∀ i : Nat, ad (1000 + i) = D.2 1000 i) : CRok l D tys A ad GG 1 g589 := CR_of_vrf (dep := 0) hAD (fun c hc => by cases hc) T2OK_nil w589
def g590 : CR := (150, [(2, 6, 6), (2, 68, 68)], [], none, [], [68])
theorem w590 : vrf GG [] [] 300 0 g590
  [(2, [(0, 36)], [(0, rA 6), (1, rA 68), (2, iA (0, [(1, 0)]))], [], [], (2140, [((-58), 0)]))] = true := by decide +kernel
theorem r590 {l : Launch} {D : va_G} {tys : List (ClassId × FieldType)} {A : Nat → Prop} {ad : Nat → Nat} (hAD : ∀ i : Nat, ad (1000 + i) = D.2 1000 i) : CRok l D tys A ad GG 1 g590 := CR_of_vrf (dep := 0) hAD (fun c hc => by cases hc) T2OK_nil w590
def g591 : CR := (150, [(2, 7, 7), (2, 69, 69)], [], none, [], [69])
theorem w591 : vrf GG [] [] 300 0 g591
  [(2, [(0, 6)], [(0, rA 7), (1, rA 69), (2, iA (0, [(1, 0)]))], [], [], (400, [((-58), 0)]))] = true := by decide +kernel
theorem r591 {l : Launch} {D : va_G} {tys : List (ClassId × FieldType)} {A : Nat → Prop} {ad : Nat → Nat} (hAD : ∀ i : Nat, ad (1000 + i) = D.2 1000 i) : CRok l D tys A ad GG 1 g591 := CR_of_vrf (dep := 0) hAD (fun c hc => by cases hc) T2OK_nil w591
def g592 : CR := (150, [(2, 8, 8), (2, 70, 70)], [], none, [], [70])
theorem w592 : vrf GG [] [] 300 0 g592
  [(2, [(0, 6)], [(0, rA 8), (1, rA 70), (2, iA (0, [(1, 0)]))], [], [], (400, [((-58), 0)]))] = true := by decide +kernel
theorem r592 {l : Launch} {D : va_G} {tys : List (ClassId × FieldType)} {A : Nat → Prop} {ad : Nat → Nat} (hAD : ∀ i : Nat, ad (1000 + i) = D.2 1000 i) : CRok l D tys A ad GG 1 g592 := CR_of_vrf (dep := 0) hAD (fun c hc => by cases hc) T2OK_nil w592
def g593 : CR := (150, [(2, 9, 9), (2, 71, 71)], [], none, [], [71])
theorem w593 : vrf GG [] [] 300 0 g593
  [(2, [(0, 6)], [(0, rA 9), (1, rA 71), (2, iA (0, [(1, 0)]))], [], [], (400, [((-58), 0)]))] = true := by decide +kernel
theorem r593 {l : Launch} {D : va_G} {tys : List (ClassId × FieldType)} {A : Nat → Prop} {ad : Nat → Nat} (hAD : ∀ i : Nat, ad (1000 + i) = D.2 1000 i) : CRok l D tys A ad GG 1 g593 := CR_of_vrf (dep := 0) hAD (fun c hc => by cases hc) T2OK_nil w593
def g594 : CR := (67, [(2, 0, 0), (0, 1, 1)], [], some (0, 0, 0), [], [0, 66, 67, 68, 69, 70, 71, 72, 73, 74, 75, 76, 77])
theorem w594 : vrf GG [(1, g583), (1, g584), (1, g585), (1, g586), (1, g587), (1, g588), (1, g589), (1, g590), (1, g591), (1, g592), (1, g593)] [] 300 2 g594
  [] = true := by decide +kernel
theorem r594 {l : Launch} {D : va_G} {tys : List (ClassId × FieldType)} {A : Nat → Prop} {ad : Nat → Nat} (hAD : ∀ i : Nat, ad (1000 + i) = D.2 1000 i) : CRok l D tys A ad GG 3 g594 := CR_of_vrf (dep := 2) hAD (List.forall_mem_cons.mpr ⟨r583 hAD, List.forall_mem_cons.mpr ⟨r584 hAD, List.forall_mem_cons.mpr ⟨r585 hAD, List.forall_mem_cons.mpr ⟨r586 hAD, List.forall_mem_cons.mpr ⟨r587 hAD, List.forall_mem_cons.mpr ⟨r588 hAD, List.forall_mem_cons.mpr ⟨r589 hAD, List.forall_mem_cons.mpr ⟨r590 hAD, List.forall_mem_cons.mpr ⟨r591 hAD, List.forall_mem_cons.mpr ⟨r592 hAD, List.forall_mem_cons.mpr ⟨r593 hAD, fun c hc => by cases hc⟩⟩⟩⟩⟩⟩⟩⟩⟩⟩⟩) T2OK_nil w594
def g595 : CR := (150, [(2, 10, 10), (2, 84, 84)], [], none, [], [84])
theorem w595 : vrf GG [] [] 300 0 g595
  [(2, [(0, 144)], [(0, rA 10), (1, rA 84), (2, iA (0, [(1, 0)]))], [], [], (8404, [((-58), 0)]))] = true := by decide +kernel
theorem r595 {l : Launch} {D : va_G} {tys : List (ClassId × FieldType)} {A : Nat → Prop} {ad : Nat → Nat} (hAD : ∀ i : Nat, ad (1000 + i) = D.2 1000 i) : CRok l D tys A ad GG 1 g595 := CR_of_vrf (dep := 0) hAD (fun c hc => by cases hc) T2OK_nil w595
def g596 : CR := (150, [(2, 11, 11), (2, 85, 85)], [], none, [], [85])
theorem w596 : vrf GG [] [] 300 0 g596
  [(2, [(0, 36)], [(0, rA 11), (1, rA 85), (2, iA (0, [(1, 0)]))], [], [], (2140, [((-58), 0)]))] = true := by decide +kernel
theorem r596 {l : Launch} {D : va_G} {tys : List (ClassId × FieldType)} {A : Nat → Prop} {ad : Nat → Nat} (hAD : ∀ i : Nat, ad (1000 + i) = D.2 1000 i) : CRok l D tys A ad GG 1 g596 := CR_of_vrf (dep := 0) hAD (fun c hc => by cases hc) T2OK_nil w596
def g597 : CR := (150, [(2, 12, 12), (2, 86, 86)], [], none, [], [86])
theorem w597 : vrf GG [] [] 300 0 g597
  [(2, [(0, 12)], [(0, rA 12), (1, rA 86), (2, iA (0, [(1, 0)]))], [], [], (748, [((-58), 0)]))] = true := by decide +kernel
theorem r597 {l : Launch} {D : va_G} {tys : List (ClassId × FieldType)} {A : Nat → Prop} {ad : Nat → Nat} (hAD : ∀ i : Nat, ad (1000 + i) = D.2 1000 i) : CRok l D tys A ad GG 1 g597 := CR_of_vrf (dep := 0) hAD (fun c hc => by cases hc) T2OK_nil w597
def g598 : CR := (150, [(2, 13, 13), (2, 87, 87)], [], none, [], [87])
theorem w598 : vrf GG [] [] 300 0 g598
  [(2, [(0, 12)], [(0, rA 13), (1, rA 87), (2, iA (0, [(1, 0)]))], [], [], (748, [((-58), 0)]))] = true := by decide +kernel
theorem r598 {l : Launch} {D : va_G} {tys : List (ClassId × FieldType)} {A : Nat → Prop} {ad : Nat → Nat} (hAD : ∀ i : Nat, ad (1000 + i) = D.2 1000 i) : CRok l D tys A ad GG 1 g598 := CR_of_vrf (dep := 0) hAD (fun c hc => by cases hc) T2OK_nil w598
def g599 : CR := (150, [(2, 14, 14), (2, 88, 88)], [], none, [], [88])
theorem w599 : vrf GG [] [] 300 0 g599
  [(2, [(0, 12)], [(0, rA 14), (1, rA 88), (2, iA (0, [(1, 0)]))], [], [], (748, [((-58), 0)]))] = true := by decide +kernel
theorem r599 {l : Launch} {D : va_G} {tys : List (ClassId × FieldType)} {A : Nat → Prop} {ad : Nat → Nat} (hAD : ∀ i : Nat, ad (1000 + i) = D.2 1000 i) : CRok l D tys A ad GG 1 g599 := CR_of_vrf (dep := 0) hAD (fun c hc => by cases hc) T2OK_nil w599
def g600 : CR := (150, [(2, 15, 15), (2, 89, 89)], [], none, [], [89])
theorem w600 : vrf GG [] [] 300 0 g600
  [(2, [(0, 12)], [(0, rA 15), (1, rA 89), (2, iA (0, [(1, 0)]))], [], [], (748, [((-58), 0)]))] = true := by decide +kernel
theorem r600 {l : Launch} {D : va_G} {tys : List (ClassId × FieldType)} {A : Nat → Prop} {ad : Nat → Nat} (hAD : ∀ i : Nat, ad (1000 + i) = D.2 1000 i) : CRok l D tys A ad GG 1 g600 := CR_of_vrf (dep := 0) hAD (fun c hc => by cases hc) T2OK_nil w600
def g601 : CR := (150, [(2, 5, 5), (2, 79, 79)], [], none, [], [79])
theorem w601 : vrf GG [] [] 300 0 g601
  [(2, [(0, 6)], [(0, rA 5), (1, rA 79), (2, iA (0, [(1, 0)]))], [], [], (400, [((-58), 0)]))] = true := by decide +kernel
theorem r601 {l : Launch} {D : va_G} {tys : List (ClassId × FieldType)} {A : Nat → Prop} {ad : Nat → Nat} (hAD : ∀ i : Nat, ad (1000 + i) = D.2 1000 i) : CRok l D tys A ad GG 1 g601 := CR_of_vrf (dep := 0) hAD (fun c hc => by cases hc) T2OK_nil w601
def g602 : CR := (150, [(2, 6, 6), (2, 80, 80)], [], none, [], [80])
theorem w602 : vrf GG [] [] 300 0 g602
  [(2, [(0, 36)], [(0, rA 6), (1, rA 80), (2, iA (0, [(1, 0)]))], [], [], (2140, [((-58), 0)]))] = true := by decide +kernel
theorem r602 {l : Launch} {D : va_G} {tys : List (ClassId × FieldType)} {A : Nat → Prop} {ad : Nat → Nat} (hAD : ∀ i : Nat, ad (1000 + i) = D.2 1000 i) : CRok l D tys A ad GG 1 g602 := CR_of_vrf (dep := 0) hAD (fun c hc => by cases hc) T2OK_nil w602
def g603 : CR := (150, [(2, 7, 7), (2, 81, 81)], [], none, [], [81])
theorem w603 : vrf GG [] [] 300 0 g603
  [(2, [(0, 6)], [(0, rA 7), (1, rA 81), (2, iA (0, [(1, 0)]))], [], [], (400, [((-58), 0)]))] = true := by decide +kernel
theorem r603 {l : Launch} {D : va_G} {tys : List (ClassId × FieldType)} {A : Nat → Prop} {ad : Nat → Nat} (hAD : ∀ i : Nat, ad (1000 + i) = D.2 1000 i) : CRok l D tys A ad GG 1 g603 := CR_of_vrf (dep := 0) hAD (fun c hc => by cases hc) T2OK_nil w603
def g604 : CR := (150, [(2, 8, 8), (2, 82, 82)], [], none, [], [82])
theorem w604 : vrf GG [] [] 300 0 g604
  [(2, [(0, 6)], [(0, rA 8), (1, rA 82), (2, iA (0, [(1, 0)]))], [], [], (400, [((-58), 0)]))] = true := by decide +kernel
theorem r604 {l : Launch} {D : va_G} {tys : List (ClassId × FieldType)} {A : Nat → Prop} {ad : Nat → Nat} (hAD : ∀ i : Nat, ad (1000 + i) = D.2 1000 i) : CRok l D tys A ad GG 1 g604 := CR_of_vrf (dep := 0) hAD (fun c hc => by cases hc) T2OK_nil w604
def g605 : CR := (150, [(2, 9, 9), (2, 83, 83)], [], none, [], [83])
theorem w605 : vrf GG [] [] 300 0 g605
  [(2, [(0, 6)], [(0, rA 9), (1, rA 83), (2, iA (0, [(1, 0)]))], [], [], (400, [((-58), 0)]))] = true := by decide +kernel
theorem r605 {l : Launch} {D : va_G} {tys : List (ClassId × FieldType)} {A : Nat → Prop} {ad : Nat → Nat} (hAD : ∀ i : Nat, ad (1000 + i) = D.2 1000 i) : CRok l D tys A ad GG 1 g605 := CR_of_vrf (dep := 0) hAD (fun c hc => by cases hc) T2OK_nil w605
def g606 : CR := (67, [(2, 0, 0), (0, 2, 2)], [], some (0, 0, 0), [], [0, 78, 79, 80, 81, 82, 83, 84, 85, 86, 87, 88, 89])
theorem w606 : vrf GG [(1, g595), (1, g596), (1, g597), (1, g598), (1, g599), (1, g600), (1, g601), (1, g602), (1, g603), (1, g604), (1, g605)] [] 300 2 g606
  [] = true := by decide +kernel
theorem r606 {l : Launch} {D : va_G} {tys : List (ClassId × FieldType)} {A : Nat → Prop} {ad : Nat → Nat} (hAD : ∀ i : Nat, ad (1000 + i) = D.2 1000 i) : CRok l D tys A ad GG 3 g606 := CR_of_vrf (dep := 2) hAD (List.forall_mem_cons.mpr ⟨r595 hAD, List.forall_mem_cons.mpr ⟨r596 hAD, List.forall_mem_cons.mpr ⟨r597 hAD, List.forall_mem_cons.mpr ⟨r598 hAD, List.forall_mem_cons.mpr ⟨r599 hAD, List.forall_mem_cons.mpr ⟨r600 hAD, List.forall_mem_cons.mpr ⟨r601 hAD, List.forall_mem_cons.mpr ⟨r602 hAD, List.forall_mem_cons.mpr ⟨r603 hAD, List.forall_mem_cons.mpr ⟨r604 hAD, List.forall_mem_cons.mpr ⟨r605 hAD, fun c hc => by cases hc⟩⟩⟩⟩⟩⟩⟩⟩⟩⟩⟩) T2OK_nil w606
def g607 : CR := (196, [(2, 90, 90), (0, (-2147483648), (-1))], [], some (0, (-2), (-2)), [], [])
theorem w607 : vrf GG [] [] 300 1 g607
  [] = true := by decide +kernel
theorem r607 {l : Launch} {D : va_G} {tys : List (ClassId × FieldType)} {A : Nat → Prop} {ad : Nat → Nat} (hAD : ∀ i : Nat, ad (1000 + i) = D.2 1000 i) : CRok l D tys A ad GG 2 g607 := CR_of_vrf (dep := 1) hAD (fun c hc => by cases hc) T2OK_nil w607
def g608 : CR := (196, [(2, 90, 90), (0, 3, 2147483647)], [], some (0, (-2), (-2)), [], [])
theorem w608 : vrf GG [] [] 300 1 g608
  [] = true := by decide +kernel
theorem r608 {l : Launch} {D : va_G} {tys : List (ClassId × FieldType)} {A : Nat → Prop} {ad : Nat → Nat} (hAD : ∀ i : Nat, ad (1000 + i) = D.2 1000 i) : CRok l D tys A ad GG 2 g608 := CR_of_vrf (dep := 1) hAD (fun c hc => by cases hc) T2OK_nil w608
def g609 : CR := (196, [(2, 90, 90), (0, 0, 0)], [], some (0, 0, 0), [], [92, 93])
theorem w609 : vrf GG [] [] 1097 1 g609
  [(17, [], [(0, rA 90), (1, iA (0, [])), (2, iA (0, []))], [], [], (294, [])),
  (17, [], [(0, rA 90), (1, iA (0, [])), (2, iA (1, []))], [], [], (293, [])),
  (17, [], [(0, rA 90), (1, iA (0, [])), (2, iA (2, []))], [], [], (292, [])),
  (17, [], [(0, rA 90), (1, iA (0, [])), (2, iA (3, []))], [], [], (291, [])),
  (17, [], [(0, rA 90), (1, iA (0, [])), (2, iA (4, []))], [], [], (290, [])),
  (17, [], [(0, rA 90), (1, iA (0, [])), (2, iA (5, []))], [], [], (289, [])),
  (17, [], [(0, rA 90), (1, iA (0, [])), (2, iA (6, []))], [], [], (288, [])),
  (17, [(7, 12)], [(0, rA 90), (1, iA (0, [])), (2, iA (0, [(1, 0)]))], [], [], (294, [((-1), 0)])),
  (17, [], [(0, rA 90), (1, iA (0, [])), (2, iA (13, []))], [], [], (281, [])),
  (17, [(14, 19)], [(0, rA 90), (1, iA (0, [])), (2, iA (0, [(1, 0)]))], [], [], (294, [((-1), 0)])),
  (17, [], [(0, rA 90), (1, iA (0, [])), (2, iA (20, []))], [], [], (274, [])),
  (17, [(21, 26)], [(0, rA 90), (1, iA (0, [])), (2, iA (0, [(1, 0)]))], [], [], (294, [((-1), 0)])),
  (17, [], [(0, rA 90), (1, iA (0, [])), (2, iA (27, []))], [], [], (267, [])),
  (17, [(28, 33)], [(0, rA 90), (1, iA (0, [])), (2, iA (0, [(1, 0)]))], [], [], (294, [((-1), 0)])),
  (17, [], [(0, rA 90), (1, iA (0, [])), (2, iA (34, []))], [], [], (260, [])),
  (17, [(35, 40)], [(0, rA 90), (1, iA (0, [])), (2, iA (0, [(1, 0)]))], [], [], (294, [((-1), 0)])),
  (17, [], [(0, rA 90), (1, iA (0, [])), (2, iA (41, []))], [], [], (253, [])),
  (17, [(42, 47)], [(0, rA 90), (1, iA (0, [])), (2, iA (0, [(1, 0)]))], [], [], (294, [((-1), 0)])),
  (17, [(48, 53)], [(0, rA 90), (1, iA (0, [])), (2, iA (0, [(1, 0)]))], [], [], (294, [((-1), 0)])),
  (17, [(54, 59)], [(0, rA 90), (1, iA (0, [])), (2, iA (0, [(1, 0)]))], [], [], (294, [((-1), 0)])),
  (17, [(60, 65)], [(0, rA 90), (1, iA (0, [])), (2, iA (0, [(1, 0)]))], [], [], (294, [((-1), 0)])),
  (17, [(66, 101)], [(0, rA 90), (1, iA (0, [])), (2, iA (0, [(1, 0)]))], [], [], (294, [((-1), 0)])),
  (17, [(102, 245)], [(0, rA 90), (1, iA (0, [])), (2, iA (0, [(1, 0)]))], [], [], (294, [((-1), 0)])),
  (17, [(246, 248)], [(0, rA 90), (1, iA (0, [])), (2, iA (0, [(1, 0)]))], [], [], (294, [((-1), 0)])),
  (17, [], [(0, rA 90), (1, iA (0, [])), (2, iA (249, []))], [], [], (45, [])),
  (17, [(250, 252)], [(0, rA 90), (1, iA (0, [])), (2, iA (0, [(1, 0)]))], [], [], (294, [((-1), 0)])),
  (17, [], [(0, rA 90), (1, iA (0, [])), (2, iA (253, []))], [], [], (41, [])),
  (17, [(254, 256)], [(0, rA 90), (1, iA (0, [])), (2, iA (0, [(1, 0)]))], [], [], (294, [((-1), 0)])),
  (17, [], [(0, rA 90), (1, iA (0, [])), (2, iA (257, []))], [], [], (37, [])),
  (17, [(258, 260)], [(0, rA 90), (1, iA (0, [])), (2, iA (0, [(1, 0)]))], [], [], (294, [((-1), 0)])),
  (17, [], [(0, rA 90), (1, iA (0, [])), (2, iA (261, []))], [], [], (33, [])),
  (17, [(262, 264)], [(0, rA 90), (1, iA (0, [])), (2, iA (0, [(1, 0)]))], [], [], (294, [((-1), 0)])),
  (17, [], [(0, rA 90), (1, iA (0, [])), (2, iA (265, []))], [], [], (29, [])),
  (17, [(266, 268)], [(0, rA 90), (1, iA (0, [])), (2, iA (0, [(1, 0)]))], [], [], (294, [((-1), 0)])),
  (17, [], [(0, rA 90), (1, iA (0, [])), (2, iA (269, []))], [], [], (25, [])),
  (17, [(270, 272)], [(0, rA 90), (1, iA (0, [])), (2, iA (0, [(1, 0)]))], [], [], (294, [((-1), 0)])),
  (17, [], [(0, rA 90), (1, iA (0, [])), (2, iA (273, []))], [], [], (21, [])),
  (17, [(274, 276)], [(0, rA 90), (1, iA (0, [])), (2, iA (0, [(1, 0)]))], [], [], (294, [((-1), 0)])),
  (17, [], [(0, rA 90), (1, iA (0, [])), (2, iA (277, []))], [], [], (17, [])),
  (17, [(278, 280)], [(0, rA 90), (1, iA (0, [])), (2, iA (0, [(1, 0)]))], [], [], (294, [((-1), 0)])),
  (17, [], [(0, rA 90), (1, iA (0, [])), (2, iA (281, []))], [], [], (13, [])),
  (17, [(282, 284)], [(0, rA 90), (1, iA (0, [])), (2, iA (0, [(1, 0)]))], [], [], (294, [((-1), 0)])),
  (17, [], [(0, rA 90), (1, iA (0, [])), (2, iA (285, []))], [], [], (9, [])),
  (17, [(286, 288)], [(0, rA 90), (1, iA (0, [])), (2, iA (0, [(1, 0)]))], [], [], (294, [((-1), 0)])),
  (17, [], [(0, rA 90), (1, iA (0, [])), (2, iA (289, []))], [], [], (5, [])),
  (17, [(290, 292)], [(0, rA 90), (1, iA (0, [])), (2, iA (0, [(1, 0)]))], [], [], (294, [((-1), 0)])),
  (17, [], [(0, rA 90), (1, iA (0, [])), (2, iA (293, []))], [], [], (1, [])),
  (17, [], [(0, rA 90), (1, iA (0, [])), (2, iA (294, []))], [], [], (0, []))] = true := by decide +kernel
theorem r609 {l : Launch} {D : va_G} {tys : List (ClassId × FieldType)} {A : Nat → Prop} {ad : Nat → Nat} (hAD : ∀ i : Nat, ad (1000 + i) = D.2 1000 i) : CRok l D tys A ad GG 2 g609 := CR_of_vrf (dep := 1) hAD (fun c hc => by cases hc) T2OK_nil w609
def g610 : CR := (196, [(2, 90, 90), (0, 1, 1)], [], some (0, 0, 0), [], [92, 93])
theorem w610 : vrf GG [] [] 1097 1 g610
  [(17, [], [(0, rA 90), (1, iA (1, [])), (2, iA (0, []))], [], [], (294, [])),
  (17, [], [(0, rA 90), (1, iA (1, [])), (2, iA (1, []))], [], [], (293, [])),
  (17, [], [(0, rA 90), (1, iA (1, [])), (2, iA (2, []))], [], [], (292, [])),
  (17, [], [(0, rA 90), (1, iA (1, [])), (2, iA (3, []))], [], [], (291, [])),
  (17, [], [(0, rA 90), (1, iA (1, [])), (2, iA (4, []))], [], [], (290, [])),
  (17, [], [(0, rA 90), (1, iA (1, [])), (2, iA (5, []))], [], [], (289, [])),
  (17, [], [(0, rA 90), (1, iA (1, [])), (2, iA (6, []))], [], [], (288, [])),
  (17, [(7, 12)], [(0, rA 90), (1, iA (1, [])), (2, iA (0, [(1, 0)]))], [], [], (294, [((-1), 0)])),
  (17, [], [(0, rA 90), (1, iA (1, [])), (2, iA (13, []))], [], [], (281, [])),
  (17, [(14, 19)], [(0, rA 90), (1, iA (1, [])), (2, iA (0, [(1, 0)]))], [], [], (294, [((-1), 0)])),
  (17, [], [(0, rA 90), (1, iA (1, [])), (2, iA (20, []))], [], [], (274, [])),
  (17, [(21, 26)], [(0, rA 90), (1, iA (1, [])), (2, iA (0, [(1, 0)]))], [], [], (294, [((-1), 0)])),
  (17, [], [(0, rA 90), (1, iA (1, [])), (2, iA (27, []))], [], [], (267, [])),
  (17, [(28, 33)], [(0, rA 90), (1, iA (1, [])), (2, iA (0, [(1, 0)]))], [], [], (294, [((-1), 0)])),
  (17, [], [(0, rA 90), (1, iA (1, [])), (2, iA (34, []))], [], [], (260, [])),
  (17, [(35, 40)], [(0, rA 90), (1, iA (1, [])), (2, iA (0, [(1, 0)]))], [], [], (294, [((-1), 0)])),
  (17, [], [(0, rA 90), (1, iA (1, [])), (2, iA (41, []))], [], [], (253, [])),
  (17, [(42, 47)], [(0, rA 90), (1, iA (1, [])), (2, iA (0, [(1, 0)]))], [], [], (294, [((-1), 0)])),
  (17, [(48, 53)], [(0, rA 90), (1, iA (1, [])), (2, iA (0, [(1, 0)]))], [], [], (294, [((-1), 0)])),
  (17, [(54, 59)], [(0, rA 90), (1, iA (1, [])), (2, iA (0, [(1, 0)]))], [], [], (294, [((-1), 0)])),
  (17, [(60, 65)], [(0, rA 90), (1, iA (1, [])), (2, iA (0, [(1, 0)]))], [], [], (294, [((-1), 0)])),
  (17, [(66, 101)], [(0, rA 90), (1, iA (1, [])), (2, iA (0, [(1, 0)]))], [], [], (294, [((-1), 0)])),
  (17, [(102, 245)], [(0, rA 90), (1, iA (1, [])), (2, iA (0, [(1, 0)]))], [], [], (294, [((-1), 0)])),
  (17, [(246, 248)], [(0, rA 90), (1, iA (1, [])), (2, iA (0, [(1, 0)]))], [], [], (294, [((-1), 0)])),
  (17, [], [(0, rA 90), (1, iA (1, [])), (2, iA (249, []))], [], [], (45, [])),
  (17, [(250, 252)], [(0, rA 90), (1, iA (1, [])), (2, iA (0, [(1, 0)]))], [], [], (294, [((-1), 0)])),
  (17, [], [(0, rA 90), (1, iA (1, [])), (2, iA (253, []))], [], [], (41, [])),
  (17, [(254, 256)], [(0, rA 90), (1, iA (1, [])), (2, iA (0, [(1, 0)]))], [], [], (294, [((-1), 0)])),
  (17, [], [(0, rA 90), (1, iA (1, [])), (2, iA (257, []))], [], [], (37, [])),
  (17, [(258, 260)], [(0, rA 90), (1, iA (1, [])), (2, iA (0, [(1, 0)]))], [], [], (294, [((-1), 0)])),
  (17, [], [(0, rA 90), (1, iA (1, [])), (2, iA (261, []))], [], [], (33, [])),
  (17, [(262, 264)], [(0, rA 90), (1, iA (1, [])), (2, iA (0, [(1, 0)]))], [], [], (294, [((-1), 0)])),
  (17, [], [(0, rA 90), (1, iA (1, [])), (2, iA (265, []))], [], [], (29, [])),
  (17, [(266, 268)], [(0, rA 90), (1, iA (1, [])), (2, iA (0, [(1, 0)]))], [], [], (294, [((-1), 0)])),
  (17, [], [(0, rA 90), (1, iA (1, [])), (2, iA (269, []))], [], [], (25, [])),
  (17, [(270, 272)], [(0, rA 90), (1, iA (1, [])), (2, iA (0, [(1, 0)]))], [], [], (294, [((-1), 0)])),
  (17, [], [(0, rA 90), (1, iA (1, [])), (2, iA (273, []))], [], [], (21, [])),
  (17, [(274, 276)], [(0, rA 90), (1, iA (1, [])), (2, iA (0, [(1, 0)]))], [], [], (294, [((-1), 0)])),
  (17, [], [(0, rA 90), (1, iA (1, [])), (2, iA (277, []))], [], [], (17, [])),
  (17, [(278, 280)], [(0, rA 90), (1, iA (1, [])), (2, iA (0, [(1, 0)]))], [], [], (294, [((-1), 0)])),
  (17, [], [(0, rA 90), (1, iA (1, [])), (2, iA (281, []))], [], [], (13, [])),
  (17, [(282, 284)], [(0, rA 90), (1, iA (1, [])), (2, iA (0, [(1, 0)]))], [], [], (294, [((-1), 0)])),
  (17, [], [(0, rA 90), (1, iA (1, [])), (2, iA (285, []))], [], [], (9, [])),
  (17, [(286, 288)], [(0, rA 90), (1, iA (1, [])), (2, iA (0, [(1, 0)]))], [], [], (294, [((-1), 0)])),
  (17, [], [(0, rA 90), (1, iA (1, [])), (2, iA (289, []))], [], [], (5, [])),
  (17, [(290, 292)], [(0, rA 90), (1, iA (1, [])), (2, iA (0, [(1, 0)]))], [], [], (294, [((-1), 0)])),
  (17, [], [(0, rA 90), (1, iA (1, [])), (2, iA (293, []))], [], [], (1, [])),
  (17, [], [(0, rA 90), (1, iA (1, [])), (2, iA (294, []))], [], [], (0, []))] = true := by decide +kernel
theorem r610 {l : Launch} {D : va_G} {tys : List (ClassId × FieldType)} {A : Nat → Prop} {ad : Nat → Nat} (hAD : ∀ i : Nat, ad (1000 + i) = D.2 1000 i) : CRok l D tys A ad GG 2 g610 := CR_of_vrf (dep := 1) hAD (fun c hc => by cases hc) T2OK_nil w610
def g611 : CR := (196, [(2, 90, 90), (0, 2, 2)], [], some (0, 0, 0), [], [92, 93])
theorem w611 : vrf GG [] [] 1097 1 g611
  [(17, [], [(0, rA 90), (1, iA (2, [])), (2, iA (0, []))], [], [], (294, [])),
  (17, [], [(0, rA 90), (1, iA (2, [])), (2, iA (1, []))], [], [], (293, [])),
  (17, [], [(0, rA 90), (1, iA (2, [])), (2, iA (2, []))], [], [], (292, [])),
  (17, [], [(0, rA 90), (1, iA (2, [])), (2, iA (3, []))], [], [], (291, [])),
  (17, [], [(0, rA 90), (1, iA (2, [])), (2, iA (4, []))], [], [], (290, [])),
  (17, [], [(0, rA 90), (1, iA (2, [])), (2, iA (5, []))], [], [], (289, [])),
  (17, [], [(0, rA 90), (1, iA (2, [])), (2, iA (6, []))], [], [], (288, [])),
  (17, [(7, 12)], [(0, rA 90), (1, iA (2, [])), (2, iA (0, [(1, 0)]))], [], [], (294, [((-1), 0)])),
  (17, [], [(0, rA 90), (1, iA (2, [])), (2, iA (13, []))], [], [], (281, [])),
  (17, [(14, 19)], [(0, rA 90), (1, iA (2, [])), (2, iA (0, [(1, 0)]))], [], [], (294, [((-1), 0)])),
  (17, [], [(0, rA 90), (1, iA (2, [])), (2, iA (20, []))], [], [], (274, [])),
  (17, [(21, 26)], [(0, rA 90), (1, iA (2, [])), (2, iA (0, [(1, 0)]))], [], [], (294, [((-1), 0)])),
  (17, [], [(0, rA 90), (1, iA (2, [])), (2, iA (27, []))], [], [], (267, [])),
  (17, [(28, 33)], [(0, rA 90), (1, iA (2, [])), (2, iA (0, [(1, 0)]))], [], [], (294, [((-1), 0)])),
  (17, [], [(0, rA 90), (1, iA (2, [])), (2, iA (34, []))], [], [], (260, [])),
  (17, [(35, 40)], [(0, rA 90), (1, iA (2, [])), (2, iA (0, [(1, 0)]))], [], [], (294, [((-1), 0)])),
  (17, [], [(0, rA 90), (1, iA (2, [])), (2, iA (41, []))], [], [], (253, [])),
  (17, [(42, 47)], [(0, rA 90), (1, iA (2, [])), (2, iA (0, [(1, 0)]))], [], [], (294, [((-1), 0)])),
  (17, [(48, 53)], [(0, rA 90), (1, iA (2, [])), (2, iA (0, [(1, 0)]))], [], [], (294, [((-1), 0)])),
  (17, [(54, 59)], [(0, rA 90), (1, iA (2, [])), (2, iA (0, [(1, 0)]))], [], [], (294, [((-1), 0)])),
  (17, [(60, 65)], [(0, rA 90), (1, iA (2, [])), (2, iA (0, [(1, 0)]))], [], [], (294, [((-1), 0)])),
  (17, [(66, 101)], [(0, rA 90), (1, iA (2, [])), (2, iA (0, [(1, 0)]))], [], [], (294, [((-1), 0)])),
  (17, [(102, 245)], [(0, rA 90), (1, iA (2, [])), (2, iA (0, [(1, 0)]))], [], [], (294, [((-1), 0)])),
  (17, [(246, 248)], [(0, rA 90), (1, iA (2, [])), (2, iA (0, [(1, 0)]))], [], [], (294, [((-1), 0)])),
  (17, [], [(0, rA 90), (1, iA (2, [])), (2, iA (249, []))], [], [], (45, [])),
  (17, [(250, 252)], [(0, rA 90), (1, iA (2, [])), (2, iA (0, [(1, 0)]))], [], [], (294, [((-1), 0)])),
  (17, [], [(0, rA 90), (1, iA (2, [])), (2, iA (253, []))], [], [], (41, [])),
  (17, [(254, 256)], [(0, rA 90), (1, iA (2, [])), (2, iA (0, [(1, 0)]))], [], [], (294, [((-1), 0)])),
  (17, [], [(0, rA 90), (1, iA (2, [])), (2, iA (257, []))], [], [], (37, [])),
  (17, [(258, 260)], [(0, rA 90), (1, iA (2, [])), (2, iA (0, [(1, 0)]))], [], [], (294, [((-1), 0)])),
  (17, [], [(0, rA 90), (1, iA (2, [])), (2, iA (261, []))], [], [], (33, [])),
  (17, [(262, 264)], [(0, rA 90), (1, iA (2, [])), (2, iA (0, [(1, 0)]))], [], [], (294, [((-1), 0)])),
  (17, [], [(0, rA 90), (1, iA (2, [])), (2, iA (265, []))], [], [], (29, [])),
  (17, [(266, 268)], [(0, rA 90), (1, iA (2, [])), (2, iA (0, [(1, 0)]))], [], [], (294, [((-1), 0)])),
  (17, [], [(0, rA 90), (1, iA (2, [])), (2, iA (269, []))], [], [], (25, [])),
  (17, [(270, 272)], [(0, rA 90), (1, iA (2, [])), (2, iA (0, [(1, 0)]))], [], [], (294, [((-1), 0)])),
  (17, [], [(0, rA 90), (1, iA (2, [])), (2, iA (273, []))], [], [], (21, [])),
  (17, [(274, 276)], [(0, rA 90), (1, iA (2, [])), (2, iA (0, [(1, 0)]))], [], [], (294, [((-1), 0)])),
  (17, [], [(0, rA 90), (1, iA (2, [])), (2, iA (277, []))], [], [], (17, [])),
  (17, [(278, 280)], [(0, rA 90), (1, iA (2, [])), (2, iA (0, [(1, 0)]))], [], [], (294, [((-1), 0)])),
  (17, [], [(0, rA 90), (1, iA (2, [])), (2, iA (281, []))], [], [], (13, [])),
  (17, [(282, 284)], [(0, rA 90), (1, iA (2, [])), (2, iA (0, [(1, 0)]))], [], [], (294, [((-1), 0)])),
  (17, [], [(0, rA 90), (1, iA (2, [])), (2, iA (285, []))], [], [], (9, [])),
  (17, [(286, 288)], [(0, rA 90), (1, iA (2, [])), (2, iA (0, [(1, 0)]))], [], [], (294, [((-1), 0)])),
  (17, [], [(0, rA 90), (1, iA (2, [])), (2, iA (289, []))], [], [], (5, [])),
  (17, [(290, 292)], [(0, rA 90), (1, iA (2, [])), (2, iA (0, [(1, 0)]))], [], [], (294, [((-1), 0)])),
  (17, [], [(0, rA 90), (1, iA (2, [])), (2, iA (293, []))], [], [], (1, [])),
  (17, [], [(0, rA 90), (1, iA (2, [])), (2, iA (294, []))], [], [], (0, []))] = true := by decide +kernel
theorem r611 {l : Launch} {D : va_G} {tys : List (ClassId × FieldType)} {A : Nat → Prop} {ad : Nat → Nat} (hAD : ∀ i : Nat, ad (1000 + i) = D.2 1000 i) : CRok l D tys A ad GG 2 g611 := CR_of_vrf (dep := 1) hAD (fun c hc => by cases hc) T2OK_nil w611
def g612 : CR := (68, [(2, 0, 0), (0, (-2147483648), (-1))], [], some (0, (-2), (-2)), [], [])
theorem w612 : vrf GG [] [] 300 1 g612
  [] = true := by decide +kernel
theorem r612 {l : Launch} {D : va_G} {tys : List (ClassId × FieldType)} {A : Nat → Prop} {ad : Nat → Nat} (hAD : ∀ i : Nat, ad (1000 + i) = D.2 1000 i) : CRok l D tys A ad GG 2 g612 := CR_of_vrf (dep := 1) hAD (fun c hc => by cases hc) T2OK_nil w612
def g613 : CR := (68, [(2, 0, 0), (0, 3, 2147483647)], [], some (0, (-2), (-2)), [], [])
theorem w613 : vrf GG [] [] 300 1 g613
  [] = true := by decide +kernel
theorem r613 {l : Launch} {D : va_G} {tys : List (ClassId × FieldType)} {A : Nat → Prop} {ad : Nat → Nat} (hAD : ∀ i : Nat, ad (1000 + i) = D.2 1000 i) : CRok l D tys A ad GG 2 g613 := CR_of_vrf (dep := 1) hAD (fun c hc => by cases hc) T2OK_nil w613
def g614 : CR := (150, [(2, 55, 55), (2, 5, 5)], [], none, [], [5])
theorem w614 : vrf GG [] [] 300 0 g614
  [(2, [(0, 6)], [(0, rA 55), (1, rA 5), (2, iA (0, [(1, 0)]))], [], [], (400, [((-58), 0)]))] = true := by decide +kernel
theorem r614 {l : Launch} {D : va_G} {tys : List (ClassId × FieldType)} {A : Nat → Prop} {ad : Nat → Nat} (hAD : ∀ i : Nat, ad (1000 + i) = D.2 1000 i) : CRok l D tys A ad GG 1 g614 := CR_of_vrf (dep := 0) hAD (fun c hc => by cases hc) T2OK_nil w614
def g615 : CR := (150, [(2, 56, 56), (2, 6, 6)], [], none, [], [6])
theorem w615 : vrf GG [] [] 300 0 g615
  [(2, [(0, 36)], [(0, rA 56), (1, rA 6), (2, iA (0, [(1, 0)]))], [], [], (2140, [((-58), 0)]))] = true := by decide +kernel
theorem r615 {l : Launch} {D : va_G} {tys : List (ClassId × FieldType)} {A : Nat → Prop} {ad : Nat → Nat} (hAD : ∀ i : Nat, ad (1000 + i) = D.2 1000 i) : CRok l D tys A ad GG 1 g615 := CR_of_vrf (dep := 0) hAD (fun c hc => by cases hc) T2OK_nil w615
def g616 : CR := (150, [(2, 57, 57), (2, 7, 7)], [], none, [], [7])
theorem w616 : vrf GG [] [] 300 0 g616
  [(2, [(0, 6)], [(0, rA 57), (1, rA 7), (2, iA (0, [(1, 0)]))], [], [], (400, [((-58), 0)]))] = true := by decide +kernel
theorem r616 {l : Launch} {D : va_G} {tys : List (ClassId × FieldType)} {A : Nat → Prop} {ad : Nat → Nat} (hAD : ∀ i : Nat, ad (1000 + i) = D.2 1000 i) : CRok l D tys A ad GG 1 g616 := CR_of_vrf (dep := 0) hAD (fun c hc => by cases hc) T2OK_nil w616
def g617 : CR := (150, [(2, 58, 58), (2, 8, 8)], [], none, [], [8])
theorem w617 : vrf GG [] [] 300 0 g617
  [(2, [(0, 6)], [(0, rA 58), (1, rA 8), (2, iA (0, [(1, 0)]))], [], [], (400, [((-58), 0)]))] = true := by decide +kernel
theorem r617 {l : Launch} {D : va_G} {tys : List (ClassId × FieldType)} {A : Nat → Prop} {ad : Nat → Nat} (hAD : ∀ i : Nat, ad (1000 + i) = D.2 1000 i) : CRok l D tys A ad GG 1 g617 := CR_of_vrf (dep := 0) hAD (fun c hc => by cases hc) T2OK_nil w617
def g618 : CR := (150, [(2, 59, 59), (2, 9, 9)], [], none, [], [9])
theorem w618 : vrf GG [] [] 300 0 g618
  [(2, [(0, 6)], [(0, rA 59), (1, rA 9), (2, iA (0, [(1, 0)]))], [], [], (400, [((-58), 0)]))] = true := by decide +kernel
theorem r618 {l : Launch} {D : va_G} {tys : List (ClassId × FieldType)} {A : Nat → Prop} {ad : Nat → Nat} (hAD : ∀ i : Nat, ad (1000 + i) = D.2 1000 i) : CRok l D tys A ad GG 1 g618 := CR_of_vrf (dep := 0) hAD (fun c hc => by cases hc) T2OK_nil w618
def g619 : CR := (150, [(2, 60, 60), (2, 10, 10)], [], none, [], [10])
theorem w619 : vrf GG [] [] 300 0 g619
  [(2, [(0, 144)], [(0, rA 60), (1, rA 10), (2, iA (0, [(1, 0)]))], [], [], (8404, [((-58), 0)]))] = true := by decide +kernel
theorem r619 {l : Launch} {D : va_G} {tys : List (ClassId × FieldType)} {A : Nat → Prop} {ad : Nat → Nat} (hAD : ∀ i : Nat, ad (1000 + i) = D.2 1000 i) : CRok l D tys A ad GG 1 g619 := CR_of_vrf (dep := 0) hAD (fun c hc => by cases hc) T2OK_nil w619
def g620 : CR := (150, [(2, 61, 61), (2, 11, 11)], [], none, [], [11])
theorem w620 : vrf GG [] [] 300 0 g620
  [(2, [(0, 36)], [(0, rA 61), (1, rA 11), (2, iA (0, [(1, 0)]))], [], [], (2140, [((-58), 0)]))] = true := by decide +kernel
theorem r620 {l : Launch} {D : va_G} {tys : List (ClassId × FieldType)} {A : Nat → Prop} {ad : Nat → Nat} (hAD : ∀ i : Nat, ad (1000 + i) = D.2 1000 i) : CRok l D tys A ad GG 1 g620 := CR_of_vrf (dep := 0) hAD (fun c hc => by cases hc) T2OK_nil w620
def g621 : CR := (150, [(2, 62, 62), (2, 12, 12)], [], none, [], [12])
theorem w621 : vrf GG [] [] 300 0 g621
  [(2, [(0, 12)], [(0, rA 62), (1, rA 12), (2, iA (0, [(1, 0)]))], [], [], (748, [((-58), 0)]))] = true := by decide +kernel
theorem r621 {l : Launch} {D : va_G} {tys : List (ClassId × FieldType)} {A : Nat → Prop} {ad : Nat → Nat} (hAD : ∀ i : Nat, ad (1000 + i) = D.2 1000 i) : CRok l D tys A ad GG 1 g621 := CR_of_vrf (dep := 0) hAD (fun c hc => by cases hc) T2OK_nil w621
def g622 : CR := (150, [(2, 63, 63), (2, 13, 13)], [], none, [], [13])
theorem w622 : vrf GG [] [] 300 0 g622
  [(2, [(0, 12)], [(0, rA 63), (1, rA 13), (2, iA (0, [(1, 0)]))], [], [], (748, [((-58), 0)]))] = true := by decide +kernel
theorem r622 {l : Launch} {D : va_G} {tys : List (ClassId × FieldType)} {A : Nat → Prop} {ad : Nat → Nat} (hAD : ∀ i : Nat, ad (1000 + i) = D.2 1000 i) : CRok l D tys A ad GG 1 g622 := CR_of_vrf (dep := 0) hAD (fun c hc => by cases hc) T2OK_nil w622
def g623 : CR := (150, [(2, 64, 64), (2, 14, 14)], [], none, [], [14])
theorem w623 : vrf GG [] [] 300 0 g623
  [(2, [(0, 12)], [(0, rA 64), (1, rA 14), (2, iA (0, [(1, 0)]))], [], [], (748, [((-58), 0)]))] = true := by decide +kernel
theorem r623 {l : Launch} {D : va_G} {tys : List (ClassId × FieldType)} {A : Nat → Prop} {ad : Nat → Nat} (hAD : ∀ i : Nat, ad (1000 + i) = D.2 1000 i) : CRok l D tys A ad GG 1 g623 := CR_of_vrf (dep := 0) hAD (fun c hc => by cases hc) T2OK_nil w623
def g624 : CR := (150, [(2, 65, 65), (2, 15, 15)], [], none, [], [15])
theorem w624 : vrf GG [] [] 300 0 g624
  [(2, [(0, 12)], [(0, rA 65), (1, rA 15), (2, iA (0, [(1, 0)]))], [], [], (748, [((-58), 0)]))] = true := by decide +kernel
theorem r624 {l : Launch} {D : va_G} {tys : List (ClassId × FieldType)} {A : Nat → Prop} {ad : Nat → Nat} (hAD : ∀ i : Nat, ad (1000 + i) = D.2 1000 i) : CRok l D tys A ad GG 1 g624 := CR_of_vrf (dep := 0) hAD (fun c hc => by cases hc) T2OK_nil w624
def g625 : CR := (68, [(2, 0, 0), (0, 0, 0)], [], some (0, (-2147483648), 2147483647), [], [4, 5, 6, 7, 8, 9, 10, 11, 12, 13, 14, 15, 29, 30, 31, 32, 33, 34, 35])
theorem w625 : vrf GG [(4, g78), (1, g614), (1, g615), (1, g616), (1, g617), (1, g618), (1, g619), (1, g620), (1, g621), (1, g622), (1, g623), (1, g624), (5, g76)] [] 300 6 g625
  [] = true := by decide +kernel
theorem r625 {l : Launch} {D : va_G} {tys : List (ClassId × FieldType)} {A : Nat → Prop} {ad : Nat → Nat} (hAD : ∀ i : Nat, ad (1000 + i) = D.2 1000 i) : CRok l D tys A ad GG 7 g625 := CR_of_vrf (dep := 6) hAD (List.forall_mem_cons.mpr ⟨r78 hAD, List.forall_mem_cons.mpr ⟨r614 hAD, List.forall_mem_cons.mpr ⟨r615 hAD, List.forall_mem_cons.mpr ⟨r616 hAD, List.forall_mem_cons.mpr ⟨r617 hAD, List.forall_mem_cons.mpr ⟨r618 hAD, List.forall_mem_cons.mpr ⟨r619 hAD, List.forall_mem_cons.mpr ⟨r620 hAD, List.forall_mem_cons.mpr ⟨r621 hAD, List.forall_mem_cons.mpr ⟨r622 hAD, List.forall_mem_cons.mpr ⟨r623 hAD, List.forall_mem_cons.mpr ⟨r624 hAD, List.forall_mem_cons.mpr ⟨r76 hAD, fun c hc => by cases hc⟩⟩⟩⟩⟩⟩⟩⟩⟩⟩⟩⟩⟩) T2OK_nil w625
def g626 : CR := (150, [(2, 67, 67), (2, 5, 5)], [], none, [], [5])
theorem w626 : vrf GG [] [] 300 0 g626
  [(2, [(0, 6)], [(0, rA 67), (1, rA 5), (2, iA (0, [(1, 0)]))], [], [], (400, [((-58), 0)]))] = true := by decide +kernel
theorem r626 {l : Launch} {D : va_G} {tys : List (ClassId × FieldType)} {A : Nat → Prop} {ad : Nat → Nat} (hAD : ∀ i : Nat, ad (1000 + i) = D.2 1000 i) : CRok l D tys A ad GG 1 g626 := CR_of_vrf (dep := 0) hAD (fun c hc => by cases hc) T2OK_nil w626
def g627 : CR := (150, [(2, 68, 68), (2, 6, 6)], [], none, [], [6])
theorem w627 : vrf GG [] [] 300 0 g627
  [(2, [(0, 36)], [(0, rA 68), (1, rA 6), (2, iA (0, [(1, 0)]))], [], [], (2140, [((-58), 0)]))] = true := by decide +kernel
theorem r627 {l : Launch} {D : va_G} {tys : List (ClassId × FieldType)} {A : Nat → Prop} {ad : Nat → Nat} (hAD : ∀ i : Nat, ad (1000 + i) = D.2 1000 i) : CRok l D tys A ad GG 1 g627 := CR_of_vrf (dep := 0) hAD (fun c hc => by cases hc) T2OK_nil w627
def g628 : CR := (150, [(2, 69, 69), (2, 7, 7)], [], none, [], [7])
theorem w628 : vrf GG [] [] 300 0 g628
  [(2, [(0, 6)], [(0, rA 69), (1, rA 7), (2, iA (0, [(1, 0)]))], [], [], (400, [((-58), 0)]))] = true := by decide +kernel
theorem r628 {l : Launch} {D : va_G} {tys : List (ClassId × FieldType)} {A : Nat → Prop} {ad : Nat → Nat} (hAD : ∀ i : Nat, ad (1000 + i) = D.2 1000 i) : CRok l D tys A ad GG 1 g628 := CR_of_vrf (dep := 0) hAD (fun c hc => by cases hc) T2OK_nil w628
def g629 : CR := (150, [(2, 70, 70), (2, 8, 8)], [], none, [], [8])
theorem w629 : vrf GG [] [] 300 0 g629
  [(2, [(0, 6)], [(0, rA 70), (1, rA 8), (2, iA (0, [(1, 0)]))], [], [], (400, [((-58), 0)]))] = true := by decide +kernel
theorem r629 {l : Launch} {D : va_G} {tys : List (ClassId × FieldType)} {A : Nat → Prop} {ad : Nat → Nat} (hAD : ∀ i : Nat, ad (1000 + i) = D.2 1000 i) : CRok l D tys A ad GG 1 g629 := CR_of_vrf (dep := 0) hAD (fun c hc => by cases hc) T2OK_nil w629
def g630 : CR := (150, [(2, 71, 71), (2, 9, 9)], [], none, [], [9])
theorem w630 : vrf GG [] [] 300 0 g630
  [(2, [(0, 6)], [(0, rA 71), (1, rA 9), (2, iA (0, [(1, 0)]))], [], [], (400, [((-58), 0)]))] = true := by decide +kernel
theorem r630 {l : Launch} {D : va_G} {tys : List (ClassId × FieldType)} {A : Nat → Prop} {ad : Nat → Nat} (hAD : ∀ i : Nat, ad (1000 + i) = D.2 1000 i) : CRok l D tys A ad GG 1 g630 := CR_of_vrf (dep := 0) hAD (fun c hc => by cases hc) T2OK_nil w630
def g631 : CR := (150, [(2, 72, 72), (2, 10, 10)], [], none, [], [10])
theorem w631 : vrf GG [] [] 300 0 g631
  [(2, [(0, 144)], [(0, rA 72), (1, rA 10), (2, iA (0, [(1, 0)]))], [], [], (8404, [((-58), 0)]))] = true := by decide +kernel
theorem r631 {l : Launch} {D : va_G} {tys : List (ClassId × FieldType)} {A : Nat → Prop} {ad : Nat → Nat} (hAD : ∀ i : Nat, ad (1000 + i) = D.2 1000 i) : CRok l D tys A ad GG 1 g631 := CR_of_vrf (dep := 0) hAD (fun c hc => by cases hc) T2OK_nil w631
def g632 : CR := (150, [(2, 73, 73), (2, 11, 11)], [], none, [], [11])
theorem w632 : vrf GG [] [] 300 0 g632
  [(2, [(0, 36)], [(0, rA 73), (1, rA 11), (2, iA (0, [(1, 0)]))], [], [], (2140, [((-58), 0)]))] = true := by decide +kernel
theorem r632 {l : Launch} {D : va_G} {tys : List (ClassId × FieldType)} {A : Nat → Prop} {ad : Nat → Nat} (hAD : ∀ i : Nat, ad (1000 + i) = D.2 1000 i) : CRok l D tys A ad GG 1 g632 := CR_of_vrf (dep := 0) hAD (fun c hc => by cases hc) T2OK_nil w632
def g633 : CR := (150, [(2, 74, 74), (2, 12, 12)], [], none, [], [12])
theorem w633 : vrf GG [] [] 300 0 g633
  [(2, [(0, 12)], [(0, rA 74), (1, rA 12), (2, iA (0, [(1, 0)]))], [], [], (748, [((-58), 0)]))] = true := by decide +kernel
theorem r633 {l : Launch} {D : va_G} {tys : List (ClassId × FieldType)} {A : Nat → Prop} {ad : Nat → Nat} (hAD : ∀ i : Nat, ad (1000 + i) = D.2 1000 i) : CRok l D tys A ad GG 1 g633 := CR_of_vrf (dep := 0) hAD (fun c hc => by cases hc) T2OK_nil w633
def g634 : CR := (150, [(2, 75, 75), (2, 13, 13)], [], none, [], [13])
theorem w634 : vrf GG [] [] 300 0 g634
  [(2, [(0, 12)], [(0, rA 75), (1, rA 13), (2, iA (0, [(1, 0)]))], [], [], (748, [((-58), 0)]))] = true := by decide +kernel
theorem r634 {l : Launch} {D : va_G} {tys : List (ClassId × FieldType)} {A : Nat → Prop} {ad : Nat → Nat} (hAD : ∀ i : Nat, ad (1000 + i) = D.2 1000 i) : CRok l D tys A ad GG 1 g634 := CR_of_vrf (dep := 0) hAD (fun c hc => by cases hc) T2OK_nil w634
def g635 : CR := (150, [(2, 76, 76), (2, 14, 14)], [], none, [], [14])
theorem w635 : vrf GG [] [] 300 0 g635
  [(2, [(0, 12)], [(0, rA 76), (1, rA 14), (2, iA (0, [(1, 0)]))], [], [], (748, [((-58), 0)]))] = true := by decide +kernel
theorem r635 {l : Launch} {D : va_G} {tys : List (ClassId × FieldType)} {A : Nat → Prop} {ad : Nat → Nat} (hAD : ∀ i : Nat, ad (1000 + i) = D.2 1000 i) : CRok l D tys A ad GG 1 g635 := CR_of_vrf (dep := 0) hAD (fun c hc => by cases hc) T2OK_nil w635
def g636 : CR := (150, [(2, 77, 77), (2, 15, 15)], [], none, [], [15])
theorem w636 : vrf GG [] [] 300 0 g636
  [(2, [(0, 12)], [(0, rA 77), (1, rA 15), (2, iA (0, [(1, 0)]))], [], [], (748, [((-58), 0)]))] = true := by decide +kernel
theorem r636 {l : Launch} {D : va_G} {tys : List (ClassId × FieldType)} {A : Nat → Prop} {ad : Nat → Nat} (hAD : ∀ i : Nat, ad (1000 + i) = D.2 1000 i) : CRok l D tys A ad GG 1 g636 := CR_of_vrf (dep := 0) hAD (fun c hc => by cases hc) T2OK_nil w636
def g637 : CR := (68, [(2, 0, 0), (0, 1, 1)], [], some (0, (-2147483648), 2147483647), [], [4, 5, 6, 7, 8, 9, 10, 11, 12, 13, 14, 15, 29, 30, 31, 32, 33, 34, 35])
theorem w637 : vrf GG [(4, g78), (1, g626), (1, g627), (1, g628), (1, g629), (1, g630), (1, g631), (1, g632), (1, g633), (1, g634), (1, g635), (1, g636), (5, g76)] [] 300 6 g637
  [] = true := by decide +kernel
theorem r637 {l : Launch} {D : va_G} {tys : List (ClassId × FieldType)} {A : Nat → Prop} {ad : Nat → Nat} (hAD : ∀ i : Nat, ad (1000 + i) = D.2 1000 i) : CRok l D tys A ad GG 7 g637 := CR_of_vrf (dep := 6) hAD (List.forall_mem_cons.mpr ⟨r78 hAD, List.forall_mem_cons.mpr ⟨r626 hAD, List.forall_mem_cons.mpr ⟨r627 hAD, List.forall_mem_cons.mpr ⟨r628 hAD, List.forall_mem_cons.mpr ⟨r629 hAD, List.forall_mem_cons.mpr ⟨r630 hAD, List.forall_mem_cons.mpr ⟨r631 hAD, List.forall_mem_cons.mpr ⟨r632 hAD, List.forall_mem_cons.mpr ⟨r633 hAD, List.forall_mem_cons.mpr ⟨r634 hAD, List.forall_mem_cons.mpr ⟨r635 hAD, List.forall_mem_cons.mpr ⟨r636 hAD, List.forall_mem_cons.mpr ⟨r76 hAD, fun c hc => by cases hc⟩⟩⟩⟩⟩⟩⟩⟩⟩⟩⟩⟩⟩) T2OK_nil w637
def g638 : CR := (150, [(2, 79, 79), (2, 5, 5)], [], none, [], [5])
theorem w638 : vrf GG [] [] 300 0 g638
  [(2, [(0, 6)], [(0, rA 79), (1, rA 5), (2, iA (0, [(1, 0)]))], [], [], (400, [((-58), 0)]))] = true := by decide +kernel
theorem r638 {l : Launch} {D : va_G} {tys : List (ClassId × FieldType)} {A : Nat → Prop} {ad : Nat → Nat} (hAD : ∀ i : Nat, ad (1000 + i) = D.2 1000 i) : CRok l D tys A ad GG 1 g638 := CR_of_vrf (dep := 0) hAD (fun c hc => by cases hc) T2OK_nil w638
def g639 : CR := (150, [(2, 80, 80), (2, 6, 6)], [], none, [], [6])
theorem w639 : vrf GG [] [] 300 0 g639
  [(2, [(0, 36)], [(0, rA 80), (1, rA 6), (2, iA (0, [(1, 0)]))], [], [], (2140, [((-58), 0)]))] = true := by decide +kernel
theorem r639 {l : Launch} {D : va_G} {tys : List (ClassId × FieldType)} {A : Nat → Prop} {ad : Nat → Nat} (hAD : ∀ i : Nat, ad (1000 + i) = D.2 1000 i) : CRok l D tys A ad GG 1 g639 := CR_of_vrf (dep := 0) hAD (fun c hc => by cases hc) T2OK_nil w639
def g640 : CR := (150, [(2, 81, 81), (2, 7, 7)], [], none, [], [7])
theorem w640 : vrf GG [] [] 300 0 g640
  [(2, [(0, 6)], [(0, rA 81), (1, rA 7), (2, iA (0, [(1, 0)]))], [], [], (400, [((-58), 0)]))] = true := by decide +kernel
theorem r640 {l : Launch} {D : va_G} {tys : List (ClassId × FieldType)} {A : Nat → Prop} {ad : Nat → Nat} (hAD : ∀ i : Nat, ad (1000 + i) = D.2 1000 i) : CRok l D tys A ad GG 1 g640 := CR_of_vrf (dep := 0) hAD (fun c hc => by cases hc) T2OK_nil w640
def g641 : CR := (150, [(2, 82, 82), (2, 8, 8)], [], none, [], [8])
theorem w641 : vrf GG [] [] 300 0 g641
  [(2, [(0, 6)], [(0, rA 82), (1, rA 8), (2, iA (0, [(1, 0)]))], [], [], (400, [((-58), 0)]))] = true := by decide +kernel
theorem r641 {l : Launch} {D : va_G} {tys : List (ClassId × FieldType)} {A : Nat → Prop} {ad : Nat → Nat} (hAD : ∀ i : Nat, ad (1000 + i) = D.2 1000 i) : CRok l D tys A ad GG 1 g641 := CR_of_vrf (dep := 0) hAD (fun c hc => by cases hc) T2OK_nil w641
def g642 : CR := (150, [(2, 83, 83), (2, 9, 9)], [], none, [], [9])
theorem w642 : vrf GG [] [] 300 0 g642
  [(2, [(0, 6)], [(0, rA 83), (1, rA 9), (2, iA (0, [(1, 0)]))], [], [], (400, [((-58), 0)]))] = true := by decide +kernel
theorem r642 {l : Launch} {D : va_G} {tys : List (ClassId × FieldType)} {A : Nat → Prop} {ad : Nat → Nat} (hAD : ∀ i : Nat, ad (1000 + i) = D.2 1000 i) : CRok l D tys A ad GG 1 g642 := CR_of_vrf (dep := 0) hAD (fun c hc => by cases hc) T2OK_nil w642
def g643 : CR := (150, [(2, 84, 84), (2, 10, 10)], [], none, [], [10])
theorem w643 : vrf GG [] [] 300 0 g643
  [(2, [(0, 144)], [(0, rA 84), (1, rA 10), (2, iA (0, [(1, 0)]))], [], [], (8404, [((-58), 0)]))] = true := by decide +kernel
theorem r643 {l : Launch} {D : va_G} {tys : List (ClassId × FieldType)} {A : Nat → Prop} {ad : Nat → Nat} (hAD : ∀ i : Nat, ad (1000 + i) = D.2 1000 i) : CRok l D tys A ad GG 1 g643 := CR_of_vrf (dep := 0) hAD (fun c hc => by cases hc) T2OK_nil w643
def g644 : CR := (150, [(2, 85, 85), (2, 11, 11)], [], none, [], [11])
theorem w644 : vrf GG [] [] 300 0 g644
  [(2, [(0, 36)], [(0, rA 85), (1, rA 11), (2, iA (0, [(1, 0)]))], [], [], (2140, [((-58), 0)]))] = true := by decide +kernel
theorem r644 {l : Launch} {D : va_G} {tys : List (ClassId × FieldType)} {A : Nat → Prop} {ad : Nat → Nat} (hAD : ∀ i : Nat, ad (1000 + i) = D.2 1000 i) : CRok l D tys A ad GG 1 g644 := CR_of_vrf (dep := 0) hAD (fun c hc => by cases hc) T2OK_nil w644
def g645 : CR := (150, [(2, 86, 86), (2, 12, 12)], [], none, [], [12])
theorem w645 : vrf GG [] [] 300 0 g645
  [(2, [(0, 12)], [(0, rA 86), (1, rA 12), (2, iA (0, [(1, 0)]))], [], [], (748, [((-58), 0)]))] = true := by decide +kernel
theorem r645 {l : Launch} {D : va_G} {tys : List (ClassId × FieldType)} {A : Nat → Prop} {ad : Nat → Nat} (hAD : ∀ i : Nat, ad (1000 + i) = D.2 1000 i) : CRok l D tys A ad GG 1 g645 := CR_of_vrf (dep := 0) hAD (fun c hc => by cases hc) T2OK_nil w645
def g646 : CR := (150, [(2, 87, 87), (2, 13, 13)], [], none, [], [13])
theorem w646 : vrf GG [] [] 300 0 g646
  [(2, [(0, 12)], [(0, rA 87), (1, rA 13), (2, iA (0, [(1, 0)]))], [], [], (748, [((-58), 0)]))] = true := by decide +kernel
theorem r646 {l : Launch} {D : va_G} {tys : List (ClassId × FieldType)} {A : Nat → Prop} {ad : Nat → Nat} (hAD : ∀ i : Nat, ad (1000 + i) = D.2 1000 i) : CRok l D tys A ad GG 1 g646 := CR_of_vrf (dep := 0) hAD (fun c hc => by cases hc) T2OK_nil w646
def g647 : CR := (150, [(2, 88, 88), (2, 14, 14)], [], none, [], [14])
theorem w647 : vrf GG [] [] 300 0 g647
  [(2, [(0, 12)], [(0, rA 88), (1, rA 14), (2, iA (0, [(1, 0)]))], [], [], (748, [((-58), 0)]))] = true := by decide +kernel
theorem r647 {l : Launch} {D : va_G} {tys : List (ClassId × FieldType)} {A : Nat → Prop} {ad : Nat → Nat} (hAD : ∀ i : Nat, ad (1000 + i) = D.2 1000 i) : CRok l D tys A ad GG 1 g647 := CR_of_vrf (dep := 0) hAD (fun c hc => by cases hc) T2OK_nil w647
def g648 : CR := (150, [(2, 89, 89), (2, 15, 15)], [], none, [], [15])
theorem w648 : vrf GG [] [] 300 0 g648
  [(2, [(0, 12)], [(0, rA 89), (1, rA 15), (2, iA (0, [(1, 0)]))], [], [], (748, [((-58), 0)]))] = true := by decide +kernel
theorem r648 {l : Launch} {D : va_G} {tys : List (ClassId × FieldType)} {A : Nat → Prop} {ad : Nat → Nat} (hAD : ∀ i : Nat, ad (1000 + i) = D.2 1000 i) : CRok l D tys A ad GG 1 g648 := CR_of_vrf (dep := 0) hAD (fun c hc => by cases hc) T2OK_nil w648
def g649 : CR := (68, [(2, 0, 0), (0, 2, 2)], [], some (0, (-2147483648), 2147483647), [], [4, 5, 6, 7, 8, 9, 10, 11, 12, 13, 14, 15, 29, 30, 31, 32, 33, 34, 35])
theorem w649 : vrf GG [(4, g78), (1, g638), (1, g639), (1, g640), (1, g641), (1, g642), (1, g643), (1, g644), (1, g645), (1, g646), (1, g647), (1, g648), (5, g76)] [] 300 6 g649
  [] = true := by decide +kernel
theorem r649 {l : Launch} {D : va_G} {tys : List (ClassId × FieldType)} {A : Nat → Prop} {ad : Nat → Nat} (hAD : ∀ i : Nat, ad (1000 + i) = D.2 1000 i) : CRok l D tys A ad GG 7 g649 := CR_of_vrf (dep := 6) hAD (List.forall_mem_cons.mpr ⟨r78 hAD, List.forall_mem_cons.mpr ⟨r638 hAD, List.forall_mem_cons.mpr ⟨r639 hAD, List.forall_mem_cons.mpr ⟨r640 hAD, List.forall_mem_cons.mpr ⟨r641 hAD, List.forall_mem_cons.mpr ⟨r642 hAD, List.forall_mem_cons.mpr ⟨r643 hAD, List.forall_mem_cons.mpr ⟨r644 hAD, List.forall_mem_cons.mpr ⟨r645 hAD, List.forall_mem_cons.mpr ⟨r646 hAD, List.forall_mem_cons.mpr ⟨r647 hAD, List.forall_mem_cons.mpr ⟨r648 hAD, List.forall_mem_cons.mpr ⟨r76 hAD, fun c hc => by cases hc⟩⟩⟩⟩⟩⟩⟩⟩⟩⟩⟩⟩⟩) T2OK_nil w649
def g650 : CR := (197, [(2, 90, 90), (0, (-2147483648), (-1))], [], some (0, (-2), (-2)), [], [])
theorem w650 : vrf GG [] [] 300 1 g650
  [] = true := by decide +kernel
theorem r650 {l : Launch} {D : va_G} {tys : List (ClassId × FieldType)} {A : Nat → Prop} {ad : Nat → Nat} (hAD : ∀ i : Nat, ad (1000 + i) = D.2 1000 i) : CRok l D tys A ad GG 2 g650 := CR_of_vrf (dep := 1) hAD (fun c hc => by cases hc) T2OK_nil w650
def g651 : CR := (197, [(2, 90, 90), (0, 3, 2147483647)], [], some (0, (-2), (-2)), [], [])
theorem w651 : vrf GG [] [] 300 1 g651
  [] = true := by decide +kernel
theorem r651 {l : Launch} {D : va_G} {tys : List (ClassId × FieldType)} {A : Nat → Prop} {ad : Nat → Nat} (hAD : ∀ i : Nat, ad (1000 + i) = D.2 1000 i) : CRok l D tys A ad GG 2 g651 := CR_of_vrf (dep := 1) hAD (fun c hc => by cases hc) T2OK_nil w651
def g652 : CR := (197, [(2, 90, 90), (0, 0, 0)], [], some (0, (-6), 0), [], [91])
theorem w652 : vrf GG [] [] 1099 1 g652
  [(29, [], [(0, rA 90), (1, iA (0, [])), (2, iA (0, []))], [], [], (294, [])),
  (29, [], [(0, rA 90), (1, iA (0, [])), (2, iA (1, []))], [], [], (293, [])),
  (29, [], [(0, rA 90), (1, iA (0, [])), (2, iA (2, []))], [], [], (292, [])),
  (29, [], [(0, rA 90), (1, iA (0, [])), (2, iA (3, []))], [], [], (291, [])),
  (29, [], [(0, rA 90), (1, iA (0, [])), (2, iA (4, []))], [], [], (290, [])),
  (29, [], [(0, rA 90), (1, iA (0, [])), (2, iA (5, []))], [], [], (289, [])),
  (29, [], [(0, rA 90), (1, iA (0, [])), (2, iA (6, []))], [], [], (288, [])),
  (29, [(7, 12)], [(0, rA 90), (1, iA (0, [])), (2, iA (0, [(1, 0)]))], [], [], (294, [((-1), 0)])),
  (29, [], [(0, rA 90), (1, iA (0, [])), (2, iA (13, []))], [], [], (281, [])),
  (29, [(14, 19)], [(0, rA 90), (1, iA (0, [])), (2, iA (0, [(1, 0)]))], [], [], (294, [((-1), 0)])),
  (29, [], [(0, rA 90), (1, iA (0, [])), (2, iA (20, []))], [], [], (274, [])),
  (29, [(21, 26)], [(0, rA 90), (1, iA (0, [])), (2, iA (0, [(1, 0)]))], [], [], (294, [((-1), 0)])),
  (29, [], [(0, rA 90), (1, iA (0, [])), (2, iA (27, []))], [], [], (267, [])),
  (29, [(28, 33)], [(0, rA 90), (1, iA (0, [])), (2, iA (0, [(1, 0)]))], [], [], (294, [((-1), 0)])),
  (29, [], [(0, rA 90), (1, iA (0, [])), (2, iA (34, []))], [], [], (260, [])),
  (29, [(35, 40)], [(0, rA 90), (1, iA (0, [])), (2, iA (0, [(1, 0)]))], [], [], (294, [((-1), 0)])),
  (29, [], [(0, rA 90), (1, iA (0, [])), (2, iA (41, []))], [], [], (253, [])),
  (29, [(42, 47)], [(0, rA 90), (1, iA (0, [])), (2, iA (0, [(1, 0)]))], [], [], (294, [((-1), 0)])),
  (29, [(48, 53)], [(0, rA 90), (1, iA (0, [])), (2, iA (0, [(1, 0)]))], [], [], (294, [((-1), 0)])),
  (29, [(54, 59)], [(0, rA 90), (1, iA (0, [])), (2, iA (0, [(1, 0)]))], [], [], (294, [((-1), 0)])),
  (29, [(60, 65)], [(0, rA 90), (1, iA (0, [])), (2, iA (0, [(1, 0)]))], [], [], (294, [((-1), 0)])),
  (29, [(66, 101)], [(0, rA 90), (1, iA (0, [])), (2, iA (0, [(1, 0)]))], [], [], (294, [((-1), 0)])),
  (29, [(102, 245)], [(0, rA 90), (1, iA (0, [])), (2, iA (0, [(1, 0)]))], [], [], (294, [((-1), 0)])),
  (29, [(246, 248)], [(0, rA 90), (1, iA (0, [])), (2, iA (0, [(1, 0)]))], [], [], (294, [((-1), 0)])),
  (29, [], [(0, rA 90), (1, iA (0, [])), (2, iA (249, []))], [], [], (45, [])),
  (29, [(250, 252)], [(0, rA 90), (1, iA (0, [])), (2, iA (0, [(1, 0)]))], [], [], (294, [((-1), 0)])),
  (29, [], [(0, rA 90), (1, iA (0, [])), (2, iA (253, []))], [], [], (41, [])),
  (29, [(254, 256)], [(0, rA 90), (1, iA (0, [])), (2, iA (0, [(1, 0)]))], [], [], (294, [((-1), 0)])),
  (29, [], [(0, rA 90), (1, iA (0, [])), (2, iA (257, []))], [], [], (37, [])),
  (29, [(258, 260)], [(0, rA 90), (1, iA (0, [])), (2, iA (0, [(1, 0)]))], [], [], (294, [((-1), 0)])),
  (29, [], [(0, rA 90), (1, iA (0, [])), (2, iA (261, []))], [], [], (33, [])),
  (29, [(262, 264)], [(0, rA 90), (1, iA (0, [])), (2, iA (0, [(1, 0)]))], [], [], (294, [((-1), 0)])),
  (29, [], [(0, rA 90), (1, iA (0, [])), (2, iA (265, []))], [], [], (29, [])),
  (29, [(266, 268)], [(0, rA 90), (1, iA (0, [])), (2, iA (0, [(1, 0)]))], [], [], (294, [((-1), 0)])),
  (29, [], [(0, rA 90), (1, iA (0, [])), (2, iA (269, []))], [], [], (25, [])),
  (29, [(270, 272)], [(0, rA 90), (1, iA (0, [])), (2, iA (0, [(1, 0)]))], [], [], (294, [((-1), 0)])),
  (29, [], [(0, rA 90), (1, iA (0, [])), (2, iA (273, []))], [], [], (21, [])),
  (29, [(274, 276)], [(0, rA 90), (1, iA (0, [])), (2, iA (0, [(1, 0)]))], [], [], (294, [((-1), 0)])),
  (29, [], [(0, rA 90), (1, iA (0, [])), (2, iA (277, []))], [], [], (17, [])),
  (29, [(278, 280)], [(0, rA 90), (1, iA (0, [])), (2, iA (0, [(1, 0)]))], [], [], (294, [((-1), 0)])),
  (29, [], [(0, rA 90), (1, iA (0, [])), (2, iA (281, []))], [], [], (13, [])),
  (29, [(282, 284)], [(0, rA 90), (1, iA (0, [])), (2, iA (0, [(1, 0)]))], [], [], (294, [((-1), 0)])),
  (29, [], [(0, rA 90), (1, iA (0, [])), (2, iA (285, []))], [], [], (9, [])),
  (29, [(286, 288)], [(0, rA 90), (1, iA (0, [])), (2, iA (0, [(1, 0)]))], [], [], (294, [((-1), 0)])),
  (29, [], [(0, rA 90), (1, iA (0, [])), (2, iA (289, []))], [], [], (5, [])),
  (29, [(290, 292)], [(0, rA 90), (1, iA (0, [])), (2, iA (0, [(1, 0)]))], [], [], (294, [((-1), 0)])),
  (29, [], [(0, rA 90), (1, iA (0, [])), (2, iA (293, []))], [], [], (1, [])),
  (29, [], [(0, rA 90), (1, iA (0, [])), (2, iA (294, []))], [], [], (0, []))] = true := by decide +kernel
theorem r652 {l : Launch} {D : va_G} {tys : List (ClassId × FieldType)} {A : Nat → Prop} {ad : Nat → Nat} (hAD : ∀ i : Nat, ad (1000 + i) = D.2 1000 i) : CRok l D tys A ad GG 2 g652 := CR_of_vrf (dep := 1) hAD (fun c hc => by cases hc) T2OK_nil w652
def g653 : CR := (197, [(2, 90, 90), (0, 1, 1)], [], some (0, (-6), 0), [], [91])
theorem w653 : vrf GG [] [] 1099 1 g653
  [(29, [], [(0, rA 90), (1, iA (1, [])), (2, iA (0, []))], [], [], (294, [])),
  (29, [], [(0, rA 90), (1, iA (1, [])), (2, iA (1, []))], [], [], (293, [])),
  (29, [], [(0, rA 90), (1, iA (1, [])), (2, iA (2, []))], [], [], (292, [])),
  (29, [], [(0, rA 90), (1, iA (1, [])), (2, iA (3, []))], [], [], (291, [])),
  (29, [], [(0, rA 90), (1, iA (1, [])), (2, iA (4, []))], [], [], (290, [])),
  (29, [], [(0, rA 90), (1, iA (1, [])), (2, iA (5, []))], [], [], (289, [])),
  (29, [], [(0, rA 90), (1, iA (1, [])), (2, iA (6, []))], [], [], (288, [])),
  (29, [(7, 12)], [(0, rA 90), (1, iA (1, [])), (2, iA (0, [(1, 0)]))], [], [], (294, [((-1), 0)])),
  (29, [], [(0, rA 90), (1, iA (1, [])), (2, iA (13, []))], [], [], (281, [])),
  (29, [(14, 19)], [(0, rA 90), (1, iA (1, [])), (2, iA (0, [(1, 0)]))], [], [], (294, [((-1), 0)])),
  (29, [], [(0, rA 90), (1, iA (1, [])), (2, iA (20, []))], [], [], (274, [])),
  (29, [(21, 26)], [(0, rA 90), (1, iA (1, [])), (2, iA (0, [(1, 0)]))], [], [], (294, [((-1), 0)])),
  (29, [], [(0, rA 90), (1, iA (1, [])), (2, iA (27, []))], [], [], (267, [])),
  (29, [(28, 33)], [(0, rA 90), (1, iA (1, [])), (2, iA (0, [(1, 0)]))], [], [], (294, [((-1), 0)])),
  (29, [], [(0, rA 90), (1, iA (1, [])), (2, iA (34, []))], [], [], (260, [])),
  (29, [(35, 40)], [(0, rA 90), (1, iA (1, [])), (2, iA (0, [(1, 0)]))], [], [], (294, [((-1), 0)])),
  (29, [], [(0, rA 90), (1, iA (1, [])), (2, iA (41, []))], [], [], (253, [])),
  (29, [(42, 47)], [(0, rA 90), (1, iA (1, [])), (2, iA (0, [(1, 0)]))], [], [], (294, [((-1), 0)])),
  (29, [(48, 53)], [(0, rA 90), (1, iA (1, [])), (2, iA (0, [(1, 0)]))], [], [], (294, [((-1), 0)])),
  (29, [(54, 59)], [(0, rA 90), (1, iA (1, [])), (2, iA (0, [(1, 0)]))], [], [], (294, [((-1), 0)])),
  (29, [(60, 65)], [(0, rA 90), (1, iA (1, [])), (2, iA (0, [(1, 0)]))], [], [], (294, [((-1), 0)])),
  (29, [(66, 101)], [(0, rA 90), (1, iA (1, [])), (2, iA (0, [(1, 0)]))], [], [], (294, [((-1), 0)])),
  (29, [(102, 245)], [(0, rA 90), (1, iA (1, [])), (2, iA (0, [(1, 0)]))], [], [], (294, [((-1), 0)])),
  (29, [(246, 248)], [(0, rA 90), (1, iA (1, [])), (2, iA (0, [(1, 0)]))], [], [], (294, [((-1), 0)])),
  (29, [], [(0, rA 90), (1, iA (1, [])), (2, iA (249, []))], [], [], (45, [])),
  (29, [(250, 252)], [(0, rA 90), (1, iA (1, [])), (2, iA (0, [(1, 0)]))], [], [], (294, [((-1), 0)])),
  (29, [], [(0, rA 90), (1, iA (1, [])), (2, iA (253, []))], [], [], (41, [])),
  (29, [(254, 256)], [(0, rA 90), (1, iA (1, [])), (2, iA (0, [(1, 0)]))], [], [], (294, [((-1), 0)])),
  (29, [], [(0, rA 90), (1, iA (1, [])), (2, iA (257, []))], [], [], (37, [])),
  (29, [(258, 260)], [(0, rA 90), (1, iA (1, [])), (2, iA (0, [(1, 0)]))], [], [], (294, [((-1), 0)])),
  (29, [], [(0, rA 90), (1, iA (1, [])), (2, iA (261, []))], [], [], (33, [])),
  (29, [(262, 264)], [(0, rA 90), (1, iA (1, [])), (2, iA (0, [(1, 0)]))], [], [], (294, [((-1), 0)])),
  (29, [], [(0, rA 90), (1, iA (1, [])), (2, iA (265, []))], [], [], (29, [])),
  (29, [(266, 268)], [(0, rA 90), (1, iA (1, [])), (2, iA (0, [(1, 0)]))], [], [], (294, [((-1), 0)])),
  (29, [], [(0, rA 90), (1, iA (1, [])), (2, iA (269, []))], [], [], (25, [])),
  (29, [(270, 272)], [(0, rA 90), (1, iA (1, [])), (2, iA (0, [(1, 0)]))], [], [], (294, [((-1), 0)])),
  (29, [], [(0, rA 90), (1, iA (1, [])), (2, iA (273, []))], [], [], (21, [])),
  (29, [(274, 276)], [(0, rA 90), (1, iA (1, [])), (2, iA (0, [(1, 0)]))], [], [], (294, [((-1), 0)])),
  (29, [], [(0, rA 90), (1, iA (1, [])), (2, iA (277, []))], [], [], (17, [])),
  (29, [(278, 280)], [(0, rA 90), (1, iA (1, [])), (2, iA (0, [(1, 0)]))], [], [], (294, [((-1), 0)])),
  (29, [], [(0, rA 90), (1, iA (1, [])), (2, iA (281, []))], [], [], (13, [])),
  (29, [(282, 284)], [(0, rA 90), (1, iA (1, [])), (2, iA (0, [(1, 0)]))], [], [], (294, [((-1), 0)])),
  (29, [], [(0, rA 90), (1, iA (1, [])), (2, iA (285, []))], [], [], (9, [])),
  (29, [(286, 288)], [(0, rA 90), (1, iA (1, [])), (2, iA (0, [(1, 0)]))], [], [], (294, [((-1), 0)])),
  (29, [], [(0, rA 90), (1, iA (1, [])), (2, iA (289, []))], [], [], (5, [])),
  (29, [(290, 292)], [(0, rA 90), (1, iA (1, [])), (2, iA (0, [(1, 0)]))], [], [], (294, [((-1), 0)])),
  (29, [], [(0, rA 90), (1, iA (1, [])), (2, iA (293, []))], [], [], (1, [])),
  (29, [], [(0, rA 90), (1, iA (1, [])), (2, iA (294, []))], [], [], (0, []))] = true := by decide +kernel
theorem r653 {l : Launch} {D : va_G} {tys : List (ClassId × FieldType)} {A : Nat → Prop} {ad : Nat → Nat} (hAD : ∀ i : Nat, ad (1000 + i) = D.2 1000 i) : CRok l D tys A ad GG 2 g653 := CR_of_vrf (dep := 1) hAD (fun c hc => by cases hc) T2OK_nil w653
def g654 : CR := (197, [(2, 90, 90), (0, 2, 2)], [], some (0, (-6), 0), [], [91])
theorem w654 : vrf GG [] [] 1099 1 g654
  [(29, [], [(0, rA 90), (1, iA (2, [])), (2, iA (0, []))], [], [], (294, [])),
  (29, [], [(0, rA 90), (1, iA (2, [])), (2, iA (1, []))], [], [], (293, [])),
  (29, [], [(0, rA 90), (1, iA (2, [])), (2, iA (2, []))], [], [], (292, [])),
  (29, [], [(0, rA 90), (1, iA (2, [])), (2, iA (3, []))], [], [], (291, [])),
  (29, [], [(0, rA 90), (1, iA (2, [])), (2, iA (4, []))], [], [], (290, [])),
  (29, [], [(0, rA 90), (1, iA (2, [])), (2, iA (5, []))], [], [], (289, [])),
  (29, [], [(0, rA 90), (1, iA (2, [])), (2, iA (6, []))], [], [], (288, [])),
  (29, [(7, 12)], [(0, rA 90), (1, iA (2, [])), (2, iA (0, [(1, 0)]))], [], [], (294, [((-1), 0)])),
  (29, [], [(0, rA 90), (1, iA (2, [])), (2, iA (13, []))], [], [], (281, [])),
  (29, [(14, 19)], [(0, rA 90), (1, iA (2, [])), (2, iA (0, [(1, 0)]))], [], [], (294, [((-1), 0)])),
  (29, [], [(0, rA 90), (1, iA (2, [])), (2, iA (20, []))], [], [], (274, [])),
  (29, [(21, 26)], [(0, rA 90), (1, iA (2, [])), (2, iA (0, [(1, 0)]))], [], [], (294, [((-1), 0)])),
  (29, [], [(0, rA 90), (1, iA (2, [])), (2, iA (27, []))], [], [], (267, [])),
  (29, [(28, 33)], [(0, rA 90), (1, iA (2, [])), (2, iA (0, [(1, 0)]))], [], [], (294, [((-1), 0)])),
  (29, [], [(0, rA 90), (1, iA (2, [])), (2, iA (34, []))], [], [], (260, [])),
  (29, [(35, 40)], [(0, rA 90), (1, iA (2, [])), (2, iA (0, [(1, 0)]))], [], [], (294, [((-1), 0)])),
  (29, [], [(0, rA 90), (1, iA (2, [])), (2, iA (41, []))], [], [], (253, [])),
  (29, [(42, 47)], [(0, rA 90), (1, iA (2, [])), (2, iA (0, [(1, 0)]))], [], [], (294, [((-1), 0)])),
  (29, [(48, 53)], [(0, rA 90), (1, iA (2, [])), (2, iA (0, [(1, 0)]))], [], [], (294, [((-1), 0)])),
  (29, [(54, 59)], [(0, rA 90), (1, iA (2, [])), (2, iA (0, [(1, 0)]))], [], [], (294, [((-1), 0)])),
  (29, [(60, 65)], [(0, rA 90), (1, iA (2, [])), (2, iA (0, [(1, 0)]))], [], [], (294, [((-1), 0)])),
  (29, [(66, 101)], [(0, rA 90), (1, iA (2, [])), (2, iA (0, [(1, 0)]))], [], [], (294, [((-1), 0)])),
  (29, [(102, 245)], [(0, rA 90), (1, iA (2, [])), (2, iA (0, [(1, 0)]))], [], [], (294, [((-1), 0)])),
  (29, [(246, 248)], [(0, rA 90), (1, iA (2, [])), (2, iA (0, [(1, 0)]))], [], [], (294, [((-1), 0)])),
  (29, [], [(0, rA 90), (1, iA (2, [])), (2, iA (249, []))], [], [], (45, [])),
  (29, [(250, 252)], [(0, rA 90), (1, iA (2, [])), (2, iA (0, [(1, 0)]))], [], [], (294, [((-1), 0)])),
  (29, [], [(0, rA 90), (1, iA (2, [])), (2, iA (253, []))], [], [], (41, [])),
  (29, [(254, 256)], [(0, rA 90), (1, iA (2, [])), (2, iA (0, [(1, 0)]))], [], [], (294, [((-1), 0)])),
  (29, [], [(0, rA 90), (1, iA (2, [])), (2, iA (257, []))], [], [], (37, [])),
  (29, [(258, 260)], [(0, rA 90), (1, iA (2, [])), (2, iA (0, [(1, 0)]))], [], [], (294, [((-1), 0)])),
  (29, [], [(0, rA 90), (1, iA (2, [])), (2, iA (261, []))], [], [], (33, [])),
  (29, [(262, 264)], [(0, rA 90), (1, iA (2, [])), (2, iA (0, [(1, 0)]))], [], [], (294, [((-1), 0)])),
  (29, [], [(0, rA 90), (1, iA (2, [])), (2, iA (265, []))], [], [], (29, [])),
  (29, [(266, 268)], [(0, rA 90), (1, iA (2, [])), (2, iA (0, [(1, 0)]))], [], [], (294, [((-1), 0)])),
  (29, [], [(0, rA 90), (1, iA (2, [])), (2, iA (269, []))], [], [], (25, [])),
  (29, [(270, 272)], [(0, rA 90), (1, iA (2, [])), (2, iA (0, [(1, 0)]))], [], [], (294, [((-1), 0)])),
  (29, [], [(0, rA 90), (1, iA (2, [])), (2, iA (273, []))], [], [], (21, [])),
  (29, [(274, 276)], [(0, rA 90), (1, iA (2, [])), (2, iA (0, [(1, 0)]))], [], [], (294, [((-1), 0)])),
  (29, [], [(0, rA 90), (1, iA (2, [])), (2, iA (277, []))], [], [], (17, [])),
  (29, [(278, 280)], [(0, rA 90), (1, iA (2, [])), (2, iA (0, [(1, 0)]))], [], [], (294, [((-1), 0)])),
  (29, [], [(0, rA 90), (1, iA (2, [])), (2, iA (281, []))], [], [], (13, [])),
  (29, [(282, 284)], [(0, rA 90), (1, iA (2, [])), (2, iA (0, [(1, 0)]))], [], [], (294, [((-1), 0)])),
  (29, [], [(0, rA 90), (1, iA (2, [])), (2, iA (285, []))], [], [], (9, [])),
  (29, [(286, 288)], [(0, rA 90), (1, iA (2, [])), (2, iA (0, [(1, 0)]))], [], [], (294, [((-1), 0)])),
  (29, [], [(0, rA 90), (1, iA (2, [])), (2, iA (289, []))], [], [], (5, [])),
  (29, [(290, 292)], [(0, rA 90), (1, iA (2, [])), (2, iA (0, [(1, 0)]))], [], [], (294, [((-1), 0)])),
  (29, [], [(0, rA 90), (1, iA (2, [])), (2, iA (293, []))], [], [], (1, [])),
  (29, [], [(0, rA 90), (1, iA (2, [])), (2, iA (294, []))], [], [], (0, []))] = true := by decide +kernel
theorem r654 {l : Launch} {D : va_G} {tys : List (ClassId × FieldType)} {A : Nat → Prop} {ad : Nat → Nat} (hAD : ∀ i : Nat, ad (1000 + i) = D.2 1000 i) : CRok l D tys A ad GG 2 g654 := CR_of_vrf (dep := 1) hAD (fun c hc => by cases hc) T2OK_nil w654
def g655 : CR := (70, [(2, 0, 0), (0, (-2147483648), (-1)), (0, (-2147483648), 2147483647), (0, (-2147483648), 2147483647)], [], some (0, (-2), (-2)), [], [])
theorem w655 : vrf GG [] [] 300 1 g655
  [] = true := by decide +kernel
theorem r655 {l : Launch} {D : va_G} {tys : List (ClassId × FieldType)} {A : Nat → Prop} {ad : Nat → Nat} (hAD : ∀ i : Nat, ad (1000 + i) = D.2 1000 i) : CRok l D tys A ad GG 2 g655 := CR_of_vrf (dep := 1) hAD (fun c hc => by cases hc) T2OK_nil w655
def g656 : CR := (70, [(2, 0, 0), (0, 4, 2147483647), (0, (-2147483648), 2147483647), (0, (-2147483648), 2147483647)], [], some (0, (-2), (-2)), [], [])
theorem w656 : vrf GG [] [] 300 1 g656
  [] = true := by decide +kernel
theorem r656 {l : Launch} {D : va_G} {tys : List (ClassId × FieldType)} {A : Nat → Prop} {ad : Nat → Nat} (hAD : ∀ i : Nat, ad (1000 + i) = D.2 1000 i) : CRok l D tys A ad GG 2 g656 := CR_of_vrf (dep := 1) hAD (fun c hc => by cases hc) T2OK_nil w656
def g657 : CR := (70, [(2, 0, 0), (0, 0, 3), (0, (-2147483648), (-1)), (0, (-2147483648), 2147483647)], [], some (0, (-2), (-2)), [], [])
theorem w657 : vrf GG [] [] 300 1 g657
  [] = true := by decide +kernel
theorem r657 {l : Launch} {D : va_G} {tys : List (ClassId × FieldType)} {A : Nat → Prop} {ad : Nat → Nat} (hAD : ∀ i : Nat, ad (1000 + i) = D.2 1000 i) : CRok l D tys A ad GG 2 g657 := CR_of_vrf (dep := 1) hAD (fun c hc => by cases hc) T2OK_nil w657
def g658 : CR := (70, [(2, 0, 0), (0, 0, 3), (0, 4, 2147483647), (0, (-2147483648), 2147483647)], [], some (0, (-2), (-2)), [], [])
theorem w658 : vrf GG [] [] 300 1 g658
  [] = true := by decide +kernel
theorem r658 {l : Launch} {D : va_G} {tys : List (ClassId × FieldType)} {A : Nat → Prop} {ad : Nat → Nat} (hAD : ∀ i : Nat, ad (1000 + i) = D.2 1000 i) : CRok l D tys A ad GG 2 g658 := CR_of_vrf (dep := 1) hAD (fun c hc => by cases hc) T2OK_nil w658
def g659 : CR := (70, [(2, 0, 0), (0, 0, 3), (0, 0, 3), (0, 61, 2147483647)], [], some (0, (-2), (-2)), [], [])
theorem w659 : vrf GG [] [] 300 1 g659
  [] = true := by decide +kernel
theorem r659 {l : Launch} {D : va_G} {tys : List (ClassId × FieldType)} {A : Nat → Prop} {ad : Nat → Nat} (hAD : ∀ i : Nat, ad (1000 + i) = D.2 1000 i) : CRok l D tys A ad GG 2 g659 := CR_of_vrf (dep := 1) hAD (fun c hc => by cases hc) T2OK_nil w659
def g660 : CR := (70, [(2, 0, 0), (0, 0, 3), (0, 0, 3), (0, (-2147483648), (-1))], [], some (0, (-3), (-3)), [], [])
theorem w660 : vrf GG [] [] 300 1 g660
  [] = true := by decide +kernel
theorem r660 {l : Launch} {D : va_G} {tys : List (ClassId × FieldType)} {A : Nat → Prop} {ad : Nat → Nat} (hAD : ∀ i : Nat, ad (1000 + i) = D.2 1000 i) : CRok l D tys A ad GG 2 g660 := CR_of_vrf (dep := 1) hAD (fun c hc => by cases hc) T2OK_nil w660
def g661 : CR := (166, [(2, 39, 39), (0, 0, 3), (0, 0, 59), (1, 0, 0)], [], none, [], [40])
theorem w661 : vrf GG [] [] 300 2 g661
  [] = true := by decide +kernel
theorem r661 {l : Launch} {D : va_G} {tys : List (ClassId × FieldType)} {A : Nat → Prop} {ad : Nat → Nat} (hAD : ∀ i : Nat, ad (1000 + i) = D.2 1000 i) : CRok l D tys A ad GG 3 g661 := CR_of_vrf (dep := 2) hAD (fun c hc => by cases hc) T2OK_nil w661
def g662 : CR := (165, [(2, 39, 39), (0, 0, 3), (0, 0, 3), (0, 0, 60)], [], none, [], [40, 41, 42])
theorem w662 : vrf GG [(3, g661)] [] 300 3 g662
  [(21, [(0, 3), (0, 3), (0, 60), (0, 60)], [(0, rA 39), (1, iA (0, [(1, 0)])), (2, iA (0, [(1, 1)])), (3, iA (0, [(1, 2)])), (4, iA (0, [(1, 3)]))], [], [], (5324, [((-88), 3)]))] = true := by decide +kernel
theorem r662 {l : Launch} {D : va_G} {tys : List (ClassId × FieldType)} {A : Nat → Prop} {ad : Nat → Nat} (hAD : ∀ i : Nat, ad (1000 + i) = D.2 1000 i) : CRok l D tys A ad GG 4 g662 := CR_of_vrf (dep := 3) hAD (List.forall_mem_cons.mpr ⟨r661 hAD, fun c hc => by cases hc⟩) T2OK_nil w662
def g663 : CR := (70, [(2, 0, 0), (0, 0, 3), (0, 0, 3), (0, 0, 60)], [], some (0, 0, 0), [], [40, 41, 42])
theorem w663 : vrf GG [(4, g662)] [] 300 4 g663
  [] = true := by decide +kernel
theorem r663 {l : Launch} {D : va_G} {tys : List (ClassId × FieldType)} {A : Nat → Prop} {ad : Nat → Nat} (hAD : ∀ i : Nat, ad (1000 + i) = D.2 1000 i) : CRok l D tys A ad GG 5 g663 := CR_of_vrf (dep := 4) hAD (List.forall_mem_cons.mpr ⟨r662 hAD, fun c hc => by cases hc⟩) T2OK_nil w663
def g664 : CR := (338, [(2, 90, 90), (0, (-2147483648), (-1)), (0, (-2147483648), 2147483647), (0, (-2147483648), 2147483647)], [], some (0, (-2), (-2)), [], [])
theorem w664 : vrf GG [] [] 300 2 g664
  [] = true := by decide +kernel
theorem r664 {l : Launch} {D : va_G} {tys : List (ClassId × FieldType)} {A : Nat → Prop} {ad : Nat → Nat} (hAD : ∀ i : Nat, ad (1000 + i) = D.2 1000 i) : CRok l D tys A ad GG 3 g664 := CR_of_vrf (dep := 2) hAD (fun c hc => by cases hc) T2OK_nil w664
def g665 : CR := (338, [(2, 90, 90), (0, 4, 2147483647), (0, (-2147483648), 2147483647), (0, (-2147483648), 2147483647)], [], some (0, (-2), (-2)), [], [])
theorem w665 : vrf GG [] [] 300 2 g665
  [] = true := by decide +kernel
theorem r665 {l : Launch} {D : va_G} {tys : List (ClassId × FieldType)} {A : Nat → Prop} {ad : Nat → Nat} (hAD : ∀ i : Nat, ad (1000 + i) = D.2 1000 i) : CRok l D tys A ad GG 3 g665 := CR_of_vrf (dep := 2) hAD (fun c hc => by cases hc) T2OK_nil w665
def g666 : CR := (338, [(2, 90, 90), (0, 0, 3), (0, (-2147483648), (-1)), (0, (-2147483648), 2147483647)], [], some (0, (-2), (-2)), [], [])
theorem w666 : vrf GG [] [] 300 2 g666
  [] = true := by decide +kernel
theorem r666 {l : Launch} {D : va_G} {tys : List (ClassId × FieldType)} {A : Nat → Prop} {ad : Nat → Nat} (hAD : ∀ i : Nat, ad (1000 + i) = D.2 1000 i) : CRok l D tys A ad GG 3 g666 := CR_of_vrf (dep := 2) hAD (fun c hc => by cases hc) T2OK_nil w666
def g667 : CR := (338, [(2, 90, 90), (0, 0, 3), (0, 4, 2147483647), (0, (-2147483648), 2147483647)], [], some (0, (-2), (-2)), [], [])
theorem w667 : vrf GG [] [] 300 2 g667
  [] = true := by decide +kernel
theorem r667 {l : Launch} {D : va_G} {tys : List (ClassId × FieldType)} {A : Nat → Prop} {ad : Nat → Nat} (hAD : ∀ i : Nat, ad (1000 + i) = D.2 1000 i) : CRok l D tys A ad GG 3 g667 := CR_of_vrf (dep := 2) hAD (fun c hc => by cases hc) T2OK_nil w667
def g668 : CR := (338, [(2, 90, 90), (0, 0, 3), (0, 0, 3), (0, 61, 2147483647)], [], some (0, (-2), (-2)), [], [])
theorem w668 : vrf GG [] [] 300 2 g668
  [] = true := by decide +kernel
theorem r668 {l : Launch} {D : va_G} {tys : List (ClassId × FieldType)} {A : Nat → Prop} {ad : Nat → Nat} (hAD : ∀ i : Nat, ad (1000 + i) = D.2 1000 i) : CRok l D tys A ad GG 3 g668 := CR_of_vrf (dep := 2) hAD (fun c hc => by cases hc) T2OK_nil w668
def g669 : CR := (338, [(2, 90, 90), (0, 0, 3), (0, 0, 3), (0, (-2147483648), (-1))], [], some (0, (-3), (-3)), [], [])
theorem w669 : vrf GG [] [] 300 2 g669
  [] = true := by decide +kernel
theorem r669 {l : Launch} {D : va_G} {tys : List (ClassId × FieldType)} {A : Nat → Prop} {ad : Nat → Nat} (hAD : ∀ i : Nat, ad (1000 + i) = D.2 1000 i) : CRok l D tys A ad GG 3 g669 := CR_of_vrf (dep := 2) hAD (fun c hc => by cases hc) T2OK_nil w669
def g670 : CR := (338, [(2, 90, 90), (0, 0, 3), (0, 0, 3), (0, 0, 60)], [], some (0, 0, 0), [], [107, 108, 109])
theorem w670 : vrf GG [] [] 300 2 g670
  [(52, [(0, 3), (0, 3), (0, 60), (0, 60)], [(0, rA 90), (1, iA (0, [(1, 0)])), (2, iA (0, [(1, 1)])), (3, iA (0, [(1, 2)])), (4, iA (0, [(1, 3)]))], [], [], (9898, [((-164), 3)]))] = true := by decide +kernel
theorem r670 {l : Launch} {D : va_G} {tys : List (ClassId × FieldType)} {A : Nat → Prop} {ad : Nat → Nat} (hAD : ∀ i : Nat, ad (1000 + i) = D.2 1000 i) : CRok l D tys A ad GG 3 g670 := CR_of_vrf (dep := 2) hAD (fun c hc => by cases hc) T2OK_nil w670
def g671 : CR := (71, [(2, 0, 0), (0, (-2147483648), (-1)), (0, (-2147483648), 2147483647), (1, (-9223372036854775808), 9223372036854775807)], [], some (0, (-2), (-2)), [], [])
theorem w671 : vrf GG [] [] 300 1 g671
  [] = true := by decide +kernel
theorem r671 {l : Launch} {D : va_G} {tys : List (ClassId × FieldType)} {A : Nat → Prop} {ad : Nat → Nat} (hAD : ∀ i : Nat, ad (1000 + i) = D.2 1000 i) : CRok l D tys A ad GG 2 g671 := CR_of_vrf (dep := 1) hAD (fun c hc => by cases hc) T2OK_nil w671
def g672 : CR := (71, [(2, 0, 0), (0, 4, 2147483647), (0, (-2147483648), 2147483647), (1, (-9223372036854775808), 9223372036854775807)], [], some (0, (-2), (-2)), [], [])
theorem w672 : vrf GG [] [] 300 1 g672
  [] = true := by decide +kernel
theorem r672 {l : Launch} {D : va_G} {tys : List (ClassId × FieldType)} {A : Nat → Prop} {ad : Nat → Nat} (hAD : ∀ i : Nat, ad (1000 + i) = D.2 1000 i) : CRok l D tys A ad GG 2 g672 := CR_of_vrf (dep := 1) hAD (fun c hc => by cases hc) T2OK_nil w672
def g673 : CR := (166, [(2, 39, 39), (0, 0, 3), (0, 0, 59), (1, (-9223372036854775808), 9223372036854775807)], [], none, [], [40])
theorem w673 : vrf GG [] [] 300 2 g673
  [] = true := by decide +kernel
theorem r673 {l : Launch} {D : va_G} {tys : List (ClassId × FieldType)} {A : Nat → Prop} {ad : Nat → Nat} (hAD : ∀ i : Nat, ad (1000 + i) = D.2 1000 i) : CRok l D tys A ad GG 3 g673 := CR_of_vrf (dep := 2) hAD (fun c hc => by cases hc) T2OK_nil w673
def g674 : CR := (71, [(2, 0, 0), (0, 0, 3), (0, (-2147483648), 2147483647), (1, (-9223372036854775808), 9223372036854775807)], [], some (0, (-7), 0), [], [40])
theorem w674 : vrf GG [(3, g673)] [] 300 3 g674
  [] = true := by decide +kernel
theorem r674 {l : Launch} {D : va_G} {tys : List (ClassId × FieldType)} {A : Nat → Prop} {ad : Nat → Nat} (hAD : ∀ i : Nat, ad (1000 + i) = D.2 1000 i) : CRok l D tys A ad GG 4 g674 := CR_of_vrf (dep := 3) hAD (List.forall_mem_cons.mpr ⟨r673 hAD, fun c hc => by cases hc⟩) T2OK_nil w674
def g675 : CR := (339, [(2, 90, 90), (0, (-2147483648), (-1)), (0, (-2147483648), 2147483647), (1, (-9223372036854775808), 9223372036854775807)], [], some (0, (-2), (-2)), [], [])
theorem w675 : vrf GG [] [] 300 2 g675
  [] = true := by decide +kernel
theorem r675 {l : Launch} {D : va_G} {tys : List (ClassId × FieldType)} {A : Nat → Prop} {ad : Nat → Nat} (hAD : ∀ i : Nat, ad (1000 + i) = D.2 1000 i) : CRok l D tys A ad GG 3 g675 := CR_of_vrf (dep := 2) hAD (fun c hc => by cases hc) T2OK_nil w675
def g676 : CR := (339, [(2, 90, 90), (0, 4, 2147483647), (0, (-2147483648), 2147483647), (1, (-9223372036854775808), 9223372036854775807)], [], some (0, (-2), (-2)), [], [])
theorem w676 : vrf GG [] [] 300 2 g676
  [] = true := by decide +kernel
theorem r676 {l : Launch} {D : va_G} {tys : List (ClassId × FieldType)} {A : Nat → Prop} {ad : Nat → Nat} (hAD : ∀ i : Nat, ad (1000 + i) = D.2 1000 i) : CRok l D tys A ad GG 3 g676 := CR_of_vrf (dep := 2) hAD (fun c hc => by cases hc) T2OK_nil w676
def g677 : CR := (339, [(2, 90, 90), (0, 0, 3), (0, (-2147483648), 2147483647), (1, (-9223372036854775808), 9223372036854775807)], [], some (0, (-7), 0), [], [109])
theorem w677 : vrf GG [] [] 300 2 g677
  [] = true := by decide +kernel
theorem r677 {l : Launch} {D : va_G} {tys : List (ClassId × FieldType)} {A : Nat → Prop} {ad : Nat → Nat} (hAD : ∀ i : Nat, ad (1000 + i) = D.2 1000 i) : CRok l D tys A ad GG 3 g677 := CR_of_vrf (dep := 2) hAD (fun c hc => by cases hc) T2OK_nil w677
