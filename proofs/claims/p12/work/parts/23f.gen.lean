noncomputable def g558 : CR := (97, [(2, 28, 28), (2, 4, 4), (1, 0, 2000000000)], [], none, [], [31])
theorem w558 : vrf GG [(3, g75), (3, g550)] [] 631 3 g558
  [(11, [(0, 2000000000), (0, 2147483647), (0, 12)], [(0, rA 28), (1, rA 4), (2, lA (0, [(1, 0)])), (4, lA (0, [(1, 1)])), (6, iA (0, [(1, 2)]))], [], [], (34608, [((-2664), 2)])),
  (49, [(0, 2000000000), (0, 2147483647), (0, 11), ((-2147483648), 2147483647), ((-2147483648), 2147483647), (0, 6), (1, 12)], [(0, rA 28), (1, rA 4), (2, lA (0, [(1, 0)])), (4, lA (0, [(1, 1)])), (6, iA (0, [(1, 2)])), (7, iA (0, [(1, 3)])), (8, iA (0, [(1, 4)])), (9, iA (0, [(1, 5)]))], [], [((4, 5), iA (0, [(1, 6)]))], (34076, [((-296), 5), ((-2664), 2)])),
  (123, [(0, 2000000000), (0, 2147483647), (0, 11), ((-2147483648), 2147483647), ((-2147483648), 2147483647), (0, 5), (1, 6), (1, 12)], [(0, rA 28), (1, rA 4), (2, lA (0, [(1, 0)])), (4, lA (0, [(1, 1)])), (6, iA (0, [(1, 2)])), (7, iA (0, [(1, 3)])), (8, iA (0, [(1, 4)])), (9, iA (0, [(1, 5)]))], [], [((4, 4), iA (0, [(1, 6)])), ((4, 5), iA (0, [(1, 7)]))], (34002, [((-296), 5), ((-2664), 2)])),
  (139, [(0, 2000000000), (0, 2147483647), (0, 11), ((-2147483648), 2147483647), (1, 12)], [(0, rA 28), (1, rA 4), (2, lA (0, [(1, 0)])), (4, lA (0, [(1, 1)])), (6, iA (0, [(1, 2)])), (7, iA (0, [(1, 3)]))], [], [((4, 5), iA (0, [(1, 4)]))], (32112, [((-2664), 2)]))] = true := by decide +kernel
theorem r558 {l : Launch} {D : va_G} {tys : List (ClassId × FieldType)} {A : Nat → Prop} {ad : Nat → Nat} (hAD : ∀ i : Nat, ad (1000 + i) = D.2 1000 i) : CRok l D tys A ad GG 4 g558 := CR_of_vrf (dep := 3) hAD (List.forall_mem_cons.mpr ⟨r75 hAD, List.forall_mem_cons.mpr ⟨r550 hAD, fun c hc => by cases hc⟩⟩) T2OK_nil w558
noncomputable def g559 : CR := (64, [(2, 0, 0), (0, (-2147483648), 2147483647), (0, (-2147483648), 2147483647), (0, (-2147483648), 2147483647)], [], some (0, (-2147483648), 2147483647), [], [31])
theorem w559 : vrf GG [(4, g558)] [] 300 4 g559
  [] = true := by decide +kernel
theorem r559 {l : Launch} {D : va_G} {tys : List (ClassId × FieldType)} {A : Nat → Prop} {ad : Nat → Nat} (hAD : ∀ i : Nat, ad (1000 + i) = D.2 1000 i) : CRok l D tys A ad GG 5 g559 := CR_of_vrf (dep := 4) hAD (List.forall_mem_cons.mpr ⟨r558 hAD, fun c hc => by cases hc⟩) T2OK_nil w559
noncomputable def g560 : CR := (333, [(2, 90, 90), (0, (-2147483648), 2147483647), (0, (-2147483648), 2147483647), (0, (-2147483648), 2147483647)], [((90, 22), (0, (-1), (-1))), ((90, 24), (0, 0, 0))], some (0, (-2), 63), [((90, 22), (0, (-1), (-1))), ((90, 24), (0, 0, 0))], [90, 98, 99, 100, 101, 1024])
theorem w560 : vrf GG [(4, g96)] [] 300 6 g560
  [] = true := by decide +kernel
theorem r560 {l : Launch} {D : va_G} {tys : List (ClassId × FieldType)} {A : Nat → Prop} {ad : Nat → Nat} (hAD : ∀ i : Nat, ad (1000 + i) = D.2 1000 i) : CRok l D tys A ad GG 7 g560 := CR_of_vrf (dep := 6) hAD (List.forall_mem_cons.mpr ⟨r96 hAD, fun c hc => by cases hc⟩) T2OK_nil w560
noncomputable def g561 : CR := (97, [(2, 28, 28), (2, 4, 4), (1, 0, 2147483647)], [], none, [], [31])
theorem w561 : vrf GG [(3, g75), (3, g550)] [] 631 3 g561
  [(11, [(0, 2147483647), (0, 2147483647), (0, 12)], [(0, rA 28), (1, rA 4), (2, lA (0, [(1, 0)])), (4, lA (0, [(1, 1)])), (6, iA (0, [(1, 2)]))], [], [], (34608, [((-2664), 2)])),
  (49, [(0, 2147483647), (0, 2147483647), (0, 11), ((-2147483648), 2147483647), ((-2147483648), 2147483647), (0, 6), (1, 12)], [(0, rA 28), (1, rA 4), (2, lA (0, [(1, 0)])), (4, lA (0, [(1, 1)])), (6, iA (0, [(1, 2)])), (7, iA (0, [(1, 3)])), (8, iA (0, [(1, 4)])), (9, iA (0, [(1, 5)]))], [], [((4, 5), iA (0, [(1, 6)]))], (34076, [((-296), 5), ((-2664), 2)])),
  (123, [(0, 2147483647), (0, 2147483647), (0, 11), ((-2147483648), 2147483647), ((-2147483648), 2147483647), (0, 5), (1, 6), (1, 12)], [(0, rA 28), (1, rA 4), (2, lA (0, [(1, 0)])), (4, lA (0, [(1, 1)])), (6, iA (0, [(1, 2)])), (7, iA (0, [(1, 3)])), (8, iA (0, [(1, 4)])), (9, iA (0, [(1, 5)]))], [], [((4, 4), iA (0, [(1, 6)])), ((4, 5), iA (0, [(1, 7)]))], (34002, [((-296), 5), ((-2664), 2)])),
  (139, [(0, 2147483647), (0, 2147483647), (0, 11), ((-2147483648), 2147483647), (1, 12)], [(0, rA 28), (1, rA 4), (2, lA (0, [(1, 0)])), (4, lA (0, [(1, 1)])), (6, iA (0, [(1, 2)])), (7, iA (0, [(1, 3)]))], [], [((4, 5), iA (0, [(1, 4)]))], (32112, [((-2664), 2)]))] = true := by decide +kernel
theorem r561 {l : Launch} {D : va_G} {tys : List (ClassId × FieldType)} {A : Nat → Prop} {ad : Nat → Nat} (hAD : ∀ i : Nat, ad (1000 + i) = D.2 1000 i) : CRok l D tys A ad GG 4 g561 := CR_of_vrf (dep := 3) hAD (List.forall_mem_cons.mpr ⟨r75 hAD, List.forall_mem_cons.mpr ⟨r550 hAD, fun c hc => by cases hc⟩⟩) T2OK_nil w561
noncomputable def g562 : CR := (65, [(2, 0, 0), (0, (-2147483648), 2147483647), (0, (-2147483648), 2147483647), (0, (-2147483648), 2147483647), (0, (-2147483648), 2147483647)], [], some (0, (-2147483648), 2147483647), [], [31])
theorem w562 : vrf GG [(4, g561)] [] 300 4 g562
  [(57, [(0, 2000000000), (1, 20), (0, 5), (0, 5), ((-2147483648), 2147483647), (0, 20), (1, 6)], [(0, rA 0), (1, iA (0, [(1, 0)])), (2, iA (0, [(1, 1)])), (3, iA (0, [(1, 2)])), (4, iA (0, [(1, 3)])), (5, iA (0, [(1, 4)])), (6, iA (0, [(1, 5)]))], [], [((4, 4), iA (0, [(1, 6)]))], (4756, [((-232), 5)])),
  (105, [(0, 2000000000), (1, 20), (0, 5), (0, 5), ((-2147483648), 2147483647), (0, 19), (1, 6)], [(0, rA 0), (1, iA (0, [(1, 0)])), (2, iA (0, [(1, 1)])), (3, iA (0, [(1, 2)])), (4, iA (0, [(1, 3)])), (5, iA (0, [(1, 4)])), (6, iA (0, [(1, 5)]))], [], [((4, 4), iA (0, [(1, 6)]))], (4708, [((-232), 5)]))] = true := by decide +kernel
theorem r562 {l : Launch} {D : va_G} {tys : List (ClassId × FieldType)} {A : Nat → Prop} {ad : Nat → Nat} (hAD : ∀ i : Nat, ad (1000 + i) = D.2 1000 i) : CRok l D tys A ad GG 5 g562 := CR_of_vrf (dep := 4) hAD (List.forall_mem_cons.mpr ⟨r561 hAD, fun c hc => by cases hc⟩) T2OK_nil w562
noncomputable def g563 : CR := (334, [(2, 90, 90), (0, (-2147483648), 2147483647), (0, (-2147483648), 2147483647), (0, (-2147483648), 2147483647), (0, (-2147483648), 2147483647)], [((90, 22), (0, (-1), (-1))), ((90, 24), (0, 0, 0))], some (0, (-2147483648), 2147483647), [((90, 22), (0, (-1), (-1))), ((90, 24), (0, 0, 0))], [90, 98, 99, 100, 101, 1024])
theorem w563 : vrf GG [(4, g96)] [] 300 6 g563
  [(45, [(0, 2000000000), (1, 20), (0, 5), (0, 5), ((-2147483648), 2147483647), (0, 20), (1, 6)], [(0, rA 90), (1, iA (0, [(1, 0)])), (2, iA (0, [(1, 1)])), (3, iA (0, [(1, 2)])), (4, iA (0, [(1, 3)])), (5, iA (0, [(1, 4)])), (6, iA (0, [(1, 5)]))], [], [((90, 22), iA ((-1), [])), ((90, 24), iA (0, [])), ((91, 3), iA (0, [(1, 6)]))], (3772, [((-184), 5)])),
  (78, [(0, 2000000000), (1, 20), (0, 5), (0, 5), ((-2147483648), 2147483647), (0, 19), (0, 1), ((-2147483648), 2147483647), (0, 24), (1, 6)], [(0, rA 90), (1, iA (0, [(1, 0)])), (2, iA (0, [(1, 1)])), (3, iA (0, [(1, 2)])), (4, iA (0, [(1, 3)])), (5, iA (0, [(1, 4)])), (6, iA (0, [(1, 5)]))], [iA (0, [(1, 6)]), iA (0, [(1, 7)])], [((90, 22), iA ((-1), [])), ((90, 24), iA (0, [])), ((91, 2), iA (0, [(1, 8)])), ((91, 3), iA (0, [(1, 9)]))], (3739, [((-184), 5)]))] = true := by decide +kernel
theorem r563 {l : Launch} {D : va_G} {tys : List (ClassId × FieldType)} {A : Nat → Prop} {ad : Nat → Nat} (hAD : ∀ i : Nat, ad (1000 + i) = D.2 1000 i) : CRok l D tys A ad GG 7 g563 := CR_of_vrf (dep := 6) hAD (List.forall_mem_cons.mpr ⟨r96 hAD, fun c hc => by cases hc⟩) T2OK_nil w563
noncomputable def g566 : CR := (171, [(2, 39, 39)], [], some (0, (-2147483648), 2147483647), [], [])
theorem w566 : vrf GG [] [] 300 3 g566
  [(4, [((-2147483648), 2147483647), (0, 4)], [(0, rA 39), (1, iA (0, [(1, 0)])), (2, iA (0, [(1, 1)]))], [], [], (290, [((-60), 1)])),
  (20, [((-2147483648), 2147483647), (0, 3)], [(0, rA 39), (1, iA (0, [(1, 0)])), (2, iA (0, [(1, 1)]))], [], [], (274, [((-60), 1)]))] = true := by decide +kernel
theorem r566 {l : Launch} {D : va_G} {tys : List (ClassId × FieldType)} {A : Nat → Prop} {ad : Nat → Nat} (hAD : ∀ i : Nat, ad (1000 + i) = D.2 1000 i) : CRok l D tys A ad GG 4 g566 := CR_of_vrf (dep := 3) hAD (fun c hc => by cases hc) T2OK_nil w566
noncomputable def g567 : CR := (66, [(2, 0, 0), (0, (-2147483648), 2147483647)], [], some (0, (-2147483648), 2147483647), [], [])
theorem w567 : vrf GG [(4, g566)] [] 300 4 g567
  [] = true := by decide +kernel
theorem r567 {l : Launch} {D : va_G} {tys : List (ClassId × FieldType)} {A : Nat → Prop} {ad : Nat → Nat} (hAD : ∀ i : Nat, ad (1000 + i) = D.2 1000 i) : CRok l D tys A ad GG 5 g567 := CR_of_vrf (dep := 4) hAD (List.forall_mem_cons.mpr ⟨r566 hAD, fun c hc => by cases hc⟩) T2OK_nil w567
noncomputable def g568 : CR := (335, [(2, 90, 90), (0, (-2147483648), 2147483647)], [], some (0, (-2147483648), 2147483647), [], [])
theorem w568 : vrf GG [] [] 300 0 g568
  [(97, [((-2147483648), 2147483647), (0, 4)], [(0, rA 90), (1, iA (7, [])), (2, iA (0, [(1, 0)])), (3, iA (0, [(1, 1)]))], [], [], (1124, [((-264), 1)])),
  (118, [((-2147483648), 2147483647), (0, 3), (0, 1), ((-2147483648), 2147483647)], [(0, rA 90), (1, iA (7, [])), (2, iA (0, [(1, 0)])), (3, iA (0, [(1, 1)]))], [iA (0, [(1, 2)]), iA (0, [(1, 3)])], [], (1103, [((-264), 1)]))] = true := by decide +kernel
theorem r568 {l : Launch} {D : va_G} {tys : List (ClassId × FieldType)} {A : Nat → Prop} {ad : Nat → Nat} (hAD : ∀ i : Nat, ad (1000 + i) = D.2 1000 i) : CRok l D tys A ad GG 1 g568 := CR_of_vrf (dep := 0) hAD (fun c hc => by cases hc) T2OK_nil w568
noncomputable def g655 : CR := (70, [(2, 0, 0), (0, (-2147483648), (-1)), (0, (-2147483648), 2147483647), (0, (-2147483648), 2147483647)], [], some (0, (-2), (-2)), [], [])
theorem w655 : vrf GG [] [] 300 1 g655
  [] = true := by decide +kernel
theorem r655 {l : Launch} {D : va_G} {tys : List (ClassId × FieldType)} {A : Nat → Prop} {ad : Nat → Nat} (hAD : ∀ i : Nat, ad (1000 + i) = D.2 1000 i) : CRok l D tys A ad GG 2 g655 := CR_of_vrf (dep := 1) hAD (fun c hc => by cases hc) T2OK_nil w655
noncomputable def g656 : CR := (70, [(2, 0, 0), (0, 4, 2147483647), (0, (-2147483648), 2147483647), (0, (-2147483648), 2147483647)], [], some (0, (-2), (-2)), [], [])
theorem w656 : vrf GG [] [] 300 1 g656
  [] = true := by decide +kernel
theorem r656 {l : Launch} {D : va_G} {tys : List (ClassId × FieldType)} {A : Nat → Prop} {ad : Nat → Nat} (hAD : ∀ i : Nat, ad (1000 + i) = D.2 1000 i) : CRok l D tys A ad GG 2 g656 := CR_of_vrf (dep := 1) hAD (fun c hc => by cases hc) T2OK_nil w656
noncomputable def g657 : CR := (70, [(2, 0, 0), (0, 0, 3), (0, (-2147483648), (-1)), (0, (-2147483648), 2147483647)], [], some (0, (-2), (-2)), [], [])
theorem w657 : vrf GG [] [] 300 1 g657
  [] = true := by decide +kernel
theorem r657 {l : Launch} {D : va_G} {tys : List (ClassId × FieldType)} {A : Nat → Prop} {ad : Nat → Nat} (hAD : ∀ i : Nat, ad (1000 + i) = D.2 1000 i) : CRok l D tys A ad GG 2 g657 := CR_of_vrf (dep := 1) hAD (fun c hc => by cases hc) T2OK_nil w657
noncomputable def g658 : CR := (70, [(2, 0, 0), (0, 0, 3), (0, 4, 2147483647), (0, (-2147483648), 2147483647)], [], some (0, (-2), (-2)), [], [])
theorem w658 : vrf GG [] [] 300 1 g658
  [] = true := by decide +kernel
theorem r658 {l : Launch} {D : va_G} {tys : List (ClassId × FieldType)} {A : Nat → Prop} {ad : Nat → Nat} (hAD : ∀ i : Nat, ad (1000 + i) = D.2 1000 i) : CRok l D tys A ad GG 2 g658 := CR_of_vrf (dep := 1) hAD (fun c hc => by cases hc) T2OK_nil w658
noncomputable def g659 : CR := (70, [(2, 0, 0), (0, 0, 3), (0, 0, 3), (0, 61, 2147483647)], [], some (0, (-2), (-2)), [], [])
theorem w659 : vrf GG [] [] 300 1 g659
  [] = true := by decide +kernel
theorem r659 {l : Launch} {D : va_G} {tys : List (ClassId × FieldType)} {A : Nat → Prop} {ad : Nat → Nat} (hAD : ∀ i : Nat, ad (1000 + i) = D.2 1000 i) : CRok l D tys A ad GG 2 g659 := CR_of_vrf (dep := 1) hAD (fun c hc => by cases hc) T2OK_nil w659
noncomputable def g660 : CR := (70, [(2, 0, 0), (0, 0, 3), (0, 0, 3), (0, (-2147483648), (-1))], [], some (0, (-3), (-3)), [], [])
theorem w660 : vrf GG [] [] 300 1 g660
  [] = true := by decide +kernel
theorem r660 {l : Launch} {D : va_G} {tys : List (ClassId × FieldType)} {A : Nat → Prop} {ad : Nat → Nat} (hAD : ∀ i : Nat, ad (1000 + i) = D.2 1000 i) : CRok l D tys A ad GG 2 g660 := CR_of_vrf (dep := 1) hAD (fun c hc => by cases hc) T2OK_nil w660
noncomputable def g661 : CR := (166, [(2, 39, 39), (0, 0, 3), (0, 0, 59), (1, 0, 0)], [], none, [], [40])
theorem w661 : vrf GG [] [] 300 2 g661
  [] = true := by decide +kernel
theorem r661 {l : Launch} {D : va_G} {tys : List (ClassId × FieldType)} {A : Nat → Prop} {ad : Nat → Nat} (hAD : ∀ i : Nat, ad (1000 + i) = D.2 1000 i) : CRok l D tys A ad GG 3 g661 := CR_of_vrf (dep := 2) hAD (fun c hc => by cases hc) T2OK_nil w661
noncomputable def g662 : CR := (165, [(2, 39, 39), (0, 0, 3), (0, 0, 3), (0, 0, 60)], [], none, [], [40, 41, 42])
theorem w662 : vrf GG [(3, g661)] [] 300 3 g662
  [(21, [(0, 3), (0, 3), (0, 60), (0, 60)], [(0, rA 39), (1, iA (0, [(1, 0)])), (2, iA (0, [(1, 1)])), (3, iA (0, [(1, 2)])), (4, iA (0, [(1, 3)]))], [], [], (5324, [((-88), 3)]))] = true := by decide +kernel
theorem r662 {l : Launch} {D : va_G} {tys : List (ClassId × FieldType)} {A : Nat → Prop} {ad : Nat → Nat} (hAD : ∀ i : Nat, ad (1000 + i) = D.2 1000 i) : CRok l D tys A ad GG 4 g662 := CR_of_vrf (dep := 3) hAD (List.forall_mem_cons.mpr ⟨r661 hAD, fun c hc => by cases hc⟩) T2OK_nil w662
noncomputable def g663 : CR := (70, [(2, 0, 0), (0, 0, 3), (0, 0, 3), (0, 0, 60)], [], some (0, 0, 0), [], [40, 41, 42])
theorem w663 : vrf GG [(4, g662)] [] 300 4 g663
  [] = true := by decide +kernel
theorem r663 {l : Launch} {D : va_G} {tys : List (ClassId × FieldType)} {A : Nat → Prop} {ad : Nat → Nat} (hAD : ∀ i : Nat, ad (1000 + i) = D.2 1000 i) : CRok l D tys A ad GG 5 g663 := CR_of_vrf (dep := 4) hAD (List.forall_mem_cons.mpr ⟨r662 hAD, fun c hc => by cases hc⟩) T2OK_nil w663
noncomputable def g664 : CR := (338, [(2, 90, 90), (0, (-2147483648), (-1)), (0, (-2147483648), 2147483647), (0, (-2147483648), 2147483647)], [], some (0, (-2), (-2)), [], [])
theorem w664 : vrf GG [] [] 300 2 g664
  [] = true := by decide +kernel
theorem r664 {l : Launch} {D : va_G} {tys : List (ClassId × FieldType)} {A : Nat → Prop} {ad : Nat → Nat} (hAD : ∀ i : Nat, ad (1000 + i) = D.2 1000 i) : CRok l D tys A ad GG 3 g664 := CR_of_vrf (dep := 2) hAD (fun c hc => by cases hc) T2OK_nil w664
noncomputable def g665 : CR := (338, [(2, 90, 90), (0, 4, 2147483647), (0, (-2147483648), 2147483647), (0, (-2147483648), 2147483647)], [], some (0, (-2), (-2)), [], [])
theorem w665 : vrf GG [] [] 300 2 g665
  [] = true := by decide +kernel
theorem r665 {l : Launch} {D : va_G} {tys : List (ClassId × FieldType)} {A : Nat → Prop} {ad : Nat → Nat} (hAD : ∀ i : Nat, ad (1000 + i) = D.2 1000 i) : CRok l D tys A ad GG 3 g665 := CR_of_vrf (dep := 2) hAD (fun c hc => by cases hc) T2OK_nil w665
noncomputable def g666 : CR := (338, [(2, 90, 90), (0, 0, 3), (0, (-2147483648), (-1)), (0, (-2147483648), 2147483647)], [], some (0, (-2), (-2)), [], [])
theorem w666 : vrf GG [] [] 300 2 g666
  [] = true := by decide +kernel
theorem r666 {l : Launch} {D : va_G} {tys : List (ClassId × FieldType)} {A : Nat → Prop} {ad : Nat → Nat} (hAD : ∀ i : Nat, ad (1000 + i) = D.2 1000 i) : CRok l D tys A ad GG 3 g666 := CR_of_vrf (dep := 2) hAD (fun c hc => by cases hc) T2OK_nil w666
noncomputable def g667 : CR := (338, [(2, 90, 90), (0, 0, 3), (0, 4, 2147483647), (0, (-2147483648), 2147483647)], [], some (0, (-2), (-2)), [], [])
theorem w667 : vrf GG [] [] 300 2 g667
  [] = true := by decide +kernel
theorem r667 {l : Launch} {D : va_G} {tys : List (ClassId × FieldType)} {A : Nat → Prop} {ad : Nat → Nat} (hAD : ∀ i : Nat, ad (1000 + i) = D.2 1000 i) : CRok l D tys A ad GG 3 g667 := CR_of_vrf (dep := 2) hAD (fun c hc => by cases hc) T2OK_nil w667
noncomputable def g668 : CR := (338, [(2, 90, 90), (0, 0, 3), (0, 0, 3), (0, 61, 2147483647)], [], some (0, (-2), (-2)), [], [])
theorem w668 : vrf GG [] [] 300 2 g668
  [] = true := by decide +kernel
theorem r668 {l : Launch} {D : va_G} {tys : List (ClassId × FieldType)} {A : Nat → Prop} {ad : Nat → Nat} (hAD : ∀ i : Nat, ad (1000 + i) = D.2 1000 i) : CRok l D tys A ad GG 3 g668 := CR_of_vrf (dep := 2) hAD (fun c hc => by cases hc) T2OK_nil w668
noncomputable def g669 : CR := (338, [(2, 90, 90), (0, 0, 3), (0, 0, 3), (0, (-2147483648), (-1))], [], some (0, (-3), (-3)), [], [])
theorem w669 : vrf GG [] [] 300 2 g669
  [] = true := by decide +kernel
theorem r669 {l : Launch} {D : va_G} {tys : List (ClassId × FieldType)} {A : Nat → Prop} {ad : Nat → Nat} (hAD : ∀ i : Nat, ad (1000 + i) = D.2 1000 i) : CRok l D tys A ad GG 3 g669 := CR_of_vrf (dep := 2) hAD (fun c hc => by cases hc) T2OK_nil w669
noncomputable def g670 : CR := (338, [(2, 90, 90), (0, 0, 3), (0, 0, 3), (0, 0, 60)], [], some (0, 0, 0), [], [107, 108, 109])
theorem w670 : vrf GG [] [] 300 2 g670
  [(52, [(0, 3), (0, 3), (0, 60), (0, 60)], [(0, rA 90), (1, iA (0, [(1, 0)])), (2, iA (0, [(1, 1)])), (3, iA (0, [(1, 2)])), (4, iA (0, [(1, 3)]))], [], [], (9898, [((-164), 3)]))] = true := by decide +kernel
theorem r670 {l : Launch} {D : va_G} {tys : List (ClassId × FieldType)} {A : Nat → Prop} {ad : Nat → Nat} (hAD : ∀ i : Nat, ad (1000 + i) = D.2 1000 i) : CRok l D tys A ad GG 3 g670 := CR_of_vrf (dep := 2) hAD (fun c hc => by cases hc) T2OK_nil w670
noncomputable def g671 : CR := (71, [(2, 0, 0), (0, (-2147483648), (-1)), (0, (-2147483648), 2147483647), (1, (-9223372036854775808), 9223372036854775807)], [], some (0, (-2), (-2)), [], [])
theorem w671 : vrf GG [] [] 300 1 g671
  [] = true := by decide +kernel
theorem r671 {l : Launch} {D : va_G} {tys : List (ClassId × FieldType)} {A : Nat → Prop} {ad : Nat → Nat} (hAD : ∀ i : Nat, ad (1000 + i) = D.2 1000 i) : CRok l D tys A ad GG 2 g671 := CR_of_vrf (dep := 1) hAD (fun c hc => by cases hc) T2OK_nil w671
noncomputable def g672 : CR := (71, [(2, 0, 0), (0, 4, 2147483647), (0, (-2147483648), 2147483647), (1, (-9223372036854775808), 9223372036854775807)], [], some (0, (-2), (-2)), [], [])
theorem w672 : vrf GG [] [] 300 1 g672
  [] = true := by decide +kernel
theorem r672 {l : Launch} {D : va_G} {tys : List (ClassId × FieldType)} {A : Nat → Prop} {ad : Nat → Nat} (hAD : ∀ i : Nat, ad (1000 + i) = D.2 1000 i) : CRok l D tys A ad GG 2 g672 := CR_of_vrf (dep := 1) hAD (fun c hc => by cases hc) T2OK_nil w672
noncomputable def g673 : CR := (166, [(2, 39, 39), (0, 0, 3), (0, 0, 59), (1, (-9223372036854775808), 9223372036854775807)], [], none, [], [40])
theorem w673 : vrf GG [] [] 300 2 g673
  [] = true := by decide +kernel
theorem r673 {l : Launch} {D : va_G} {tys : List (ClassId × FieldType)} {A : Nat → Prop} {ad : Nat → Nat} (hAD : ∀ i : Nat, ad (1000 + i) = D.2 1000 i) : CRok l D tys A ad GG 3 g673 := CR_of_vrf (dep := 2) hAD (fun c hc => by cases hc) T2OK_nil w673
noncomputable def g674 : CR := (71, [(2, 0, 0), (0, 0, 3), (0, (-2147483648), 2147483647), (1, (-9223372036854775808), 9223372036854775807)], [], some (0, (-7), 0), [], [40])
theorem w674 : vrf GG [(3, g673)] [] 300 3 g674
  [] = true := by decide +kernel
theorem r674 {l : Launch} {D : va_G} {tys : List (ClassId × FieldType)} {A : Nat → Prop} {ad : Nat → Nat} (hAD : ∀ i : Nat, ad (1000 + i) = D.2 1000 i) : CRok l D tys A ad GG 4 g674 := CR_of_vrf (dep := 3) hAD (List.forall_mem_cons.mpr ⟨r673 hAD, fun c hc => by cases hc⟩) T2OK_nil w674
noncomputable def g675 : CR := (339, [(2, 90, 90), (0, (-2147483648), (-1)), (0, (-2147483648), 2147483647), (1, (-9223372036854775808), 9223372036854775807)], [], some (0, (-2), (-2)), [], [])
theorem w675 : vrf GG [] [] 300 2 g675
  [] = true := by decide +kernel
theorem r675 {l : Launch} {D : va_G} {tys : List (ClassId × FieldType)} {A : Nat → Prop} {ad : Nat → Nat} (hAD : ∀ i : Nat, ad (1000 + i) = D.2 1000 i) : CRok l D tys A ad GG 3 g675 := CR_of_vrf (dep := 2) hAD (fun c hc => by cases hc) T2OK_nil w675
noncomputable def g676 : CR := (339, [(2, 90, 90), (0, 4, 2147483647), (0, (-2147483648), 2147483647), (1, (-9223372036854775808), 9223372036854775807)], [], some (0, (-2), (-2)), [], [])
theorem w676 : vrf GG [] [] 300 2 g676
  [] = true := by decide +kernel
theorem r676 {l : Launch} {D : va_G} {tys : List (ClassId × FieldType)} {A : Nat → Prop} {ad : Nat → Nat} (hAD : ∀ i : Nat, ad (1000 + i) = D.2 1000 i) : CRok l D tys A ad GG 3 g676 := CR_of_vrf (dep := 2) hAD (fun c hc => by cases hc) T2OK_nil w676
noncomputable def g677 : CR := (339, [(2, 90, 90), (0, 0, 3), (0, (-2147483648), 2147483647), (1, (-9223372036854775808), 9223372036854775807)], [], some (0, (-7), 0), [], [109])
theorem w677 : vrf GG [] [] 300 2 g677
  [] = true := by decide +kernel
theorem r677 {l : Launch} {D : va_G} {tys : List (ClassId × FieldType)} {A : Nat → Prop} {ad : Nat → Nat} (hAD : ∀ i : Nat, ad (1000 + i) = D.2 1000 i) : CRok l D tys A ad GG 3 g677 := CR_of_vrf (dep := 2) hAD (fun c hc => by cases hc) T2OK_nil w677
