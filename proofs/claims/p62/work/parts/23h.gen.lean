def g595 : CR := (196, [(2, 90, 90), (0, 1, 1)], [], some (0, 0, 0), [], [92, 93])
theorem w595 : vrf GG [] [] 5227 1 g595
  [] = true := by decide +kernel
theorem r595 {l : Launch} {D : va_G} {tys : List (ClassId × FieldType)} {A : Nat → Prop} {ad : Nat → Nat} (hAD : ∀ i : Nat, ad (1000 + i) = D.2 1000 i) : CRok l D tys A ad GG 2 g595 := CR_of_vrf (dep := 1) hAD (fun c hc => by cases hc) T2OK_nil w595
def g596 : CR := (196, [(2, 90, 90), (0, 2, 2)], [], some (0, 0, 0), [], [92, 93])
theorem w596 : vrf GG [] [] 5227 1 g596
  [] = true := by decide +kernel
theorem r596 {l : Launch} {D : va_G} {tys : List (ClassId × FieldType)} {A : Nat → Prop} {ad : Nat → Nat} (hAD : ∀ i : Nat, ad (1000 + i) = D.2 1000 i) : CRok l D tys A ad GG 2 g596 := CR_of_vrf (dep := 1) hAD (fun c hc => by cases hc) T2OK_nil w596
def g597 : CR := (68, [(2, 0, 0), (0, (-2147483648), (-1))], [], some (0, (-2), (-2)), [], [])
theorem w597 : vrf GG [] [] 300 1 g597
  [] = true := by decide +kernel
theorem r597 {l : Launch} {D : va_G} {tys : List (ClassId × FieldType)} {A : Nat → Prop} {ad : Nat → Nat} (hAD : ∀ i : Nat, ad (1000 + i) = D.2 1000 i) : CRok l D tys A ad GG 2 g597 := CR_of_vrf (dep := 1) hAD (fun c hc => by cases hc) T2OK_nil w597
def g598 : CR := (68, [(2, 0, 0), (0, 3, 2147483647)], [], some (0, (-2), (-2)), [], [])
theorem w598 : vrf GG [] [] 300 1 g598
  [] = true := by decide +kernel
theorem r598 {l : Launch} {D : va_G} {tys : List (ClassId × FieldType)} {A : Nat → Prop} {ad : Nat → Nat} (hAD : ∀ i : Nat, ad (1000 + i) = D.2 1000 i) : CRok l D tys A ad GG 2 g598 := CR_of_vrf (dep := 1) hAD (fun c hc => by cases hc) T2OK_nil w598
def g599 : CR := (150, [(2, 55, 55), (2, 5, 5)], [], none, [], [5])
theorem w599 : vrf GG [] [] 300 0 g599
  [(2, [(0, 6)], [(0, rA 55), (1, rA 5), (2, iA (0, [(1, 0)]))], [], [], (400, [((-58), 0)]))] = true := by decide +kernel
theorem r599 {l : Launch} {D : va_G} {tys : List (ClassId × FieldType)} {A : Nat → Prop} {ad : Nat → Nat} (hAD : ∀ i : Nat, ad (1000 + i) = D.2 1000 i) : CRok l D tys A ad GG 1 g599 := CR_of_vrf (dep := 0) hAD (fun c hc => by cases hc) T2OK_nil w599
def g600 : CR := (150, [(2, 56, 56), (2, 6, 6)], [], none, [], [6])
theorem w600 : vrf GG [] [] 300 0 g600
  [(2, [(0, 36)], [(0, rA 56), (1, rA 6), (2, iA (0, [(1, 0)]))], [], [], (2140, [((-58), 0)]))] = true := by decide +kernel
theorem r600 {l : Launch} {D : va_G} {tys : List (ClassId × FieldType)} {A : Nat → Prop} {ad : Nat → Nat} (hAD : ∀ i : Nat, ad (1000 + i) = D.2 1000 i) : CRok l D tys A ad GG 1 g600 := CR_of_vrf (dep := 0) hAD (fun c hc => by cases hc) T2OK_nil w600
def g601 : CR := (150, [(2, 57, 57), (2, 7, 7)], [], none, [], [7])
theorem w601 : vrf GG [] [] 300 0 g601
  [(2, [(0, 6)], [(0, rA 57), (1, rA 7), (2, iA (0, [(1, 0)]))], [], [], (400, [((-58), 0)]))] = true := by decide +kernel
theorem r601 {l : Launch} {D : va_G} {tys : List (ClassId × FieldType)} {A : Nat → Prop} {ad : Nat → Nat} (hAD : ∀ i : Nat, ad (1000 + i) = D.2 1000 i) : CRok l D tys A ad GG 1 g601 := CR_of_vrf (dep := 0) hAD (fun c hc => by cases hc) T2OK_nil w601
def g602 : CR := (150, [(2, 58, 58), (2, 8, 8)], [], none, [], [8])
theorem w602 : vrf GG [] [] 300 0 g602
  [(2, [(0, 6)], [(0, rA 58), (1, rA 8), (2, iA (0, [(1, 0)]))], [], [], (400, [((-58), 0)]))] = true := by decide +kernel
theorem r602 {l : Launch} {D : va_G} {tys : List (ClassId × FieldType)} {A : Nat → Prop} {ad : Nat → Nat} (hAD : ∀ i : Nat, ad (1000 + i) = D.2 1000 i) : CRok l D tys A ad GG 1 g602 := CR_of_vrf (dep := 0) hAD (fun c hc => by cases hc) T2OK_nil w602
def g603 : CR := (150, [(2, 59, 59), (2, 9, 9)], [], none, [], [9])
theorem w603 : vrf GG [] [] 300 0 g603
  [(2, [(0, 6)], [(0, rA 59), (1, rA 9), (2, iA (0, [(1, 0)]))], [], [], (400, [((-58), 0)]))] = true := by decide +kernel
theorem r603 {l : Launch} {D : va_G} {tys : List (ClassId × FieldType)} {A : Nat → Prop} {ad : Nat → Nat} (hAD : ∀ i : Nat, ad (1000 + i) = D.2 1000 i) : CRok l D tys A ad GG 1 g603 := CR_of_vrf (dep := 0) hAD (fun c hc => by cases hc) T2OK_nil w603
def g604 : CR := (150, [(2, 60, 60), (2, 10, 10)], [], none, [], [10])
theorem w604 : vrf GG [] [] 300 0 g604
  [(2, [(0, 144)], [(0, rA 60), (1, rA 10), (2, iA (0, [(1, 0)]))], [], [], (8404, [((-58), 0)]))] = true := by decide +kernel
theorem r604 {l : Launch} {D : va_G} {tys : List (ClassId × FieldType)} {A : Nat → Prop} {ad : Nat → Nat} (hAD : ∀ i : Nat, ad (1000 + i) = D.2 1000 i) : CRok l D tys A ad GG 1 g604 := CR_of_vrf (dep := 0) hAD (fun c hc => by cases hc) T2OK_nil w604
def g605 : CR := (150, [(2, 61, 61), (2, 11, 11)], [], none, [], [11])
theorem w605 : vrf GG [] [] 300 0 g605
  [(2, [(0, 36)], [(0, rA 61), (1, rA 11), (2, iA (0, [(1, 0)]))], [], [], (2140, [((-58), 0)]))] = true := by decide +kernel
theorem r605 {l : Launch} {D : va_G} {tys : List (ClassId × FieldType)} {A : Nat → Prop} {ad : Nat → Nat} (hAD : ∀ i : Nat, ad (1000 + i) = D.2 1000 i) : CRok l D tys A ad GG 1 g605 := CR_of_vrf (dep := 0) hAD (fun c hc => by cases hc) T2OK_nil w605
def g606 : CR := (150, [(2, 62, 62), (2, 12, 12)], [], none, [], [12])
theorem w606 : vrf GG [] [] 300 0 g606
  [(2, [(0, 12)], [(0, rA 62), (1, rA 12), (2, iA (0, [(1, 0)]))], [], [], (748, [((-58), 0)]))] = true := by decide +kernel
theorem r606 {l : Launch} {D : va_G} {tys : List (ClassId × FieldType)} {A : Nat → Prop} {ad : Nat → Nat} (hAD : ∀ i : Nat, ad (1000 + i) = D.2 1000 i) : CRok l D tys A ad GG 1 g606 := CR_of_vrf (dep := 0) hAD (fun c hc => by cases hc) T2OK_nil w606
def g607 : CR := (150, [(2, 63, 63), (2, 13, 13)], [], none, [], [13])
theorem w607 : vrf GG [] [] 300 0 g607
  [(2, [(0, 12)], [(0, rA 63), (1, rA 13), (2, iA (0, [(1, 0)]))], [], [], (748, [((-58), 0)]))] = true := by decide +kernel
theorem r607 {l : Launch} {D : va_G} {tys : List (ClassId × FieldType)} {A : Nat → Prop} {ad : Nat → Nat} (hAD : ∀ i : Nat, ad (1000 + i) = D.2 1000 i) : CRok l D tys A ad GG 1 g607 := CR_of_vrf (dep := 0) hAD (fun c hc => by cases hc) T2OK_nil w607
def g608 : CR := (150, [(2, 64, 64), (2, 14, 14)], [], none, [], [14])
theorem w608 : vrf GG [] [] 300 0 g608
  [(2, [(0, 12)], [(0, rA 64), (1, rA 14), (2, iA (0, [(1, 0)]))], [], [], (748, [((-58), 0)]))] = true := by decide +kernel
theorem r608 {l : Launch} {D : va_G} {tys : List (ClassId × FieldType)} {A : Nat → Prop} {ad : Nat → Nat} (hAD : ∀ i : Nat, ad (1000 + i) = D.2 1000 i) : CRok l D tys A ad GG 1 g608 := CR_of_vrf (dep := 0) hAD (fun c hc => by cases hc) T2OK_nil w608
def g609 : CR := (150, [(2, 65, 65), (2, 15, 15)], [], none, [], [15])
theorem w609 : vrf GG [] [] 300 0 g609
  [(2, [(0, 12)], [(0, rA 65), (1, rA 15), (2, iA (0, [(1, 0)]))], [], [], (748, [((-58), 0)]))] = true := by decide +kernel
theorem r609 {l : Launch} {D : va_G} {tys : List (ClassId × FieldType)} {A : Nat → Prop} {ad : Nat → Nat} (hAD : ∀ i : Nat, ad (1000 + i) = D.2 1000 i) : CRok l D tys A ad GG 1 g609 := CR_of_vrf (dep := 0) hAD (fun c hc => by cases hc) T2OK_nil w609
def g610 : CR := (68, [(2, 0, 0), (0, 0, 0)], [], some (0, (-2147483648), 2147483647), [], [4, 5, 6, 7, 8, 9, 10, 11, 12, 13, 14, 15, 29, 30, 31, 32, 33, 34, 35])
theorem w610 : vrf GG [(4, g66), (1, g599), (1, g600), (1, g601), (1, g602), (1, g603), (1, g604), (1, g605), (1, g606), (1, g607), (1, g608), (1, g609), (5, g64)] [] 300 6 g610
  [] = true := by decide +kernel
theorem r610 {l : Launch} {D : va_G} {tys : List (ClassId × FieldType)} {A : Nat → Prop} {ad : Nat → Nat} (hAD : ∀ i : Nat, ad (1000 + i) = D.2 1000 i) : CRok l D tys A ad GG 7 g610 := CR_of_vrf (dep := 6) hAD (List.forall_mem_cons.mpr ⟨r66 hAD, List.forall_mem_cons.mpr ⟨r599 hAD, List.forall_mem_cons.mpr ⟨r600 hAD, List.forall_mem_cons.mpr ⟨r601 hAD, List.forall_mem_cons.mpr ⟨r602 hAD, List.forall_mem_cons.mpr ⟨r603 hAD, List.forall_mem_cons.mpr ⟨r604 hAD, List.forall_mem_cons.mpr ⟨r605 hAD, List.forall_mem_cons.mpr ⟨r606 hAD, List.forall_mem_cons.mpr ⟨r607 hAD, List.forall_mem_cons.mpr ⟨r608 hAD, List.forall_mem_cons.mpr ⟨r609 hAD, List.forall_mem_cons.mpr ⟨r64 hAD, fun c hc => by cases hc⟩⟩⟩⟩⟩⟩⟩⟩⟩⟩⟩⟩⟩) T2OK_nil w610
def g611 : CR := (150, [(2, 67, 67), (2, 5, 5)], [], none, [], [5])
theorem w611 : vrf GG [] [] 300 0 g611
  [(2, [(0, 6)], [(0, rA 67), (1, rA 5), (2, iA (0, [(1, 0)]))], [], [], (400, [((-58), 0)]))] = true := by decide +kernel
theorem r611 {l : Launch} {D : va_G} {tys : List (ClassId × FieldType)} {A : Nat → Prop} {ad : Nat → Nat} (hAD : ∀ i : Nat, ad (1000 + i) = D.2 1000 i) : CRok l D tys A ad GG 1 g611 := CR_of_vrf (dep := 0) hAD (fun c hc => by cases hc) T2OK_nil w611
def g612 : CR := (150, [(2, 68, 68), (2, 6, 6)], [], none, [], [6])
theorem w612 : vrf GG [] [] 300 0 g612
  [(2, [(0, 36)], [(0, rA 68), (1, rA 6), (2, iA (0, [(1, 0)]))], [], [], (2140, [((-58), 0)]))] = true := by decide +kernel
theorem r612 {l : Launch} {D : va_G} {tys : List (ClassId × FieldType)} {A : Nat → Prop} {ad : Nat → Nat} (hAD : ∀ i : Nat, ad (1000 + i) = D.2 1000 i) : CRok l D tys A ad GG 1 g612 := CR_of_vrf (dep := 0) hAD (fun c hc => by cases hc) T2OK_nil w612
def g613 : CR := (150, [(2, 69, 69), (2, 7, 7)], [], none, [], [7])
theorem w613 : vrf GG [] [] 300 0 g613
  [(2, [(0, 6)], [(0, rA 69), (1, rA 7), (2, iA (0, [(1, 0)]))], [], [], (400, [((-58), 0)]))] = true := by decide +kernel
theorem r613 {l : Launch} {D : va_G} {tys : List (ClassId × FieldType)} {A : Nat → Prop} {ad : Nat → Nat} (hAD : ∀ i : Nat, ad (1000 + i) = D.2 1000 i) : CRok l D tys A ad GG 1 g613 := CR_of_vrf (dep := 0) hAD (fun c hc => by cases hc) T2OK_nil w613
def g614 : CR := (150, [(2, 70, 70), (2, 8, 8)], [], none, [], [8])
theorem w614 : vrf GG [] [] 300 0 g614
  [(2, [(0, 6)], [(0, rA 70), (1, rA 8), (2, iA (0, [(1, 0)]))], [], [], (400, [((-58), 0)]))] = true := by decide +kernel
theorem r614 {l : Launch} {D : va_G} {tys : List (ClassId × FieldType)} {A : Nat → Prop} {ad : Nat → Nat} (hAD : ∀ i : Nat, ad (1000 + i) = D.2 1000 i) : CRok l D tys A ad GG 1 g614 := CR_of_vrf (dep := 0) hAD (fun c hc => by cases hc) T2OK_nil w614
def g615 : CR := (150, [(2, 71, 71), (2, 9, 9)], [], none, [], [9])
theorem w615 : vrf GG [] [] 300 0 g615
  [(2, [(0, 6)], [(0, rA 71), (1, rA 9), (2, iA (0, [(1, 0)]))], [], [], (400, [((-58), 0)]))] = true := by decide +kernel
theorem r615 {l : Launch} {D : va_G} {tys : List (ClassId × FieldType)} {A : Nat → Prop} {ad : Nat → Nat} (hAD : ∀ i : Nat, ad (1000 + i) = D.2 1000 i) : CRok l D tys A ad GG 1 g615 := CR_of_vrf (dep := 0) hAD (fun c hc => by cases hc) T2OK_nil w615
def g616 : CR := (150, [(2, 72, 72), (2, 10, 10)], [], none, [], [10])
theorem w616 : vrf GG [] [] 300 0 g616
  [(2, [(0, 144)], [(0, rA 72), (1, rA 10), (2, iA (0, [(1, 0)]))], [], [], (8404, [((-58), 0)]))] = true := by decide +kernel
theorem r616 {l : Launch} {D : va_G} {tys : List (ClassId × FieldType)} {A : Nat → Prop} {ad : Nat → Nat} (hAD : ∀ i : Nat, ad (1000 + i) = D.2 1000 i) : CRok l D tys A ad GG 1 g616 := CR_of_vrf (dep := 0) hAD (fun c hc => by cases hc) T2OK_nil w616
def g617 : CR := (150, [(2, 73, 73), (2, 11, 11)], [], none, [], [11])
theorem w617 : vrf GG [] [] 300 0 g617
  [(2, [(0, 36)], [(0, rA 73), (1, rA 11), (2, iA (0, [(1, 0)]))], [], [], (2140, [((-58), 0)]))] = true := by decide +kernel
theorem r617 {l : Launch} {D : va_G} {tys : List (ClassId × FieldType)} {A : Nat → Prop} {ad : Nat → Nat} (hAD : ∀ i : Nat, ad (1000 + i) = D.2 1000 i) : CRok l D tys A ad GG 1 g617 := CR_of_vrf (dep := 0) hAD (fun c hc => by cases hc) T2OK_nil w617
def g618 : CR := (150, [(2, 74, 74), (2, 12, 12)], [], none, [], [12])
theorem w618 : vrf GG [] [] 300 0 g618
  [(2, [(0, 12)], [(0, rA 74), (1, rA 12), (2, iA (0, [(1, 0)]))], [], [], (748, [((-58), 0)]))] = true := by decide +kernel
theorem r618 {l : Launch} {D : va_G} {tys : List (ClassId × FieldType)} {A : Nat → Prop} {ad : Nat → Nat} (hAD : ∀ i : Nat, ad (1000 + i) = D.2 1000 i) : CRok l D tys A ad GG 1 g618 := CR_of_vrf (dep := 0) hAD (fun c hc => by cases hc) T2OK_nil w618
def g619 : CR := (150, [(2, 75, 75), (2, 13, 13)], [], none, [], [13])
theorem w619 : vrf GG [] [] 300 0 g619
  [(2, [(0, 12)], [(0, rA 75), (1, rA 13), (2, iA (0, [(1, 0)]))], [], [], (748, [((-58), 0)]))] = true := by decide +kernel
theorem r619 {l : Launch} {D : va_G} {tys : List (ClassId × FieldType)} {A : Nat → Prop} {ad : Nat → Nat} (hAD : ∀ i : Nat, ad (1000 + i) = D.2 1000 i) : CRok l D tys A ad GG 1 g619 := CR_of_vrf (dep := 0) hAD (fun c hc => by cases hc) T2OK_nil w619
def g620 : CR := (150, [(2, 76, 76), (2, 14, 14)], [], none, [], [14])
theorem w620 : vrf GG [] [] 300 0 g620
  [(2, [(0, 12)], [(0, rA 76), (1, rA 14), (2, iA (0, [(1, 0)]))], [], [], (748, [((-58), 0)]))] = true := by decide +kernel
theorem r620 {l : Launch} {D : va_G} {tys : List (ClassId × FieldType)} {A : Nat → Prop} {ad : Nat → Nat} (hAD : ∀ i : Nat, ad (1000 + i) = D.2 1000 i) : CRok l D tys A ad GG 1 g620 := CR_of_vrf (dep := 0) hAD (fun c hc => by cases hc) T2OK_nil w620
def g621 : CR := (150, [(2, 77, 77), (2, 15, 15)], [], none, [], [15])
theorem w621 : vrf GG [] [] 300 0 g621
  [(2, [(0, 12)], [(0, rA 77), (1, rA 15), (2, iA (0, [(1, 0)]))], [], [], (748, [((-58), 0)]))] = true := by decide +kernel
theorem r621 {l : Launch} {D : va_G} {tys : List (ClassId × FieldType)} {A : Nat → Prop} {ad : Nat → Nat} (hAD : ∀ i : Nat, ad (1000 + i) = D.2 1000 i) : CRok l D tys A ad GG 1 g621 := CR_of_vrf (dep := 0) hAD (fun c hc => by cases hc) T2OK_nil w621
def g622 : CR := (68, [(2, 0, 0), (0, 1, 1)], [], some (0, (-2147483648), 2147483647), [], [4, 5, 6, 7, 8, 9, 10, 11, 12, 13, 14, 15, 29, 30, 31, 32, 33, 34, 35])
theorem w622 : vrf GG [(4, g66), (1, g611), (1, g612), (1, g613), (1, g614), (1, g615), (1, g616), (1, g617), (1, g618), (1, g619), (1, g620), (1, g621), (5, g64)] [] 300 6 g622
  [] = true := by decide +kernel
theorem r622 {l : Launch} {D : va_G} {tys : List (ClassId × FieldType)} {A : Nat → Prop} {ad : Nat → Nat} (hAD : ∀ i : Nat, ad (1000 + i) = D.2 1000 i) : CRok l D tys A ad GG 7 g622 := CR_of_vrf (dep := 6) hAD (List.forall_mem_cons.mpr ⟨r66 hAD, List.forall_mem_cons.mpr ⟨r611 hAD, List.forall_mem_cons.mpr ⟨r612 hAD, List.forall_mem_cons.mpr ⟨r613 hAD, List.forall_mem_cons.mpr ⟨r614 hAD, List.forall_mem_cons.mpr ⟨r615 hAD, List.forall_mem_cons.mpr ⟨r616 hAD, List.forall_mem_cons.mpr ⟨r617 hAD, List.forall_mem_cons.mpr ⟨r618 hAD, List.forall_mem_cons.mpr ⟨r619 hAD, List.forall_mem_cons.mpr ⟨r620 hAD, List.forall_mem_cons.mpr ⟨r621 hAD, List.forall_mem_cons.mpr ⟨r64 hAD, fun c hc => by cases hc⟩⟩⟩⟩⟩⟩⟩⟩⟩⟩⟩⟩⟩) T2OK_nil w622
def g623 : CR := (150, [(2, 79, 79), (2, 5, 5)], [], none, [], [5])
theorem w623 : vrf GG [] [] 300 0 g623
  [(2, [(0, 6)], [(0, rA 79), (1, rA 5), (2, iA (0, [(1, 0)]))], [], [], (400, [((-58), 0)]))] = true := by decide +kernel
theorem r623 {l : Launch} {D : va_G} {tys : List (ClassId × FieldType)} {A : Nat → Prop} {ad : Nat → Nat} (hAD : ∀ i : Nat, ad (1000 + i) = D.2 1000 i) : CRok l D tys A ad GG 1 g623 := CR_of_vrf (dep := 0) hAD (fun c hc => by cases hc) T2OK_nil w623
def g624 : CR := (150, [(2, 80, 80), (2, 6, 6)], [], none, [], [6])
theorem w624 : vrf GG [] [] 300 0 g624
  [(2, [(0, 36)], [(0, rA 80), (1, rA 6), (2, iA (0, [(1, 0)]))], [], [], (2140, [((-58), 0)]))] = true := by decide +kernel
theorem r624 {l : Launch} {D : va_G} {tys : List (ClassId × FieldType)} {A : Nat → Prop} {ad : Nat → Nat} (hAD : ∀ i : Nat, ad (1000 + i) = D.2 1000 i) : CRok l D tys A ad GG 1 g624 := CR_of_vrf (dep := 0) hAD (fun c hc => by cases hc) T2OK_nil w624
def g625 : CR := (150, [(2, 81, 81), (2, 7, 7)], [], none, [], [7])
theorem w625 : vrf GG [] [] 300 0 g625
  [(2, [(0, 6)], [(0, rA 81), (1, rA 7), (2, iA (0, [(1, 0)]))], [], [], (400, [((-58), 0)]))] = true := by decide +kernel
theorem r625 {l : Launch} {D : va_G} {tys : List (ClassId × FieldType)} {A : Nat → Prop} {ad : Nat → Nat} (hAD : ∀ i : Nat, ad (1000 + i) = D.2 1000 i) : CRok l D tys A ad GG 1 g625 := CR_of_vrf (dep := 0) hAD (fun c hc => by cases hc) T2OK_nil w625
def g626 : CR := (150, [(2, 82, 82), (2, 8, 8)], [], none, [], [8])
theorem w626 : vrf GG [] [] 300 0 g626
  [(2, [(0, 6)], [(0, rA 82), (1, rA 8), (2, iA (0, [(1, 0)]))], [], [], (400, [((-58), 0)]))] = true := by decide +kernel
theorem r626 {l : Launch} {D : va_G} {tys : List (ClassId × FieldType)} {A : Nat → Prop} {ad : Nat → Nat} (hAD : ∀ i : Nat, ad (1000 + i) = D.2 1000 i) : CRok l D tys A ad GG 1 g626 := CR_of_vrf (dep := 0) hAD (fun c hc => by cases hc) T2OK_nil w626
def g627 : CR := (150, [(2, 83, 83), (2, 9, 9)], [], none, [], [9])
theorem w627 : vrf GG [] [] 300 0 g627
  [(2, [(0, 6)], [(0, rA 83), (1, rA 9), (2, iA (0, [(1, 0)]))], [], [], (400, [((-58), 0)]))] = true := by decide +kernel
theorem r627 {l : Launch} {D : va_G} {tys : List (ClassId × FieldType)} {A : Nat → Prop} {ad : Nat → Nat} (hAD : ∀ i : Nat, ad (1000 + i) = D.2 1000 i) : CRok l D tys A ad GG 1 g627 := CR_of_vrf (dep := 0) hAD (fun c hc => by cases hc) T2OK_nil w627
def g628 : CR := (150, [(2, 84, 84), (2, 10, 10)], [], none, [], [10])
theorem w628 : vrf GG [] [] 300 0 g628
  [(2, [(0, 144)], [(0, rA 84), (1, rA 10), (2, iA (0, [(1, 0)]))], [], [], (8404, [((-58), 0)]))] = true := by decide +kernel
theorem r628 {l : Launch} {D : va_G} {tys : List (ClassId × FieldType)} {A : Nat → Prop} {ad : Nat → Nat} (hAD : ∀ i : Nat, ad (1000 + i) = D.2 1000 i) : CRok l D tys A ad GG 1 g628 := CR_of_vrf (dep := 0) hAD (fun c hc => by cases hc) T2OK_nil w628
def g629 : CR := (150, [(2, 85, 85), (2, 11, 11)], [], none, [], [11])
theorem w629 : vrf GG [] [] 300 0 g629
  [(2, [(0, 36)], [(0, rA 85), (1, rA 11), (2, iA (0, [(1, 0)]))], [], [], (2140, [((-58), 0)]))] = true := by decide +kernel
theorem r629 {l : Launch} {D : va_G} {tys : List (ClassId × FieldType)} {A : Nat → Prop} {ad : Nat → Nat} (hAD : ∀ i : Nat, ad (1000 + i) = D.2 1000 i) : CRok l D tys A ad GG 1 g629 := CR_of_vrf (dep := 0) hAD (fun c hc => by cases hc) T2OK_nil w629
def g630 : CR := (150, [(2, 86, 86), (2, 12, 12)], [], none, [], [12])
theorem w630 : vrf GG [] [] 300 0 g630
  [(2, [(0, 12)], [(0, rA 86), (1, rA 12), (2, iA (0, [(1, 0)]))], [], [], (748, [((-58), 0)]))] = true := by decide +kernel
theorem r630 {l : Launch} {D : va_G} {tys : List (ClassId × FieldType)} {A : Nat → Prop} {ad : Nat → Nat} (hAD : ∀ i : Nat, ad (1000 + i) = D.2 1000 i) : CRok l D tys A ad GG 1 g630 := CR_of_vrf (dep := 0) hAD (fun c hc => by cases hc) T2OK_nil w630
def g631 : CR := (150, [(2, 87, 87), (2, 13, 13)], [], none, [], [13])
theorem w631 : vrf GG [] [] 300 0 g631
  [(2, [(0, 12)], [(0, rA 87), (1, rA 13), (2, iA (0, [(1, 0)]))], [], [], (748, [((-58), 0)]))] = true := by decide +kernel
theorem r631 {l : Launch} {D : va_G} {tys : List (ClassId × FieldType)} {A : Nat → Prop} {ad : Nat → Nat} (hAD : ∀ i : Nat, ad (1000 + i) = D.2 1000 i) : CRok l D tys A ad GG 1 g631 := CR_of_vrf (dep := 0) hAD (fun c hc => by cases hc) T2OK_nil w631
def g632 : CR := (150, [(2, 88, 88), (2, 14, 14)], [], none, [], [14])
theorem w632 : vrf GG [] [] 300 0 g632
  [(2, [(0, 12)], [(0, rA 88), (1, rA 14), (2, iA (0, [(1, 0)]))], [], [], (748, [((-58), 0)]))] = true := by decide +kernel
theorem r632 {l : Launch} {D : va_G} {tys : List (ClassId × FieldType)} {A : Nat → Prop} {ad : Nat → Nat} (hAD : ∀ i : Nat, ad (1000 + i) = D.2 1000 i) : CRok l D tys A ad GG 1 g632 := CR_of_vrf (dep := 0) hAD (fun c hc => by cases hc) T2OK_nil w632
def g633 : CR := (150, [(2, 89, 89), (2, 15, 15)], [], none, [], [15])
theorem w633 : vrf GG [] [] 300 0 g633
  [(2, [(0, 12)], [(0, rA 89), (1, rA 15), (2, iA (0, [(1, 0)]))], [], [], (748, [((-58), 0)]))] = true := by decide +kernel
theorem r633 {l : Launch} {D : va_G} {tys : List (ClassId × FieldType)} {A : Nat → Prop} {ad : Nat → Nat} (hAD : ∀ i : Nat, ad (1000 + i) = D.2 1000 i) : CRok l D tys A ad GG 1 g633 := CR_of_vrf (dep := 0) hAD (fun c hc => by cases hc) T2OK_nil w633
def g634 : CR := (68, [(2, 0, 0), (0, 2, 2)], [], some (0, (-2147483648), 2147483647), [], [4, 5, 6, 7, 8, 9, 10, 11, 12, 13, 14, 15, 29, 30, 31, 32, 33, 34, 35])
theorem w634 : vrf GG [(4, g66), (1, g623), (1, g624), (1, g625), (1, g626), (1, g627), (1, g628), (1, g629), (1, g630), (1, g631), (1, g632), (1, g633), (5, g64)] [] 300 6 g634
  [] = true := by decide +kernel
theorem r634 {l : Launch} {D : va_G} {tys : List (ClassId × FieldType)} {A : Nat → Prop} {ad : Nat → Nat} (hAD : ∀ i : Nat, ad (1000 + i) = D.2 1000 i) : CRok l D tys A ad GG 7 g634 := CR_of_vrf (dep := 6) hAD (List.forall_mem_cons.mpr ⟨r66 hAD, List.forall_mem_cons.mpr ⟨r623 hAD, List.forall_mem_cons.mpr ⟨r624 hAD, List.forall_mem_cons.mpr ⟨r625 hAD, List.forall_mem_cons.mpr ⟨r626 hAD, List.forall_mem_cons.mpr ⟨r627 hAD, List.forall_mem_cons.mpr ⟨r628 hAD, List.forall_mem_cons.mpr ⟨r629 hAD, List.forall_mem_cons.mpr ⟨r630 hAD, List.forall_mem_cons.mpr ⟨r631 hAD, List.forall_mem_cons.mpr ⟨r632 hAD, List.forall_mem_cons.mpr ⟨r633 hAD, List.forall_mem_cons.mpr ⟨r64 hAD, fun c hc => by cases hc⟩⟩⟩⟩⟩⟩⟩⟩⟩⟩⟩⟩⟩) T2OK_nil w634
def g635 : CR := (197, [(2, 90, 90), (0, (-2147483648), (-1))], [], some (0, (-2), (-2)), [], [])
theorem w635 : vrf GG [] [] 300 1 g635
  [] = true := by decide +kernel
theorem r635 {l : Launch} {D : va_G} {tys : List (ClassId × FieldType)} {A : Nat → Prop} {ad : Nat → Nat} (hAD : ∀ i : Nat, ad (1000 + i) = D.2 1000 i) : CRok l D tys A ad GG 2 g635 := CR_of_vrf (dep := 1) hAD (fun c hc => by cases hc) T2OK_nil w635
def g636 : CR := (197, [(2, 90, 90), (0, 3, 2147483647)], [], some (0, (-2), (-2)), [], [])
theorem w636 : vrf GG [] [] 300 1 g636
  [] = true := by decide +kernel
theorem r636 {l : Launch} {D : va_G} {tys : List (ClassId × FieldType)} {A : Nat → Prop} {ad : Nat → Nat} (hAD : ∀ i : Nat, ad (1000 + i) = D.2 1000 i) : CRok l D tys A ad GG 2 g636 := CR_of_vrf (dep := 1) hAD (fun c hc => by cases hc) T2OK_nil w636
