def g639 : CR := (197, [(2, 90, 90), (0, 2, 2)], [], some (0, (-6), 0), [], [91])
theorem w639 : vrf GG [] [] 5229 1 g639
  [] = true := by decide +kernel
theorem r639 {l : Launch} {D : va_G} {tys : List (ClassId × FieldType)} {A : Nat → Prop} {ad : Nat → Nat} (hAD : ∀ i : Nat, ad (1000 + i) = D.2 1000 i) : CRok l D tys A ad GG 2 g639 := CR_of_vrf (dep := 1) hAD (fun c hc => by cases hc) T2OK_nil w639
def g640 : CR := (70, [(2, 0, 0), (0, (-2147483648), (-1)), (0, (-2147483648), 2147483647), (0, (-2147483648), 2147483647)], [], some (0, (-2), (-2)), [], [])
theorem w640 : vrf GG [] [] 300 1 g640
  [] = true := by decide +kernel
theorem r640 {l : Launch} {D : va_G} {tys : List (ClassId × FieldType)} {A : Nat → Prop} {ad : Nat → Nat} (hAD : ∀ i : Nat, ad (1000 + i) = D.2 1000 i) : CRok l D tys A ad GG 2 g640 := CR_of_vrf (dep := 1) hAD (fun c hc => by cases hc) T2OK_nil w640
def g641 : CR := (70, [(2, 0, 0), (0, 4, 2147483647), (0, (-2147483648), 2147483647), (0, (-2147483648), 2147483647)], [], some (0, (-2), (-2)), [], [])
theorem w641 : vrf GG [] [] 300 1 g641
  [] = true := by decide +kernel
theorem r641 {l : Launch} {D : va_G} {tys : List (ClassId × FieldType)} {A : Nat → Prop} {ad : Nat → Nat} (hAD : ∀ i : Nat, ad (1000 + i) = D.2 1000 i) : CRok l D tys A ad GG 2 g641 := CR_of_vrf (dep := 1) hAD (fun c hc => by cases hc) T2OK_nil w641
def g642 : CR := (70, [(2, 0, 0), (0, 0, 3), (0, (-2147483648), (-1)), (0, (-2147483648), 2147483647)], [], some (0, (-2), (-2)), [], [])
theorem w642 : vrf GG [] [] 300 1 g642
  [] = true := by decide +kernel
theorem r642 {l : Launch} {D : va_G} {tys : List (ClassId × FieldType)} {A : Nat → Prop} {ad : Nat → Nat} (hAD : ∀ i : Nat, ad (1000 + i) = D.2 1000 i) : CRok l D tys A ad GG 2 g642 := CR_of_vrf (dep := 1) hAD (fun c hc => by cases hc) T2OK_nil w642
def g643 : CR := (70, [(2, 0, 0), (0, 0, 3), (0, 4, 2147483647), (0, (-2147483648), 2147483647)], [], some (0, (-2), (-2)), [], [])
theorem w643 : vrf GG [] [] 300 1 g643
  [] = true := by decide +kernel
theorem r643 {l : Launch} {D : va_G} {tys : List (ClassId × FieldType)} {A : Nat → Prop} {ad : Nat → Nat} (hAD : ∀ i : Nat, ad (1000 + i) = D.2 1000 i) : CRok l D tys A ad GG 2 g643 := CR_of_vrf (dep := 1) hAD (fun c hc => by cases hc) T2OK_nil w643
def g644 : CR := (70, [(2, 0, 0), (0, 0, 3), (0, 0, 3), (0, 61, 2147483647)], [], some (0, (-2), (-2)), [], [])
theorem w644 : vrf GG [] [] 300 1 g644
  [] = true := by decide +kernel
theorem r644 {l : Launch} {D : va_G} {tys : List (ClassId × FieldType)} {A : Nat → Prop} {ad : Nat → Nat} (hAD : ∀ i : Nat, ad (1000 + i) = D.2 1000 i) : CRok l D tys A ad GG 2 g644 := CR_of_vrf (dep := 1) hAD (fun c hc => by cases hc) T2OK_nil w644
def g645 : CR := (70, [(2, 0, 0), (0, 0, 3), (0, 0, 3), (0, (-2147483648), (-1))], [], some (0, (-3), (-3)), [], [])
theorem w645 : vrf GG [] [] 300 1 g645
  [] = true := by decide +kernel
theorem r645 {l : Launch} {D : va_G} {tys : List (ClassId × FieldType)} {A : Nat → Prop} {ad : Nat → Nat} (hAD : ∀ i : Nat, ad (1000 + i) = D.2 1000 i) : CRok l D tys A ad GG 2 g645 := CR_of_vrf (dep := 1) hAD (fun c hc => by cases hc) T2OK_nil w645
def g646 : CR := (166, [(2, 39, 39), (0, 0, 3), (0, 0, 59), (1, 0, 0)], [], none, [], [40])
theorem w646 : vrf GG [] [] 300 2 g646
  [] = true := by decide +kernel
theorem r646 {l : Launch} {D : va_G} {tys : List (ClassId × FieldType)} {A : Nat → Prop} {ad : Nat → Nat} (hAD : ∀ i : Nat, ad (1000 + i) = D.2 1000 i) : CRok l D tys A ad GG 3 g646 := CR_of_vrf (dep := 2) hAD (fun c hc => by cases hc) T2OK_nil w646
def g647 : CR := (165, [(2, 39, 39), (0, 0, 3), (0, 0, 3), (0, 0, 60)], [], none, [], [40, 41, 42])
theorem w647 : vrf GG [(3, g646)] [] 300 3 g647
  [(21, [(0, 3), (0, 3), (0, 60), (0, 60)], [(0, rA 39), (1, iA (0, [(1, 0)])), (2, iA (0, [(1, 1)])), (3, iA (0, [(1, 2)])), (4, iA (0, [(1, 3)]))], [], [], (5324, [((-88), 3)]))] = true := by decide +kernel
theorem r647 {l : Launch} {D : va_G} {tys : List (ClassId × FieldType)} {A : Nat → Prop} {ad : Nat → Nat} (hAD : ∀ i : Nat, ad (1000 + i) = D.2 1000 i) : CRok l D tys A ad GG 4 g647 := CR_of_vrf (dep := 3) hAD (List.forall_mem_cons.mpr ⟨r646 hAD, fun c hc => by cases hc⟩) T2OK_nil w647
def g648 : CR := (70, [(2, 0, 0), (0, 0, 3), (0, 0, 3), (0, 0, 60)], [], some (0, 0, 0), [], [40, 41, 42])
theorem w648 : vrf GG [(4, g647)] [] 300 4 g648
  [] = true := by decide +kernel
theorem r648 {l : Launch} {D : va_G} {tys : List (ClassId × FieldType)} {A : Nat → Prop} {ad : Nat → Nat} (hAD : ∀ i : Nat, ad (1000 + i) = D.2 1000 i) : CRok l D tys A ad GG 5 g648 := CR_of_vrf (dep := 4) hAD (List.forall_mem_cons.mpr ⟨r647 hAD, fun c hc => by cases hc⟩) T2OK_nil w648
def g649 : CR := (338, [(2, 90, 90), (0, (-2147483648), (-1)), (0, (-2147483648), 2147483647), (0, (-2147483648), 2147483647)], [], some (0, (-2), (-2)), [], [])
theorem w649 : vrf GG [] [] 300 2 g649
  [] = true := by decide +kernel
theorem r649 {l : Launch} {D : va_G} {tys : List (ClassId × FieldType)} {A : Nat → Prop} {ad : Nat → Nat} (hAD : ∀ i : Nat, ad (1000 + i) = D.2 1000 i) : CRok l D tys A ad GG 3 g649 := CR_of_vrf (dep := 2) hAD (fun c hc => by cases hc) T2OK_nil w649
def g650 : CR := (338, [(2, 90, 90), (0, 4, 2147483647), (0, (-2147483648), 2147483647), (0, (-2147483648), 2147483647)], [], some (0, (-2), (-2)), [], [])
theorem w650 : vrf GG [] [] 300 2 g650
  [] = true := by decide +kernel
theorem r650 {l : Launch} {D : va_G} {tys : List (ClassId × FieldType)} {A : Nat → Prop} {ad : Nat → Nat} (hAD : ∀ i : Nat, ad (1000 + i) = D.2 1000 i) : CRok l D tys A ad GG 3 g650 := CR_of_vrf (dep := 2) hAD (fun c hc => by cases hc) T2OK_nil w650
def g651 : CR := (338, [(2, 90, 90), (0, 0, 3), (0, (-2147483648), (-1)), (0, (-2147483648), 2147483647)], [], some (0, (-2), (-2)), [], [])
theorem w651 : vrf GG [] [] 300 2 g651
  [] = true := by decide +kernel
theorem r651 {l : Launch} {D : va_G} {tys : List (ClassId × FieldType)} {A : Nat → Prop} {ad : Nat → Nat} (hAD : ∀ i : Nat, ad (1000 + i) = D.2 1000 i) : CRok l D tys A ad GG 3 g651 := CR_of_vrf (dep := 2) hAD (fun c hc => by cases hc) T2OK_nil w651
def g652 : CR := (338, [(2, 90, 90), (0, 0, 3), (0, 4, 2147483647), (0, (-2147483648), 2147483647)], [], some (0, (-2), (-2)), [], [])
theorem w652 : vrf GG [] [] 300 2 g652
  [] = true := by decide +kernel
theorem r652 {l : Launch} {D : va_G} {tys : List (ClassId × FieldType)} {A : Nat → Prop} {ad : Nat → Nat} (hAD : ∀ i : Nat, ad (1000 + i) = D.2 1000 i) : CRok l D tys A ad GG 3 g652 := CR_of_vrf (dep := 2) hAD (fun c hc => by cases hc) T2OK_nil w652
def g653 : CR := (338, [(2, 90, 90), (0, 0, 3), (0, 0, 3), (0, 61, 2147483647)], [], some (0, (-2), (-2)), [], [])
theorem w653 : vrf GG [] [] 300 2 g653
  [] = true := by decide +kernel
theorem r653 {l : Launch} {D : va_G} {tys : List (ClassId × FieldType)} {A : Nat → Prop} {ad : Nat → Nat} (hAD : ∀ i : Nat, ad (1000 + i) = D.2 1000 i) : CRok l D tys A ad GG 3 g653 := CR_of_vrf (dep := 2) hAD (fun c hc => by cases hc) T2OK_nil w653
def g654 : CR := (338, [(2, 90, 90), (0, 0, 3), (0, 0, 3), (0, (-2147483648), (-1))], [], some (0, (-3), (-3)), [], [])
theorem w654 : vrf GG [] [] 300 2 g654
  [] = true := by decide +kernel
theorem r654 {l : Launch} {D : va_G} {tys : List (ClassId × FieldType)} {A : Nat → Prop} {ad : Nat → Nat} (hAD : ∀ i : Nat, ad (1000 + i) = D.2 1000 i) : CRok l D tys A ad GG 3 g654 := CR_of_vrf (dep := 2) hAD (fun c hc => by cases hc) T2OK_nil w654
def g655 : CR := (338, [(2, 90, 90), (0, 0, 3), (0, 0, 3), (0, 0, 60)], [], some (0, 0, 0), [], [107, 108, 109])
theorem w655 : vrf GG [] [] 300 2 g655
  [(52, [(0, 3), (0, 3), (0, 60), (0, 60)], [(0, rA 90), (1, iA (0, [(1, 0)])), (2, iA (0, [(1, 1)])), (3, iA (0, [(1, 2)])), (4, iA (0, [(1, 3)]))], [], [], (9898, [((-164), 3)]))] = true := by decide +kernel
theorem r655 {l : Launch} {D : va_G} {tys : List (ClassId × FieldType)} {A : Nat → Prop} {ad : Nat → Nat} (hAD : ∀ i : Nat, ad (1000 + i) = D.2 1000 i) : CRok l D tys A ad GG 3 g655 := CR_of_vrf (dep := 2) hAD (fun c hc => by cases hc) T2OK_nil w655
def g656 : CR := (71, [(2, 0, 0), (0, (-2147483648), (-1)), (0, (-2147483648), 2147483647), (1, (-9223372036854775808), 9223372036854775807)], [], some (0, (-2), (-2)), [], [])
theorem w656 : vrf GG [] [] 300 1 g656
  [] = true := by decide +kernel
theorem r656 {l : Launch} {D : va_G} {tys : List (ClassId × FieldType)} {A : Nat → Prop} {ad : Nat → Nat} (hAD : ∀ i : Nat, ad (1000 + i) = D.2 1000 i) : CRok l D tys A ad GG 2 g656 := CR_of_vrf (dep := 1) hAD (fun c hc => by cases hc) T2OK_nil w656
def g657 : CR := (71, [(2, 0, 0), (0, 4, 2147483647), (0, (-2147483648), 2147483647), (1, (-9223372036854775808), 9223372036854775807)], [], some (0, (-2), (-2)), [], [])
theorem w657 : vrf GG [] [] 300 1 g657
  [] = true := by decide +kernel
theorem r657 {l : Launch} {D : va_G} {tys : List (ClassId × FieldType)} {A : Nat → Prop} {ad : Nat → Nat} (hAD : ∀ i : Nat, ad (1000 + i) = D.2 1000 i) : CRok l D tys A ad GG 2 g657 := CR_of_vrf (dep := 1) hAD (fun c hc => by cases hc) T2OK_nil w657
def g658 : CR := (166, [(2, 39, 39), (0, 0, 3), (0, 0, 59), (1, (-9223372036854775808), 9223372036854775807)], [], none, [], [40])
theorem w658 : vrf GG [] [] 300 2 g658
  [] = true := by decide +kernel
theorem r658 {l : Launch} {D : va_G} {tys : List (ClassId × FieldType)} {A : Nat → Prop} {ad : Nat → Nat} (hAD : ∀ i : Nat, ad (1000 + i) = D.2 1000 i) : CRok l D tys A ad GG 3 g658 := CR_of_vrf (dep := 2) hAD (fun c hc => by cases hc) T2OK_nil w658
def g659 : CR := (71, [(2, 0, 0), (0, 0, 3), (0, (-2147483648), 2147483647), (1, (-9223372036854775808), 9223372036854775807)], [], some (0, (-7), 0), [], [40])
theorem w659 : vrf GG [(3, g658)] [] 300 3 g659
  [] = true := by decide +kernel
theorem r659 {l : Launch} {D : va_G} {tys : List (ClassId × FieldType)} {A : Nat → Prop} {ad : Nat → Nat} (hAD : ∀ i : Nat, ad (1000 + i) = D.2 1000 i) : CRok l D tys A ad GG 4 g659 := CR_of_vrf (dep := 3) hAD (List.forall_mem_cons.mpr ⟨r658 hAD, fun c hc => by cases hc⟩) T2OK_nil w659
def g660 : CR := (339, [(2, 90, 90), (0, (-2147483648), (-1)), (0, (-2147483648), 2147483647), (1, (-9223372036854775808), 9223372036854775807)], [], some (0, (-2), (-2)), [], [])
theorem w660 : vrf GG [] [] 300 2 g660
  [] = true := by decide +kernel
theorem r660 {l : Launch} {D : va_G} {tys : List (ClassId × FieldType)} {A : Nat → Prop} {ad : Nat → Nat} (hAD : ∀ i : Nat, ad (1000 + i) = D.2 1000 i) : CRok l D tys A ad GG 3 g660 := CR_of_vrf (dep := 2) hAD (fun c hc => by cases hc) T2OK_nil w660
def g661 : CR := (339, [(2, 90, 90), (0, 4, 2147483647), (0, (-2147483648), 2147483647), (1, (-9223372036854775808), 9223372036854775807)], [], some (0, (-2), (-2)), [], [])
theorem w661 : vrf GG [] [] 300 2 g661
  [] = true := by decide +kernel
theorem r661 {l : Launch} {D : va_G} {tys : List (ClassId × FieldType)} {A : Nat → Prop} {ad : Nat → Nat} (hAD : ∀ i : Nat, ad (1000 + i) = D.2 1000 i) : CRok l D tys A ad GG 3 g661 := CR_of_vrf (dep := 2) hAD (fun c hc => by cases hc) T2OK_nil w661
def g662 : CR := (339, [(2, 90, 90), (0, 0, 3), (0, (-2147483648), 2147483647), (1, (-9223372036854775808), 9223372036854775807)], [], some (0, (-7), 0), [], [109])
theorem w662 : vrf GG [] [] 300 2 g662
  [] = true := by decide +kernel
theorem r662 {l : Launch} {D : va_G} {tys : List (ClassId × FieldType)} {A : Nat → Prop} {ad : Nat → Nat} (hAD : ∀ i : Nat, ad (1000 + i) = D.2 1000 i) : CRok l D tys A ad GG 3 g662 := CR_of_vrf (dep := 2) hAD (fun c hc => by cases hc) T2OK_nil w662
def g663 : CR := (72, [(2, 0, 0), (0, (-2147483648), (-1)), (0, (-2147483648), 2147483647), (0, (-2147483648), 2147483647), (0, (-2147483648), 2147483647), (0, (-2147483648), 2147483647)], [], some (0, (-2), (-2)), [], [])
theorem w663 : vrf GG [] [] 300 1 g663
  [] = true := by decide +kernel
theorem r663 {l : Launch} {D : va_G} {tys : List (ClassId × FieldType)} {A : Nat → Prop} {ad : Nat → Nat} (hAD : ∀ i : Nat, ad (1000 + i) = D.2 1000 i) : CRok l D tys A ad GG 2 g663 := CR_of_vrf (dep := 1) hAD (fun c hc => by cases hc) T2OK_nil w663
def g664 : CR := (72, [(2, 0, 0), (0, 4, 2147483647), (0, (-2147483648), 2147483647), (0, (-2147483648), 2147483647), (0, (-2147483648), 2147483647), (0, (-2147483648), 2147483647)], [], some (0, (-2), (-2)), [], [])
theorem w664 : vrf GG [] [] 300 1 g664
  [] = true := by decide +kernel
theorem r664 {l : Launch} {D : va_G} {tys : List (ClassId × FieldType)} {A : Nat → Prop} {ad : Nat → Nat} (hAD : ∀ i : Nat, ad (1000 + i) = D.2 1000 i) : CRok l D tys A ad GG 2 g664 := CR_of_vrf (dep := 1) hAD (fun c hc => by cases hc) T2OK_nil w664
def g665 : CR := (72, [(2, 0, 0), (0, 0, 3), (0, (-2147483648), 2147483647), (0, (-2147483648), (-1)), (0, (-2147483648), 2147483647), (0, (-2147483648), 2147483647)], [], some (0, (-2), (-2)), [], [])
theorem w665 : vrf GG [] [] 300 1 g665
  [] = true := by decide +kernel
theorem r665 {l : Launch} {D : va_G} {tys : List (ClassId × FieldType)} {A : Nat → Prop} {ad : Nat → Nat} (hAD : ∀ i : Nat, ad (1000 + i) = D.2 1000 i) : CRok l D tys A ad GG 2 g665 := CR_of_vrf (dep := 1) hAD (fun c hc => by cases hc) T2OK_nil w665
def g666 : CR := (72, [(2, 0, 0), (0, 0, 3), (0, (-2147483648), 2147483647), (0, 4, 2147483647), (0, (-2147483648), 2147483647), (0, (-2147483648), 2147483647)], [], some (0, (-2), (-2)), [], [])
theorem w666 : vrf GG [] [] 300 1 g666
  [] = true := by decide +kernel
theorem r666 {l : Launch} {D : va_G} {tys : List (ClassId × FieldType)} {A : Nat → Prop} {ad : Nat → Nat} (hAD : ∀ i : Nat, ad (1000 + i) = D.2 1000 i) : CRok l D tys A ad GG 2 g666 := CR_of_vrf (dep := 1) hAD (fun c hc => by cases hc) T2OK_nil w666
def g667 : CR := (72, [(2, 0, 0), (0, 0, 3), (0, (-2147483648), 2147483647), (0, 0, 3), (0, (-2147483648), 2147483647), (0, (-2147483648), (-1))], [], some (0, (-8), (-6)), [], [])
theorem w667 : vrf GG [] [] 300 3 g667
  [] = true := by decide +kernel
theorem r667 {l : Launch} {D : va_G} {tys : List (ClassId × FieldType)} {A : Nat → Prop} {ad : Nat → Nat} (hAD : ∀ i : Nat, ad (1000 + i) = D.2 1000 i) : CRok l D tys A ad GG 4 g667 := CR_of_vrf (dep := 3) hAD (fun c hc => by cases hc) T2OK_nil w667
def g668 : CR := (72, [(2, 0, 0), (0, 0, 3), (0, (-2147483648), 2147483647), (0, 0, 3), (0, (-2147483648), 2147483647), (0, 61, 2147483647)], [], some (0, (-8), (-6)), [], [])
theorem w668 : vrf GG [] [] 548 3 g668
  [] = true := by decide +kernel
theorem r668 {l : Launch} {D : va_G} {tys : List (ClassId × FieldType)} {A : Nat → Prop} {ad : Nat → Nat} (hAD : ∀ i : Nat, ad (1000 + i) = D.2 1000 i) : CRok l D tys A ad GG 4 g668 := CR_of_vrf (dep := 3) hAD (fun c hc => by cases hc) T2OK_nil w668
def g669 : CR := (169, [(2, 39, 39), (0, 0, 3), (0, 0, 60), (0, 0, 3), (0, 0, 60), (0, 0, 0)], [], none, [], [])
theorem w669 : vrf GG [] [] 300 0 g669
  [(3, [(0, 3), (0, 60), (0, 3), (0, 60)], [(0, rA 39), (1, iA (0, [(1, 0)])), (2, iA (0, [(1, 1)])), (3, iA (0, [(1, 2)])), (4, iA (0, [(1, 3)])), (5, iA (0, [])), (6, iA (0, []))], [], [], (108, []))] = true := by decide +kernel
theorem r669 {l : Launch} {D : va_G} {tys : List (ClassId × FieldType)} {A : Nat → Prop} {ad : Nat → Nat} (hAD : ∀ i : Nat, ad (1000 + i) = D.2 1000 i) : CRok l D tys A ad GG 1 g669 := CR_of_vrf (dep := 0) hAD (fun c hc => by cases hc) T2OK_nil w669
def g670 : CR := (72, [(2, 0, 0), (0, 0, 3), (0, (-2147483648), 2147483647), (0, 0, 3), (0, (-2147483648), 2147483647), (0, 0, 0)], [], some (0, (-8), 0), [], [])
theorem w670 : vrf GG [(1, g669)] [] 782 3 g670
  [] = true := by decide +kernel
theorem r670 {l : Launch} {D : va_G} {tys : List (ClassId × FieldType)} {A : Nat → Prop} {ad : Nat → Nat} (hAD : ∀ i : Nat, ad (1000 + i) = D.2 1000 i) : CRok l D tys A ad GG 4 g670 := CR_of_vrf (dep := 3) hAD (List.forall_mem_cons.mpr ⟨r669 hAD, fun c hc => by cases hc⟩) T2OK_nil w670
def g671 : CR := (169, [(2, 39, 39), (0, 0, 3), (0, 0, 59), (0, 0, 3), (0, 0, 59), (0, 1, 1)], [], none, [], [40])
theorem w671 : vrf GG [(3, g646), (3, g658)] [] 300 3 g671
  [(3, [(0, 3), (0, 59), (0, 3), (0, 59), (0, 1)], [(0, rA 39), (1, iA (0, [(1, 0)])), (2, iA (0, [(1, 1)])), (3, iA (0, [(1, 2)])), (4, iA (0, [(1, 3)])), (5, iA (1, [])), (6, iA (0, [(1, 4)]))], [], [], (224, [((-116), 4)])),
  (28, [(0, 3), (0, 59), (0, 3), (0, 59)], [(0, rA 39), (1, iA (0, [(1, 0)])), (2, iA (0, [(1, 1)])), (3, iA (0, [(1, 2)])), (4, iA (0, [(1, 3)])), (5, iA (1, [])), (6, iA (0, []))], [iA (0, [])], [], (199, []))] = true := by decide +kernel
theorem r671 {l : Launch} {D : va_G} {tys : List (ClassId × FieldType)} {A : Nat → Prop} {ad : Nat → Nat} (hAD : ∀ i : Nat, ad (1000 + i) = D.2 1000 i) : CRok l D tys A ad GG 4 g671 := CR_of_vrf (dep := 3) hAD (List.forall_mem_cons.mpr ⟨r646 hAD, List.forall_mem_cons.mpr ⟨r658 hAD, fun c hc => by cases hc⟩⟩) T2OK_nil w671
def g672 : CR := (72, [(2, 0, 0), (0, 0, 3), (0, (-2147483648), 2147483647), (0, 0, 3), (0, (-2147483648), 2147483647), (0, 1, 1)], [], some (0, (-8), 0), [], [40])
theorem w672 : vrf GG [(4, g671)] [] 782 4 g672
  [] = true := by decide +kernel
theorem r672 {l : Launch} {D : va_G} {tys : List (ClassId × FieldType)} {A : Nat → Prop} {ad : Nat → Nat} (hAD : ∀ i : Nat, ad (1000 + i) = D.2 1000 i) : CRok l D tys A ad GG 5 g672 := CR_of_vrf (dep := 4) hAD (List.forall_mem_cons.mpr ⟨r671 hAD, fun c hc => by cases hc⟩) T2OK_nil w672
def g673 : CR := (169, [(2, 39, 39), (0, 0, 3), (0, 0, 58), (0, 0, 3), (0, 0, 58), (0, 2, 2)], [], none, [], [40])
theorem w673 : vrf GG [(3, g646), (3, g658)] [] 300 3 g673
  [(3, [(0, 3), (0, 58), (0, 3), (0, 58), (0, 2)], [(0, rA 39), (1, iA (0, [(1, 0)])), (2, iA (0, [(1, 1)])), (3, iA (0, [(1, 2)])), (4, iA (0, [(1, 3)])), (5, iA (2, [])), (6, iA (0, [(1, 4)]))], [], [], (340, [((-116), 4)])),
  (28, [(0, 3), (0, 58), (0, 3), (0, 58), (0, 1), (0, 1)], [(0, rA 39), (1, iA (0, [(1, 0)])), (2, iA (0, [(1, 1)])), (3, iA (0, [(1, 2)])), (4, iA (0, [(1, 3)])), (5, iA (2, [])), (6, iA (0, [(1, 4)]))], [iA (0, [(1, 5)])], [], (315, [((-116), 4)]))] = true := by decide +kernel
theorem r673 {l : Launch} {D : va_G} {tys : List (ClassId × FieldType)} {A : Nat → Prop} {ad : Nat → Nat} (hAD : ∀ i : Nat, ad (1000 + i) = D.2 1000 i) : CRok l D tys A ad GG 4 g673 := CR_of_vrf (dep := 3) hAD (List.forall_mem_cons.mpr ⟨r646 hAD, List.forall_mem_cons.mpr ⟨r658 hAD, fun c hc => by cases hc⟩⟩) T2OK_nil w673
def g674 : CR := (72, [(2, 0, 0), (0, 0, 3), (0, (-2147483648), 2147483647), (0, 0, 3), (0, (-2147483648), 2147483647), (0, 2, 2)], [], some (0, (-8), 0), [], [40])
theorem w674 : vrf GG [(4, g673)] [] 782 4 g674
  [] = true := by decide +kernel
theorem r674 {l : Launch} {D : va_G} {tys : List (ClassId × FieldType)} {A : Nat → Prop} {ad : Nat → Nat} (hAD : ∀ i : Nat, ad (1000 + i) = D.2 1000 i) : CRok l D tys A ad GG 5 g674 := CR_of_vrf (dep := 4) hAD (List.forall_mem_cons.mpr ⟨r673 hAD, fun c hc => by cases hc⟩) T2OK_nil w674
def g675 : CR := (169, [(2, 39, 39), (0, 0, 3), (0, 0, 57), (0, 0, 3), (0, 0, 57), (0, 3, 3)], [], none, [], [40])
theorem w675 : vrf GG [(3, g646), (3, g658)] [] 300 3 g675
  [(3, [(0, 3), (0, 57), (0, 3), (0, 57), (0, 3)], [(0, rA 39), (1, iA (0, [(1, 0)])), (2, iA (0, [(1, 1)])), (3, iA (0, [(1, 2)])), (4, iA (0, [(1, 3)])), (5, iA (3, [])), (6, iA (0, [(1, 4)]))], [], [], (456, [((-116), 4)])),
  (28, [(0, 3), (0, 57), (0, 3), (0, 57), (0, 2), (0, 2)], [(0, rA 39), (1, iA (0, [(1, 0)])), (2, iA (0, [(1, 1)])), (3, iA (0, [(1, 2)])), (4, iA (0, [(1, 3)])), (5, iA (3, [])), (6, iA (0, [(1, 4)]))], [iA (0, [(1, 5)])], [], (431, [((-116), 4)]))] = true := by decide +kernel
theorem r675 {l : Launch} {D : va_G} {tys : List (ClassId × FieldType)} {A : Nat → Prop} {ad : Nat → Nat} (hAD : ∀ i : Nat, ad (1000 + i) = D.2 1000 i) : CRok l D tys A ad GG 4 g675 := CR_of_vrf (dep := 3) hAD (List.forall_mem_cons.mpr ⟨r646 hAD, List.forall_mem_cons.mpr ⟨r658 hAD, fun c hc => by cases hc⟩⟩) T2OK_nil w675
def g676 : CR := (72, [(2, 0, 0), (0, 0, 3), (0, (-2147483648), 2147483647), (0, 0, 3), (0, (-2147483648), 2147483647), (0, 3, 3)], [], some (0, (-8), 0), [], [40])
theorem w676 : vrf GG [(4, g675)] [] 782 4 g676
  [] = true := by decide +kernel
theorem r676 {l : Launch} {D : va_G} {tys : List (ClassId × FieldType)} {A : Nat → Prop} {ad : Nat → Nat} (hAD : ∀ i : Nat, ad (1000 + i) = D.2 1000 i) : CRok l D tys A ad GG 5 g676 := CR_of_vrf (dep := 4) hAD (List.forall_mem_cons.mpr ⟨r675 hAD, fun c hc => by cases hc⟩) T2OK_nil w676
def g677 : CR := (169, [(2, 39, 39), (0, 0, 3), (0, 0, 56), (0, 0, 3), (0, 0, 56), (0, 4, 4)], [], none, [], [40])
theorem w677 : vrf GG [(3, g646), (3, g658)] [] 300 3 g677
  [(3, [(0, 3), (0, 56), (0, 3), (0, 56), (0, 4)], [(0, rA 39), (1, iA (0, [(1, 0)])), (2, iA (0, [(1, 1)])), (3, iA (0, [(1, 2)])), (4, iA (0, [(1, 3)])), (5, iA (4, [])), (6, iA (0, [(1, 4)]))], [], [], (572, [((-116), 4)])),
  (28, [(0, 3), (0, 56), (0, 3), (0, 56), (0, 3), (0, 3)], [(0, rA 39), (1, iA (0, [(1, 0)])), (2, iA (0, [(1, 1)])), (3, iA (0, [(1, 2)])), (4, iA (0, [(1, 3)])), (5, iA (4, [])), (6, iA (0, [(1, 4)]))], [iA (0, [(1, 5)])], [], (547, [((-116), 4)]))] = true := by decide +kernel
theorem r677 {l : Launch} {D : va_G} {tys : List (ClassId × FieldType)} {A : Nat → Prop} {ad : Nat → Nat} (hAD : ∀ i : Nat, ad (1000 + i) = D.2 1000 i) : CRok l D tys A ad GG 4 g677 := CR_of_vrf (dep := 3) hAD (List.forall_mem_cons.mpr ⟨r646 hAD, List.forall_mem_cons.mpr ⟨r658 hAD, fun c hc => by cases hc⟩⟩) T2OK_nil w677
def g678 : CR := (72, [(2, 0, 0), (0, 0, 3), (0, (-2147483648), 2147483647), (0, 0, 3), (0, (-2147483648), 2147483647), (0, 4, 4)], [], some (0, (-8), 0), [], [40])
theorem w678 : vrf GG [(4, g677)] [] 782 4 g678
  [] = true := by decide +kernel
theorem r678 {l : Launch} {D : va_G} {tys : List (ClassId × FieldType)} {A : Nat → Prop} {ad : Nat → Nat} (hAD : ∀ i : Nat, ad (1000 + i) = D.2 1000 i) : CRok l D tys A ad GG 5 g678 := CR_of_vrf (dep := 4) hAD (List.forall_mem_cons.mpr ⟨r677 hAD, fun c hc => by cases hc⟩) T2OK_nil w678
def g679 : CR := (169, [(2, 39, 39), (0, 0, 3), (0, 0, 55), (0, 0, 3), (0, 0, 55), (0, 5, 5)], [], none, [], [40])
theorem w679 : vrf GG [(3, g646), (3, g658)] [] 300 3 g679
  [(3, [(0, 3), (0, 55), (0, 3), (0, 55), (0, 5)], [(0, rA 39), (1, iA (0, [(1, 0)])), (2, iA (0, [(1, 1)])), (3, iA (0, [(1, 2)])), (4, iA (0, [(1, 3)])), (5, iA (5, [])), (6, iA (0, [(1, 4)]))], [], [], (688, [((-116), 4)])),
  (28, [(0, 3), (0, 55), (0, 3), (0, 55), (0, 4), (0, 4)], [(0, rA 39), (1, iA (0, [(1, 0)])), (2, iA (0, [(1, 1)])), (3, iA (0, [(1, 2)])), (4, iA (0, [(1, 3)])), (5, iA (5, [])), (6, iA (0, [(1, 4)]))], [iA (0, [(1, 5)])], [], (663, [((-116), 4)]))] = true := by decide +kernel
theorem r679 {l : Launch} {D : va_G} {tys : List (ClassId × FieldType)} {A : Nat → Prop} {ad : Nat → Nat} (hAD : ∀ i : Nat, ad (1000 + i) = D.2 1000 i) : CRok l D tys A ad GG 4 g679 := CR_of_vrf (dep := 3) hAD (List.forall_mem_cons.mpr ⟨r646 hAD, List.forall_mem_cons.mpr ⟨r658 hAD, fun c hc => by cases hc⟩⟩) T2OK_nil w679
def g680 : CR := (72, [(2, 0, 0), (0, 0, 3), (0, (-2147483648), 2147483647), (0, 0, 3), (0, (-2147483648), 2147483647), (0, 5, 5)], [], some (0, (-8), 0), [], [40])
theorem w680 : vrf GG [(4, g679)] [] 782 4 g680
  [] = true := by decide +kernel
theorem r680 {l : Launch} {D : va_G} {tys : List (ClassId × FieldType)} {A : Nat → Prop} {ad : Nat → Nat} (hAD : ∀ i : Nat, ad (1000 + i) = D.2 1000 i) : CRok l D tys A ad GG 5 g680 := CR_of_vrf (dep := 4) hAD (List.forall_mem_cons.mpr ⟨r679 hAD, fun c hc => by cases hc⟩) T2OK_nil w680
def g681 : CR := (169, [(2, 39, 39), (0, 0, 3), (0, 0, 54), (0, 0, 3), (0, 0, 54), (0, 6, 6)], [], none, [], [40])
theorem w681 : vrf GG [(3, g646), (3, g658)] [] 300 3 g681
  [(3, [(0, 3), (0, 54), (0, 3), (0, 54), (0, 6)], [(0, rA 39), (1, iA (0, [(1, 0)])), (2, iA (0, [(1, 1)])), (3, iA (0, [(1, 2)])), (4, iA (0, [(1, 3)])), (5, iA (6, [])), (6, iA (0, [(1, 4)]))], [], [], (804, [((-116), 4)])),
  (28, [(0, 3), (0, 54), (0, 3), (0, 54), (0, 5), (0, 5)], [(0, rA 39), (1, iA (0, [(1, 0)])), (2, iA (0, [(1, 1)])), (3, iA (0, [(1, 2)])), (4, iA (0, [(1, 3)])), (5, iA (6, [])), (6, iA (0, [(1, 4)]))], [iA (0, [(1, 5)])], [], (779, [((-116), 4)]))] = true := by decide +kernel
theorem r681 {l : Launch} {D : va_G} {tys : List (ClassId × FieldType)} {A : Nat → Prop} {ad : Nat → Nat} (hAD : ∀ i : Nat, ad (1000 + i) = D.2 1000 i) : CRok l D tys A ad GG 4 g681 := CR_of_vrf (dep := 3) hAD (List.forall_mem_cons.mpr ⟨r646 hAD, List.forall_mem_cons.mpr ⟨r658 hAD, fun c hc => by cases hc⟩⟩) T2OK_nil w681
def g682 : CR := (72, [(2, 0, 0), (0, 0, 3), (0, (-2147483648), 2147483647), (0, 0, 3), (0, (-2147483648), 2147483647), (0, 6, 6)], [], some (0, (-8), 0), [], [40])
theorem w682 : vrf GG [(4, g681)] [] 782 4 g682
  [] = true := by decide +kernel
theorem r682 {l : Launch} {D : va_G} {tys : List (ClassId × FieldType)} {A : Nat → Prop} {ad : Nat → Nat} (hAD : ∀ i : Nat, ad (1000 + i) = D.2 1000 i) : CRok l D tys A ad GG 5 g682 := CR_of_vrf (dep := 4) hAD (List.forall_mem_cons.mpr ⟨r681 hAD, fun c hc => by cases hc⟩) T2OK_nil w682
def g683 : CR := (169, [(2, 39, 39), (0, 0, 3), (0, 0, 53), (0, 0, 3), (0, 0, 53), (0, 7, 7)], [], none, [], [40])
theorem w683 : vrf GG [(3, g646), (3, g658)] [] 300 3 g683
  [(3, [(0, 3), (0, 53), (0, 3), (0, 53), (0, 7)], [(0, rA 39), (1, iA (0, [(1, 0)])), (2, iA (0, [(1, 1)])), (3, iA (0, [(1, 2)])), (4, iA (0, [(1, 3)])), (5, iA (7, [])), (6, iA (0, [(1, 4)]))], [], [], (920, [((-116), 4)])),
  (28, [(0, 3), (0, 53), (0, 3), (0, 53), (0, 6), (0, 6)], [(0, rA 39), (1, iA (0, [(1, 0)])), (2, iA (0, [(1, 1)])), (3, iA (0, [(1, 2)])), (4, iA (0, [(1, 3)])), (5, iA (7, [])), (6, iA (0, [(1, 4)]))], [iA (0, [(1, 5)])], [], (895, [((-116), 4)]))] = true := by decide +kernel
theorem r683 {l : Launch} {D : va_G} {tys : List (ClassId × FieldType)} {A : Nat → Prop} {ad : Nat → Nat} (hAD : ∀ i : Nat, ad (1000 + i) = D.2 1000 i) : CRok l D tys A ad GG 4 g683 := CR_of_vrf (dep := 3) hAD (List.forall_mem_cons.mpr ⟨r646 hAD, List.forall_mem_cons.mpr ⟨r658 hAD, fun c hc => by cases hc⟩⟩) T2OK_nil w683
def g684 : CR := (72, [(2, 0, 0), (0, 0, 3), (0, (-2147483648), 2147483647), (0, 0, 3), (0, (-2147483648), 2147483647), (0, 7, 7)], [], some (0, (-8), 0), [], [40])
theorem w684 : vrf GG [(4, g683)] [] 782 4 g684
  [] = true := by decide +kernel
theorem r684 {l : Launch} {D : va_G} {tys : List (ClassId × FieldType)} {A : Nat → Prop} {ad : Nat → Nat} (hAD : ∀ i : Nat, ad (1000 + i) = D.2 1000 i) : CRok l D tys A ad GG 5 g684 := CR_of_vrf (dep := 4) hAD (List.forall_mem_cons.mpr ⟨r683 hAD, fun c hc => by cases hc⟩) T2OK_nil w684
def g685 : CR := (169, [(2, 39, 39), (0, 0, 3), (0, 0, 52), (0, 0, 3), (0, 0, 52), (0, 8, 8)], [], none, [], [40])
theorem w685 : vrf GG [(3, g646), (3, g658)] [] 300 3 g685
  [(3, [(0, 3), (0, 52), (0, 3), (0, 52), (0, 8)], [(0, rA 39), (1, iA (0, [(1, 0)])), (2, iA (0, [(1, 1)])), (3, iA (0, [(1, 2)])), (4, iA (0, [(1, 3)])), (5, iA (8, [])), (6, iA (0, [(1, 4)]))], [], [], (1036, [((-116), 4)])),
  (28, [(0, 3), (0, 52), (0, 3), (0, 52), (0, 7), (0, 7)], [(0, rA 39), (1, iA (0, [(1, 0)])), (2, iA (0, [(1, 1)])), (3, iA (0, [(1, 2)])), (4, iA (0, [(1, 3)])), (5, iA (8, [])), (6, iA (0, [(1, 4)]))], [iA (0, [(1, 5)])], [], (1011, [((-116), 4)]))] = true := by decide +kernel
theorem r685 {l : Launch} {D : va_G} {tys : List (ClassId × FieldType)} {A : Nat → Prop} {ad : Nat → Nat} (hAD : ∀ i : Nat, ad (1000 + i) = D.2 1000 i) : CRok l D tys A ad GG 4 g685 := CR_of_vrf (dep := 3) hAD (List.forall_mem_cons.mpr ⟨r646 hAD, List.forall_mem_cons.mpr ⟨r658 hAD, fun c hc => by cases hc⟩⟩) T2OK_nil w685
def g686 : CR := (72, [(2, 0, 0), (0, 0, 3), (0, (-2147483648), 2147483647), (0, 0, 3), (0, (-2147483648), 2147483647), (0, 8, 8)], [], some (0, (-8), 0), [], [40])
theorem w686 : vrf GG [(4, g685)] [] 782 4 g686
  [] = true := by decide +kernel
theorem r686 {l : Launch} {D : va_G} {tys : List (ClassId × FieldType)} {A : Nat → Prop} {ad : Nat → Nat} (hAD : ∀ i : Nat, ad (1000 + i) = D.2 1000 i) : CRok l D tys A ad GG 5 g686 := CR_of_vrf (dep := 4) hAD (List.forall_mem_cons.mpr ⟨r685 hAD, fun c hc => by cases hc⟩) T2OK_nil w686
def g687 : CR := (169, [(2, 39, 39), (0, 0, 3), (0, 0, 51), (0, 0, 3), (0, 0, 51), (0, 9, 9)], [], none, [], [40])
theorem w687 : vrf GG [(3, g646), (3, g658)] [] 300 3 g687
  [(3, [(0, 3), (0, 51), (0, 3), (0, 51), (0, 9)], [(0, rA 39), (1, iA (0, [(1, 0)])), (2, iA (0, [(1, 1)])), (3, iA (0, [(1, 2)])), (4, iA (0, [(1, 3)])), (5, iA (9, [])), (6, iA (0, [(1, 4)]))], [], [], (1152, [((-116), 4)])),
  (28, [(0, 3), (0, 51), (0, 3), (0, 51), (0, 8), (0, 8)], [(0, rA 39), (1, iA (0, [(1, 0)])), (2, iA (0, [(1, 1)])), (3, iA (0, [(1, 2)])), (4, iA (0, [(1, 3)])), (5, iA (9, [])), (6, iA (0, [(1, 4)]))], [iA (0, [(1, 5)])], [], (1127, [((-116), 4)]))] = true := by decide +kernel
theorem r687 {l : Launch} {D : va_G} {tys : List (ClassId × FieldType)} {A : Nat → Prop} {ad : Nat → Nat} (hAD : ∀ i : Nat, ad (1000 + i) = D.2 1000 i) : CRok l D tys A ad GG 4 g687 := CR_of_vrf (dep := 3) hAD (List.forall_mem_cons.mpr ⟨r646 hAD, List.forall_mem_cons.mpr ⟨r658 hAD, fun c hc => by cases hc⟩⟩) T2OK_nil w687
def g688 : CR := (72, [(2, 0, 0), (0, 0, 3), (0, (-2147483648), 2147483647), (0, 0, 3), (0, (-2147483648), 2147483647), (0, 9, 9)], [], some (0, (-8), 0), [], [40])
theorem w688 : vrf GG [(4, g687)] [] 782 4 g688
  [] = true := by decide +kernel
theorem r688 {l : Launch} {D : va_G} {tys : List (ClassId × FieldType)} {A : Nat → Prop} {ad : Nat → Nat} (hAD : ∀ i : Nat, ad (1000 + i) = D.2 1000 i) : CRok l D tys A ad GG 5 g688 := CR_of_vrf (dep := 4) hAD (List.forall_mem_cons.mpr ⟨r687 hAD, fun c hc => by cases hc⟩) T2OK_nil w688
def g689 : CR := (169, [(2, 39, 39), (0, 0, 3), (0, 0, 50), (0, 0, 3), (0, 0, 50), (0, 10, 10)], [], none, [], [40])
theorem w689 : vrf GG [(3, g646), (3, g658)] [] 300 3 g689
  [(3, [(0, 3), (0, 50), (0, 3), (0, 50), (0, 10)], [(0, rA 39), (1, iA (0, [(1, 0)])), (2, iA (0, [(1, 1)])), (3, iA (0, [(1, 2)])), (4, iA (0, [(1, 3)])), (5, iA (10, [])), (6, iA (0, [(1, 4)]))], [], [], (1268, [((-116), 4)])),
  (28, [(0, 3), (0, 50), (0, 3), (0, 50), (0, 9), (0, 9)], [(0, rA 39), (1, iA (0, [(1, 0)])), (2, iA (0, [(1, 1)])), (3, iA (0, [(1, 2)])), (4, iA (0, [(1, 3)])), (5, iA (10, [])), (6, iA (0, [(1, 4)]))], [iA (0, [(1, 5)])], [], (1243, [((-116), 4)]))] = true := by decide +kernel
theorem r689 {l : Launch} {D : va_G} {tys : List (ClassId × FieldType)} {A : Nat → Prop} {ad : Nat → Nat} (hAD : ∀ i : Nat, ad (1000 + i) = D.2 1000 i) : CRok l D tys A ad GG 4 g689 := CR_of_vrf (dep := 3) hAD (List.forall_mem_cons.mpr ⟨r646 hAD, List.forall_mem_cons.mpr ⟨r658 hAD, fun c hc => by cases hc⟩⟩) T2OK_nil w689
def g690 : CR := (72, [(2, 0, 0), (0, 0, 3), (0, (-2147483648), 2147483647), (0, 0, 3), (0, (-2147483648), 2147483647), (0, 10, 10)], [], some (0, (-8), 0), [], [40])
theorem w690 : vrf GG [(4, g689)] [] 782 4 g690
  [] = true := by decide +kernel
theorem r690 {l : Launch} {D : va_G} {tys : List (ClassId × FieldType)} {A : Nat → Prop} {ad : Nat → Nat} (hAD : ∀ i : Nat, ad (1000 + i) = D.2 1000 i) : CRok l D tys A ad GG 5 g690 := CR_of_vrf (dep := 4) hAD (List.forall_mem_cons.mpr ⟨r689 hAD, fun c hc => by cases hc⟩) T2OK_nil w690
