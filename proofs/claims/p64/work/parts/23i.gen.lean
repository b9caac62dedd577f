def g747 : CR := (72, [(2, 0, 0), (0, 0, 3), (0, (-2147483648), 2147483647), (0, 0, 3), (0, (-2147483648), 2147483647), (0, 44, 44)], [], some (0, (-8), 0), [], [40])
theorem w747 : vrf GG [(4, g719)] [] 782 4 g747
  [] = true := by decide +kernel
theorem r747 {l : Launch} {D : va_G} {tys : List (ClassId × FieldType)} {A : Nat → Prop} {ad : Nat → Nat} (hAD : ∀ i : Nat, ad (1000 + i) = D.2 1000 i) : CRok l D tys A ad GG 5 g747 := CR_of_vrf (dep := 4) hAD (List.forall_mem_cons.mpr ⟨r719 hAD, fun c hc => by cases hc⟩) T2OK_nil w747
def g748 : CR := (72, [(2, 0, 0), (0, 0, 3), (0, (-2147483648), 2147483647), (0, 0, 3), (0, (-2147483648), 2147483647), (0, 45, 45)], [], some (0, (-8), 0), [], [40])
theorem w748 : vrf GG [(4, g719)] [] 782 4 g748
  [] = true := by decide +kernel
theorem r748 {l : Launch} {D : va_G} {tys : List (ClassId × FieldType)} {A : Nat → Prop} {ad : Nat → Nat} (hAD : ∀ i : Nat, ad (1000 + i) = D.2 1000 i) : CRok l D tys A ad GG 5 g748 := CR_of_vrf (dep := 4) hAD (List.forall_mem_cons.mpr ⟨r719 hAD, fun c hc => by cases hc⟩) T2OK_nil w748
def g749 : CR := (72, [(2, 0, 0), (0, 0, 3), (0, (-2147483648), 2147483647), (0, 0, 3), (0, (-2147483648), 2147483647), (0, 46, 46)], [], some (0, (-8), 0), [], [40])
theorem w749 : vrf GG [(4, g719)] [] 782 4 g749
  [] = true := by decide +kernel
theorem r749 {l : Launch} {D : va_G} {tys : List (ClassId × FieldType)} {A : Nat → Prop} {ad : Nat → Nat} (hAD : ∀ i : Nat, ad (1000 + i) = D.2 1000 i) : CRok l D tys A ad GG 5 g749 := CR_of_vrf (dep := 4) hAD (List.forall_mem_cons.mpr ⟨r719 hAD, fun c hc => by cases hc⟩) T2OK_nil w749
def g750 : CR := (72, [(2, 0, 0), (0, 0, 3), (0, (-2147483648), 2147483647), (0, 0, 3), (0, (-2147483648), 2147483647), (0, 47, 47)], [], some (0, (-8), 0), [], [40])
theorem w750 : vrf GG [(4, g719)] [] 782 4 g750
  [] = true := by decide +kernel
theorem r750 {l : Launch} {D : va_G} {tys : List (ClassId × FieldType)} {A : Nat → Prop} {ad : Nat → Nat} (hAD : ∀ i : Nat, ad (1000 + i) = D.2 1000 i) : CRok l D tys A ad GG 5 g750 := CR_of_vrf (dep := 4) hAD (List.forall_mem_cons.mpr ⟨r719 hAD, fun c hc => by cases hc⟩) T2OK_nil w750
def g751 : CR := (72, [(2, 0, 0), (0, 0, 3), (0, (-2147483648), 2147483647), (0, 0, 3), (0, (-2147483648), 2147483647), (0, 48, 48)], [], some (0, (-8), 0), [], [40])
theorem w751 : vrf GG [(4, g719)] [] 782 4 g751
  [] = true := by decide +kernel
theorem r751 {l : Launch} {D : va_G} {tys : List (ClassId × FieldType)} {A : Nat → Prop} {ad : Nat → Nat} (hAD : ∀ i : Nat, ad (1000 + i) = D.2 1000 i) : CRok l D tys A ad GG 5 g751 := CR_of_vrf (dep := 4) hAD (List.forall_mem_cons.mpr ⟨r719 hAD, fun c hc => by cases hc⟩) T2OK_nil w751
def g752 : CR := (72, [(2, 0, 0), (0, 0, 3), (0, (-2147483648), 2147483647), (0, 0, 3), (0, (-2147483648), 2147483647), (0, 49, 49)], [], some (0, (-8), 0), [], [40])
theorem w752 : vrf GG [(4, g719)] [] 782 4 g752
  [] = true := by decide +kernel
theorem r752 {l : Launch} {D : va_G} {tys : List (ClassId × FieldType)} {A : Nat → Prop} {ad : Nat → Nat} (hAD : ∀ i : Nat, ad (1000 + i) = D.2 1000 i) : CRok l D tys A ad GG 5 g752 := CR_of_vrf (dep := 4) hAD (List.forall_mem_cons.mpr ⟨r719 hAD, fun c hc => by cases hc⟩) T2OK_nil w752
def g753 : CR := (72, [(2, 0, 0), (0, 0, 3), (0, (-2147483648), 2147483647), (0, 0, 3), (0, (-2147483648), 2147483647), (0, 50, 50)], [], some (0, (-8), 0), [], [40])
theorem w753 : vrf GG [(4, g719)] [] 782 4 g753
  [] = true := by decide +kernel
theorem r753 {l : Launch} {D : va_G} {tys : List (ClassId × FieldType)} {A : Nat → Prop} {ad : Nat → Nat} (hAD : ∀ i : Nat, ad (1000 + i) = D.2 1000 i) : CRok l D tys A ad GG 5 g753 := CR_of_vrf (dep := 4) hAD (List.forall_mem_cons.mpr ⟨r719 hAD, fun c hc => by cases hc⟩) T2OK_nil w753
def g754 : CR := (72, [(2, 0, 0), (0, 0, 3), (0, (-2147483648), 2147483647), (0, 0, 3), (0, (-2147483648), 2147483647), (0, 51, 51)], [], some (0, (-8), 0), [], [40])
theorem w754 : vrf GG [(4, g719)] [] 782 4 g754
  [] = true := by decide +kernel
theorem r754 {l : Launch} {D : va_G} {tys : List (ClassId × FieldType)} {A : Nat → Prop} {ad : Nat → Nat} (hAD : ∀ i : Nat, ad (1000 + i) = D.2 1000 i) : CRok l D tys A ad GG 5 g754 := CR_of_vrf (dep := 4) hAD (List.forall_mem_cons.mpr ⟨r719 hAD, fun c hc => by cases hc⟩) T2OK_nil w754
def g755 : CR := (72, [(2, 0, 0), (0, 0, 3), (0, (-2147483648), 2147483647), (0, 0, 3), (0, (-2147483648), 2147483647), (0, 52, 52)], [], some (0, (-8), 0), [], [40])
theorem w755 : vrf GG [(4, g719)] [] 782 4 g755
  [] = true := by decide +kernel
theorem r755 {l : Launch} {D : va_G} {tys : List (ClassId × FieldType)} {A : Nat → Prop} {ad : Nat → Nat} (hAD : ∀ i : Nat, ad (1000 + i) = D.2 1000 i) : CRok l D tys A ad GG 5 g755 := CR_of_vrf (dep := 4) hAD (List.forall_mem_cons.mpr ⟨r719 hAD, fun c hc => by cases hc⟩) T2OK_nil w755
def g756 : CR := (72, [(2, 0, 0), (0, 0, 3), (0, (-2147483648), 2147483647), (0, 0, 3), (0, (-2147483648), 2147483647), (0, 53, 53)], [], some (0, (-8), 0), [], [40])
theorem w756 : vrf GG [(4, g719)] [] 782 4 g756
  [] = true := by decide +kernel
theorem r756 {l : Launch} {D : va_G} {tys : List (ClassId × FieldType)} {A : Nat → Prop} {ad : Nat → Nat} (hAD : ∀ i : Nat, ad (1000 + i) = D.2 1000 i) : CRok l D tys A ad GG 5 g756 := CR_of_vrf (dep := 4) hAD (List.forall_mem_cons.mpr ⟨r719 hAD, fun c hc => by cases hc⟩) T2OK_nil w756
def g757 : CR := (72, [(2, 0, 0), (0, 0, 3), (0, (-2147483648), 2147483647), (0, 0, 3), (0, (-2147483648), 2147483647), (0, 54, 54)], [], some (0, (-8), 0), [], [40])
theorem w757 : vrf GG [(4, g719)] [] 782 4 g757
  [] = true := by decide +kernel
theorem r757 {l : Launch} {D : va_G} {tys : List (ClassId × FieldType)} {A : Nat → Prop} {ad : Nat → Nat} (hAD : ∀ i : Nat, ad (1000 + i) = D.2 1000 i) : CRok l D tys A ad GG 5 g757 := CR_of_vrf (dep := 4) hAD (List.forall_mem_cons.mpr ⟨r719 hAD, fun c hc => by cases hc⟩) T2OK_nil w757
def g758 : CR := (72, [(2, 0, 0), (0, 0, 3), (0, (-2147483648), 2147483647), (0, 0, 3), (0, (-2147483648), 2147483647), (0, 55, 55)], [], some (0, (-8), 0), [], [40])
theorem w758 : vrf GG [(4, g719)] [] 782 4 g758
  [] = true := by decide +kernel
theorem r758 {l : Launch} {D : va_G} {tys : List (ClassId × FieldType)} {A : Nat → Prop} {ad : Nat → Nat} (hAD : ∀ i : Nat, ad (1000 + i) = D.2 1000 i) : CRok l D tys A ad GG 5 g758 := CR_of_vrf (dep := 4) hAD (List.forall_mem_cons.mpr ⟨r719 hAD, fun c hc => by cases hc⟩) T2OK_nil w758
def g759 : CR := (72, [(2, 0, 0), (0, 0, 3), (0, (-2147483648), 2147483647), (0, 0, 3), (0, (-2147483648), 2147483647), (0, 56, 56)], [], some (0, (-8), 0), [], [40])
theorem w759 : vrf GG [(4, g719)] [] 782 4 g759
  [] = true := by decide +kernel
theorem r759 {l : Launch} {D : va_G} {tys : List (ClassId × FieldType)} {A : Nat → Prop} {ad : Nat → Nat} (hAD : ∀ i : Nat, ad (1000 + i) = D.2 1000 i) : CRok l D tys A ad GG 5 g759 := CR_of_vrf (dep := 4) hAD (List.forall_mem_cons.mpr ⟨r719 hAD, fun c hc => by cases hc⟩) T2OK_nil w759
def g760 : CR := (72, [(2, 0, 0), (0, 0, 3), (0, (-2147483648), 2147483647), (0, 0, 3), (0, (-2147483648), 2147483647), (0, 57, 57)], [], some (0, (-8), 0), [], [40])
theorem w760 : vrf GG [(4, g719)] [] 782 4 g760
  [] = true := by decide +kernel
theorem r760 {l : Launch} {D : va_G} {tys : List (ClassId × FieldType)} {A : Nat → Prop} {ad : Nat → Nat} (hAD : ∀ i : Nat, ad (1000 + i) = D.2 1000 i) : CRok l D tys A ad GG 5 g760 := CR_of_vrf (dep := 4) hAD (List.forall_mem_cons.mpr ⟨r719 hAD, fun c hc => by cases hc⟩) T2OK_nil w760
def g761 : CR := (72, [(2, 0, 0), (0, 0, 3), (0, (-2147483648), 2147483647), (0, 0, 3), (0, (-2147483648), 2147483647), (0, 58, 58)], [], some (0, (-8), 0), [], [40])
theorem w761 : vrf GG [(4, g719)] [] 782 4 g761
  [] = true := by decide +kernel
theorem r761 {l : Launch} {D : va_G} {tys : List (ClassId × FieldType)} {A : Nat → Prop} {ad : Nat → Nat} (hAD : ∀ i : Nat, ad (1000 + i) = D.2 1000 i) : CRok l D tys A ad GG 5 g761 := CR_of_vrf (dep := 4) hAD (List.forall_mem_cons.mpr ⟨r719 hAD, fun c hc => by cases hc⟩) T2OK_nil w761
def g762 : CR := (72, [(2, 0, 0), (0, 0, 3), (0, (-2147483648), 2147483647), (0, 0, 3), (0, (-2147483648), 2147483647), (0, 59, 59)], [], some (0, (-8), 0), [], [40])
theorem w762 : vrf GG [(4, g719)] [] 782 4 g762
  [] = true := by decide +kernel
theorem r762 {l : Launch} {D : va_G} {tys : List (ClassId × FieldType)} {A : Nat → Prop} {ad : Nat → Nat} (hAD : ∀ i : Nat, ad (1000 + i) = D.2 1000 i) : CRok l D tys A ad GG 5 g762 := CR_of_vrf (dep := 4) hAD (List.forall_mem_cons.mpr ⟨r719 hAD, fun c hc => by cases hc⟩) T2OK_nil w762
def g763 : CR := (72, [(2, 0, 0), (0, 0, 3), (0, (-2147483648), 2147483647), (0, 0, 3), (0, (-2147483648), 2147483647), (0, 60, 60)], [], some (0, (-8), 0), [], [40])
theorem w763 : vrf GG [(4, g719)] [] 782 4 g763
  [] = true := by decide +kernel
theorem r763 {l : Launch} {D : va_G} {tys : List (ClassId × FieldType)} {A : Nat → Prop} {ad : Nat → Nat} (hAD : ∀ i : Nat, ad (1000 + i) = D.2 1000 i) : CRok l D tys A ad GG 5 g763 := CR_of_vrf (dep := 4) hAD (List.forall_mem_cons.mpr ⟨r719 hAD, fun c hc => by cases hc⟩) T2OK_nil w763
def g764 : CR := (340, [(2, 90, 90), (0, (-2147483648), (-1)), (0, (-2147483648), 2147483647), (0, (-2147483648), 2147483647), (0, (-2147483648), 2147483647), (0, (-2147483648), 2147483647)], [], some (0, (-2), (-2)), [], [])
theorem w764 : vrf GG [] [] 300 2 g764
  [] = true := by decide +kernel
theorem r764 {l : Launch} {D : va_G} {tys : List (ClassId × FieldType)} {A : Nat → Prop} {ad : Nat → Nat} (hAD : ∀ i : Nat, ad (1000 + i) = D.2 1000 i) : CRok l D tys A ad GG 3 g764 := CR_of_vrf (dep := 2) hAD (fun c hc => by cases hc) T2OK_nil w764
def g765 : CR := (340, [(2, 90, 90), (0, 4, 2147483647), (0, (-2147483648), 2147483647), (0, (-2147483648), 2147483647), (0, (-2147483648), 2147483647), (0, (-2147483648), 2147483647)], [], some (0, (-2), (-2)), [], [])
theorem w765 : vrf GG [] [] 300 2 g765
  [] = true := by decide +kernel
theorem r765 {l : Launch} {D : va_G} {tys : List (ClassId × FieldType)} {A : Nat → Prop} {ad : Nat → Nat} (hAD : ∀ i : Nat, ad (1000 + i) = D.2 1000 i) : CRok l D tys A ad GG 3 g765 := CR_of_vrf (dep := 2) hAD (fun c hc => by cases hc) T2OK_nil w765
def g766 : CR := (340, [(2, 90, 90), (0, 0, 3), (0, (-2147483648), 2147483647), (0, (-2147483648), (-1)), (0, (-2147483648), 2147483647), (0, (-2147483648), 2147483647)], [], some (0, (-2), (-2)), [], [])
theorem w766 : vrf GG [] [] 300 2 g766
  [] = true := by decide +kernel
theorem r766 {l : Launch} {D : va_G} {tys : List (ClassId × FieldType)} {A : Nat → Prop} {ad : Nat → Nat} (hAD : ∀ i : Nat, ad (1000 + i) = D.2 1000 i) : CRok l D tys A ad GG 3 g766 := CR_of_vrf (dep := 2) hAD (fun c hc => by cases hc) T2OK_nil w766
def g767 : CR := (340, [(2, 90, 90), (0, 0, 3), (0, (-2147483648), 2147483647), (0, 4, 2147483647), (0, (-2147483648), 2147483647), (0, (-2147483648), 2147483647)], [], some (0, (-2), (-2)), [], [])
theorem w767 : vrf GG [] [] 300 2 g767
  [] = true := by decide +kernel
theorem r767 {l : Launch} {D : va_G} {tys : List (ClassId × FieldType)} {A : Nat → Prop} {ad : Nat → Nat} (hAD : ∀ i : Nat, ad (1000 + i) = D.2 1000 i) : CRok l D tys A ad GG 3 g767 := CR_of_vrf (dep := 2) hAD (fun c hc => by cases hc) T2OK_nil w767
def g768 : CR := (340, [(2, 90, 90), (0, 0, 3), (0, (-2147483648), 2147483647), (0, 0, 3), (0, (-2147483648), 2147483647), (0, (-2147483648), (-1))], [], some (0, (-8), (-6)), [], [])
theorem w768 : vrf GG [] [] 300 2 g768
  [] = true := by decide +kernel
theorem r768 {l : Launch} {D : va_G} {tys : List (ClassId × FieldType)} {A : Nat → Prop} {ad : Nat → Nat} (hAD : ∀ i : Nat, ad (1000 + i) = D.2 1000 i) : CRok l D tys A ad GG 3 g768 := CR_of_vrf (dep := 2) hAD (fun c hc => by cases hc) T2OK_nil w768
def g769 : CR := (340, [(2, 90, 90), (0, 0, 3), (0, (-2147483648), 2147483647), (0, 0, 3), (0, (-2147483648), 2147483647), (0, 61, 2147483647)], [], some (0, (-8), (-6)), [], [])
theorem w769 : vrf GG [] [] 300 2 g769
  [] = true := by decide +kernel
theorem r769 {l : Launch} {D : va_G} {tys : List (ClassId × FieldType)} {A : Nat → Prop} {ad : Nat → Nat} (hAD : ∀ i : Nat, ad (1000 + i) = D.2 1000 i) : CRok l D tys A ad GG 3 g769 := CR_of_vrf (dep := 2) hAD (fun c hc => by cases hc) T2OK_nil w769
def g770 : CR := (340, [(2, 90, 90), (0, 0, 3), (0, (-2147483648), 2147483647), (0, 0, 3), (0, (-2147483648), 2147483647), (0, 0, 0)], [], some (0, (-8), 0), [], [])
theorem w770 : vrf GG [] [] 300 2 g770
  [(113, [(0, 3), (0, 60), (0, 3), (0, 60)], [(0, rA 90), (1, iA (0, [(1, 0)])), (2, iA (0, [(1, 1)])), (3, iA (0, [(1, 2)])), (4, iA (0, [(1, 3)])), (5, iA (0, [])), (6, iA (0, []))], [], [], (906, [])),
  (150, [(0, 3), (0, 60), (0, 3), (0, 60)], [(0, rA 90), (1, iA (0, [(1, 0)])), (2, iA (0, [(1, 1)])), (3, iA (0, [(1, 2)])), (4, iA (0, [(1, 3)])), (5, iA (0, [])), (6, iA (0, []))], [], [], (76, []))] = true := by decide +kernel
theorem r770 {l : Launch} {D : va_G} {tys : List (ClassId × FieldType)} {A : Nat → Prop} {ad : Nat → Nat} (hAD : ∀ i : Nat, ad (1000 + i) = D.2 1000 i) : CRok l D tys A ad GG 3 g770 := CR_of_vrf (dep := 2) hAD (fun c hc => by cases hc) T2OK_nil w770
def g771 : CR := (340, [(2, 90, 90), (0, 0, 3), (0, (-2147483648), 2147483647), (0, 0, 3), (0, (-2147483648), 2147483647), (0, 1, 1)], [], some (0, (-8), 0), [], [109, 110])
theorem w771 : vrf GG [] [] 300 2 g771
  [(113, [(0, 3), (0, 59), (0, 3), (0, 59), (0, 1)], [(0, rA 90), (1, iA (0, [(1, 0)])), (2, iA (0, [(1, 1)])), (3, iA (0, [(1, 2)])), (4, iA (0, [(1, 3)])), (5, iA (1, [])), (6, iA (0, [(1, 4)]))], [], [], (1662, [((-378), 4)])),
  (150, [(0, 3), (0, 59), (0, 3), (0, 59), (0, 1)], [(0, rA 90), (1, iA (0, [(1, 0)])), (2, iA (0, [(1, 1)])), (3, iA (0, [(1, 2)])), (4, iA (0, [(1, 3)])), (5, iA (1, [])), (6, iA (0, [(1, 4)]))], [], [], (454, [((-378), 4)]))] = true := by decide +kernel
theorem r771 {l : Launch} {D : va_G} {tys : List (ClassId × FieldType)} {A : Nat → Prop} {ad : Nat → Nat} (hAD : ∀ i : Nat, ad (1000 + i) = D.2 1000 i) : CRok l D tys A ad GG 3 g771 := CR_of_vrf (dep := 2) hAD (fun c hc => by cases hc) T2OK_nil w771
def g772 : CR := (340, [(2, 90, 90), (0, 0, 3), (0, (-2147483648), 2147483647), (0, 0, 3), (0, (-2147483648), 2147483647), (0, 2, 2)], [], some (0, (-8), 0), [], [109, 110])
theorem w772 : vrf GG [] [] 300 2 g772
  [(113, [(0, 3), (0, 58), (0, 3), (0, 58), (0, 2)], [(0, rA 90), (1, iA (0, [(1, 0)])), (2, iA (0, [(1, 1)])), (3, iA (0, [(1, 2)])), (4, iA (0, [(1, 3)])), (5, iA (2, [])), (6, iA (0, [(1, 4)]))], [], [], (2418, [((-378), 4)])),
  (150, [(0, 3), (0, 58), (0, 3), (0, 58), (0, 2)], [(0, rA 90), (1, iA (0, [(1, 0)])), (2, iA (0, [(1, 1)])), (3, iA (0, [(1, 2)])), (4, iA (0, [(1, 3)])), (5, iA (2, [])), (6, iA (0, [(1, 4)]))], [], [], (832, [((-378), 4)]))] = true := by decide +kernel
theorem r772 {l : Launch} {D : va_G} {tys : List (ClassId × FieldType)} {A : Nat → Prop} {ad : Nat → Nat} (hAD : ∀ i : Nat, ad (1000 + i) = D.2 1000 i) : CRok l D tys A ad GG 3 g772 := CR_of_vrf (dep := 2) hAD (fun c hc => by cases hc) T2OK_nil w772
def g773 : CR := (340, [(2, 90, 90), (0, 0, 3), (0, (-2147483648), 2147483647), (0, 0, 3), (0, (-2147483648), 2147483647), (0, 3, 3)], [], some (0, (-8), 0), [], [109, 110])
theorem w773 : vrf GG [] [] 300 2 g773
  [(113, [(0, 3), (0, 57), (0, 3), (0, 57), (0, 3)], [(0, rA 90), (1, iA (0, [(1, 0)])), (2, iA (0, [(1, 1)])), (3, iA (0, [(1, 2)])), (4, iA (0, [(1, 3)])), (5, iA (3, [])), (6, iA (0, [(1, 4)]))], [], [], (3174, [((-378), 4)])),
  (150, [(0, 3), (0, 57), (0, 3), (0, 57), (0, 3)], [(0, rA 90), (1, iA (0, [(1, 0)])), (2, iA (0, [(1, 1)])), (3, iA (0, [(1, 2)])), (4, iA (0, [(1, 3)])), (5, iA (3, [])), (6, iA (0, [(1, 4)]))], [], [], (1210, [((-378), 4)]))] = true := by decide +kernel
theorem r773 {l : Launch} {D : va_G} {tys : List (ClassId × FieldType)} {A : Nat → Prop} {ad : Nat → Nat} (hAD : ∀ i : Nat, ad (1000 + i) = D.2 1000 i) : CRok l D tys A ad GG 3 g773 := CR_of_vrf (dep := 2) hAD (fun c hc => by cases hc) T2OK_nil w773
def g774 : CR := (340, [(2, 90, 90), (0, 0, 3), (0, (-2147483648), 2147483647), (0, 0, 3), (0, (-2147483648), 2147483647), (0, 4, 4)], [], some (0, (-8), 0), [], [109, 110])
theorem w774 : vrf GG [] [] 300 2 g774
  [(113, [(0, 3), (0, 56), (0, 3), (0, 56), (0, 4)], [(0, rA 90), (1, iA (0, [(1, 0)])), (2, iA (0, [(1, 1)])), (3, iA (0, [(1, 2)])), (4, iA (0, [(1, 3)])), (5, iA (4, [])), (6, iA (0, [(1, 4)]))], [], [], (3930, [((-378), 4)])),
  (150, [(0, 3), (0, 56), (0, 3), (0, 56), (0, 4)], [(0, rA 90), (1, iA (0, [(1, 0)])), (2, iA (0, [(1, 1)])), (3, iA (0, [(1, 2)])), (4, iA (0, [(1, 3)])), (5, iA (4, [])), (6, iA (0, [(1, 4)]))], [], [], (1588, [((-378), 4)]))] = true := by decide +kernel
theorem r774 {l : Launch} {D : va_G} {tys : List (ClassId × FieldType)} {A : Nat → Prop} {ad : Nat → Nat} (hAD : ∀ i : Nat, ad (1000 + i) = D.2 1000 i) : CRok l D tys A ad GG 3 g774 := CR_of_vrf (dep := 2) hAD (fun c hc => by cases hc) T2OK_nil w774
def g775 : CR := (340, [(2, 90, 90), (0, 0, 3), (0, (-2147483648), 2147483647), (0, 0, 3), (0, (-2147483648), 2147483647), (0, 5, 5)], [], some (0, (-8), 0), [], [109, 110])
theorem w775 : vrf GG [] [] 300 2 g775
  [(113, [(0, 3), (0, 55), (0, 3), (0, 55), (0, 5)], [(0, rA 90), (1, iA (0, [(1, 0)])), (2, iA (0, [(1, 1)])), (3, iA (0, [(1, 2)])), (4, iA (0, [(1, 3)])), (5, iA (5, [])), (6, iA (0, [(1, 4)]))], [], [], (4686, [((-378), 4)])),
  (150, [(0, 3), (0, 55), (0, 3), (0, 55), (0, 5)], [(0, rA 90), (1, iA (0, [(1, 0)])), (2, iA (0, [(1, 1)])), (3, iA (0, [(1, 2)])), (4, iA (0, [(1, 3)])), (5, iA (5, [])), (6, iA (0, [(1, 4)]))], [], [], (1966, [((-378), 4)]))] = true := by decide +kernel
theorem r775 {l : Launch} {D : va_G} {tys : List (ClassId × FieldType)} {A : Nat → Prop} {ad : Nat → Nat} (hAD : ∀ i : Nat, ad (1000 + i) = D.2 1000 i) : CRok l D tys A ad GG 3 g775 := CR_of_vrf (dep := 2) hAD (fun c hc => by cases hc) T2OK_nil w775
def g776 : CR := (340, [(2, 90, 90), (0, 0, 3), (0, (-2147483648), 2147483647), (0, 0, 3), (0, (-2147483648), 2147483647), (0, 6, 6)], [], some (0, (-8), 0), [], [109, 110])
theorem w776 : vrf GG [] [] 300 2 g776
  [(113, [(0, 3), (0, 54), (0, 3), (0, 54), (0, 6)], [(0, rA 90), (1, iA (0, [(1, 0)])), (2, iA (0, [(1, 1)])), (3, iA (0, [(1, 2)])), (4, iA (0, [(1, 3)])), (5, iA (6, [])), (6, iA (0, [(1, 4)]))], [], [], (5442, [((-378), 4)])),
  (150, [(0, 3), (0, 54), (0, 3), (0, 54), (0, 6)], [(0, rA 90), (1, iA (0, [(1, 0)])), (2, iA (0, [(1, 1)])), (3, iA (0, [(1, 2)])), (4, iA (0, [(1, 3)])), (5, iA (6, [])), (6, iA (0, [(1, 4)]))], [], [], (2344, [((-378), 4)]))] = true := by decide +kernel
theorem r776 {l : Launch} {D : va_G} {tys : List (ClassId × FieldType)} {A : Nat → Prop} {ad : Nat → Nat} (hAD : ∀ i : Nat, ad (1000 + i) = D.2 1000 i) : CRok l D tys A ad GG 3 g776 := CR_of_vrf (dep := 2) hAD (fun c hc => by cases hc) T2OK_nil w776
def g777 : CR := (340, [(2, 90, 90), (0, 0, 3), (0, (-2147483648), 2147483647), (0, 0, 3), (0, (-2147483648), 2147483647), (0, 7, 7)], [], some (0, (-8), 0), [], [109, 110])
theorem w777 : vrf GG [] [] 300 2 g777
  [(113, [(0, 3), (0, 53), (0, 3), (0, 53), (0, 7)], [(0, rA 90), (1, iA (0, [(1, 0)])), (2, iA (0, [(1, 1)])), (3, iA (0, [(1, 2)])), (4, iA (0, [(1, 3)])), (5, iA (7, [])), (6, iA (0, [(1, 4)]))], [], [], (6198, [((-378), 4)])),
  (150, [(0, 3), (0, 53), (0, 3), (0, 53), (0, 7)], [(0, rA 90), (1, iA (0, [(1, 0)])), (2, iA (0, [(1, 1)])), (3, iA (0, [(1, 2)])), (4, iA (0, [(1, 3)])), (5, iA (7, [])), (6, iA (0, [(1, 4)]))], [], [], (2722, [((-378), 4)]))] = true := by decide +kernel
theorem r777 {l : Launch} {D : va_G} {tys : List (ClassId × FieldType)} {A : Nat → Prop} {ad : Nat → Nat} (hAD : ∀ i : Nat, ad (1000 + i) = D.2 1000 i) : CRok l D tys A ad GG 3 g777 := CR_of_vrf (dep := 2) hAD (fun c hc => by cases hc) T2OK_nil w777
def g778 : CR := (340, [(2, 90, 90), (0, 0, 3), (0, (-2147483648), 2147483647), (0, 0, 3), (0, (-2147483648), 2147483647), (0, 8, 8)], [], some (0, (-8), 0), [], [109, 110])
theorem w778 : vrf GG [] [] 300 2 g778
  [(113, [(0, 3), (0, 52), (0, 3), (0, 52), (0, 8)], [(0, rA 90), (1, iA (0, [(1, 0)])), (2, iA (0, [(1, 1)])), (3, iA (0, [(1, 2)])), (4, iA (0, [(1, 3)])), (5, iA (8, [])), (6, iA (0, [(1, 4)]))], [], [], (6954, [((-378), 4)])),
  (150, [(0, 3), (0, 52), (0, 3), (0, 52), (0, 8)], [(0, rA 90), (1, iA (0, [(1, 0)])), (2, iA (0, [(1, 1)])), (3, iA (0, [(1, 2)])), (4, iA (0, [(1, 3)])), (5, iA (8, [])), (6, iA (0, [(1, 4)]))], [], [], (3100, [((-378), 4)]))] = true := by decide +kernel
theorem r778 {l : Launch} {D : va_G} {tys : List (ClassId × FieldType)} {A : Nat → Prop} {ad : Nat → Nat} (hAD : ∀ i : Nat, ad (1000 + i) = D.2 1000 i) : CRok l D tys A ad GG 3 g778 := CR_of_vrf (dep := 2) hAD (fun c hc => by cases hc) T2OK_nil w778
def g779 : CR := (340, [(2, 90, 90), (0, 0, 3), (0, (-2147483648), 2147483647), (0, 0, 3), (0, (-2147483648), 2147483647), (0, 9, 9)], [], some (0, (-8), 0), [], [109, 110])
theorem w779 : vrf GG [] [] 300 2 g779
  [(113, [(0, 3), (0, 51), (0, 3), (0, 51), (0, 9)], [(0, rA 90), (1, iA (0, [(1, 0)])), (2, iA (0, [(1, 1)])), (3, iA (0, [(1, 2)])), (4, iA (0, [(1, 3)])), (5, iA (9, [])), (6, iA (0, [(1, 4)]))], [], [], (7710, [((-378), 4)])),
  (150, [(0, 3), (0, 51), (0, 3), (0, 51), (0, 9)], [(0, rA 90), (1, iA (0, [(1, 0)])), (2, iA (0, [(1, 1)])), (3, iA (0, [(1, 2)])), (4, iA (0, [(1, 3)])), (5, iA (9, [])), (6, iA (0, [(1, 4)]))], [], [], (3478, [((-378), 4)]))] = true := by decide +kernel
theorem r779 {l : Launch} {D : va_G} {tys : List (ClassId × FieldType)} {A : Nat → Prop} {ad : Nat → Nat} (hAD : ∀ i : Nat, ad (1000 + i) = D.2 1000 i) : CRok l D tys A ad GG 3 g779 := CR_of_vrf (dep := 2) hAD (fun c hc => by cases hc) T2OK_nil w779
def g780 : CR := (340, [(2, 90, 90), (0, 0, 3), (0, (-2147483648), 2147483647), (0, 0, 3), (0, (-2147483648), 2147483647), (0, 10, 10)], [], some (0, (-8), 0), [], [109, 110])
theorem w780 : vrf GG [] [] 300 2 g780
  [(113, [(0, 3), (0, 50), (0, 3), (0, 50), (0, 10)], [(0, rA 90), (1, iA (0, [(1, 0)])), (2, iA (0, [(1, 1)])), (3, iA (0, [(1, 2)])), (4, iA (0, [(1, 3)])), (5, iA (10, [])), (6, iA (0, [(1, 4)]))], [], [], (8466, [((-378), 4)])),
  (150, [(0, 3), (0, 50), (0, 3), (0, 50), (0, 10)], [(0, rA 90), (1, iA (0, [(1, 0)])), (2, iA (0, [(1, 1)])), (3, iA (0, [(1, 2)])), (4, iA (0, [(1, 3)])), (5, iA (10, [])), (6, iA (0, [(1, 4)]))], [], [], (3856, [((-378), 4)]))] = true := by decide +kernel
theorem r780 {l : Launch} {D : va_G} {tys : List (ClassId × FieldType)} {A : Nat → Prop} {ad : Nat → Nat} (hAD : ∀ i : Nat, ad (1000 + i) = D.2 1000 i) : CRok l D tys A ad GG 3 g780 := CR_of_vrf (dep := 2) hAD (fun c hc => by cases hc) T2OK_nil w780
def g781 : CR := (340, [(2, 90, 90), (0, 0, 3), (0, (-2147483648), 2147483647), (0, 0, 3), (0, (-2147483648), 2147483647), (0, 11, 11)], [], some (0, (-8), 0), [], [109, 110])
theorem w781 : vrf GG [] [] 300 2 g781
  [(113, [(0, 3), (0, 49), (0, 3), (0, 49), (0, 11)], [(0, rA 90), (1, iA (0, [(1, 0)])), (2, iA (0, [(1, 1)])), (3, iA (0, [(1, 2)])), (4, iA (0, [(1, 3)])), (5, iA (11, [])), (6, iA (0, [(1, 4)]))], [], [], (9222, [((-378), 4)])),
  (150, [(0, 3), (0, 49), (0, 3), (0, 49), (0, 11)], [(0, rA 90), (1, iA (0, [(1, 0)])), (2, iA (0, [(1, 1)])), (3, iA (0, [(1, 2)])), (4, iA (0, [(1, 3)])), (5, iA (11, [])), (6, iA (0, [(1, 4)]))], [], [], (4234, [((-378), 4)]))] = true := by decide +kernel
theorem r781 {l : Launch} {D : va_G} {tys : List (ClassId × FieldType)} {A : Nat → Prop} {ad : Nat → Nat} (hAD : ∀ i : Nat, ad (1000 + i) = D.2 1000 i) : CRok l D tys A ad GG 3 g781 := CR_of_vrf (dep := 2) hAD (fun c hc => by cases hc) T2OK_nil w781
def g782 : CR := (340, [(2, 90, 90), (0, 0, 3), (0, (-2147483648), 2147483647), (0, 0, 3), (0, (-2147483648), 2147483647), (0, 12, 12)], [], some (0, (-8), 0), [], [109, 110])
theorem w782 : vrf GG [] [] 300 2 g782
  [(113, [(0, 3), (0, 48), (0, 3), (0, 48), (0, 12)], [(0, rA 90), (1, iA (0, [(1, 0)])), (2, iA (0, [(1, 1)])), (3, iA (0, [(1, 2)])), (4, iA (0, [(1, 3)])), (5, iA (12, [])), (6, iA (0, [(1, 4)]))], [], [], (9978, [((-378), 4)])),
  (150, [(0, 3), (0, 48), (0, 3), (0, 48), (0, 12)], [(0, rA 90), (1, iA (0, [(1, 0)])), (2, iA (0, [(1, 1)])), (3, iA (0, [(1, 2)])), (4, iA (0, [(1, 3)])), (5, iA (12, [])), (6, iA (0, [(1, 4)]))], [], [], (4612, [((-378), 4)]))] = true := by decide +kernel
theorem r782 {l : Launch} {D : va_G} {tys : List (ClassId × FieldType)} {A : Nat → Prop} {ad : Nat → Nat} (hAD : ∀ i : Nat, ad (1000 + i) = D.2 1000 i) : CRok l D tys A ad GG 3 g782 := CR_of_vrf (dep := 2) hAD (fun c hc => by cases hc) T2OK_nil w782
def g783 : CR := (340, [(2, 90, 90), (0, 0, 3), (0, (-2147483648), 2147483647), (0, 0, 3), (0, (-2147483648), 2147483647), (0, 13, 13)], [], some (0, (-8), 0), [], [109, 110])
theorem w783 : vrf GG [] [] 300 2 g783
  [(113, [(0, 3), (0, 47), (0, 3), (0, 47), (0, 13)], [(0, rA 90), (1, iA (0, [(1, 0)])), (2, iA (0, [(1, 1)])), (3, iA (0, [(1, 2)])), (4, iA (0, [(1, 3)])), (5, iA (13, [])), (6, iA (0, [(1, 4)]))], [], [], (10734, [((-378), 4)])),
  (150, [(0, 3), (0, 47), (0, 3), (0, 47), (0, 13)], [(0, rA 90), (1, iA (0, [(1, 0)])), (2, iA (0, [(1, 1)])), (3, iA (0, [(1, 2)])), (4, iA (0, [(1, 3)])), (5, iA (13, [])), (6, iA (0, [(1, 4)]))], [], [], (4990, [((-378), 4)]))] = true := by decide +kernel
theorem r783 {l : Launch} {D : va_G} {tys : List (ClassId × FieldType)} {A : Nat → Prop} {ad : Nat → Nat} (hAD : ∀ i : Nat, ad (1000 + i) = D.2 1000 i) : CRok l D tys A ad GG 3 g783 := CR_of_vrf (dep := 2) hAD (fun c hc => by cases hc) T2OK_nil w783
def g784 : CR := (340, [(2, 90, 90), (0, 0, 3), (0, (-2147483648), 2147483647), (0, 0, 3), (0, (-2147483648), 2147483647), (0, 14, 14)], [], some (0, (-8), 0), [], [109, 110])
theorem w784 : vrf GG [] [] 300 2 g784
  [(113, [(0, 3), (0, 46), (0, 3), (0, 46), (0, 14)], [(0, rA 90), (1, iA (0, [(1, 0)])), (2, iA (0, [(1, 1)])), (3, iA (0, [(1, 2)])), (4, iA (0, [(1, 3)])), (5, iA (14, [])), (6, iA (0, [(1, 4)]))], [], [], (11490, [((-378), 4)])),
  (150, [(0, 3), (0, 46), (0, 3), (0, 46), (0, 14)], [(0, rA 90), (1, iA (0, [(1, 0)])), (2, iA (0, [(1, 1)])), (3, iA (0, [(1, 2)])), (4, iA (0, [(1, 3)])), (5, iA (14, [])), (6, iA (0, [(1, 4)]))], [], [], (5368, [((-378), 4)]))] = true := by decide +kernel
theorem r784 {l : Launch} {D : va_G} {tys : List (ClassId × FieldType)} {A : Nat → Prop} {ad : Nat → Nat} (hAD : ∀ i : Nat, ad (1000 + i) = D.2 1000 i) : CRok l D tys A ad GG 3 g784 := CR_of_vrf (dep := 2) hAD (fun c hc => by cases hc) T2OK_nil w784
