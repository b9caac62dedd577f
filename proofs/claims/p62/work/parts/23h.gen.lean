def g711 : CR := (72, [(2, 0, 0), (0, 0, 3), (0, (-2147483648), 2147483647), (0, 0, 3), (0, (-2147483648), 2147483647), (0, 20, 20)], [], some (0, (-8), 0), [], [40])
theorem w711 : vrf GG [(4, g707)] [] 782 4 g711
  [] = true := by decide +kernel
theorem r711 {l : Launch} {D : va_G} {tys : List (ClassId × FieldType)} {A : Nat → Prop} {ad : Nat → Nat} (hAD : ∀ i : Nat, ad (1000 + i) = D.2 1000 i) : CRok l D tys A ad GG 5 g711 := CR_of_vrf (dep := 4) hAD (List.forall_mem_cons.mpr ⟨r707 hAD, fun c hc => by cases hc⟩) T2OK_nil w711
def g712 : CR := (72, [(2, 0, 0), (0, 0, 3), (0, (-2147483648), 2147483647), (0, 0, 3), (0, (-2147483648), 2147483647), (0, 21, 21)], [], some (0, (-8), 0), [], [40])
theorem w712 : vrf GG [(4, g707)] [] 782 4 g712
  [] = true := by decide +kernel
theorem r712 {l : Launch} {D : va_G} {tys : List (ClassId × FieldType)} {A : Nat → Prop} {ad : Nat → Nat} (hAD : ∀ i : Nat, ad (1000 + i) = D.2 1000 i) : CRok l D tys A ad GG 5 g712 := CR_of_vrf (dep := 4) hAD (List.forall_mem_cons.mpr ⟨r707 hAD, fun c hc => by cases hc⟩) T2OK_nil w712
def g713 : CR := (72, [(2, 0, 0), (0, 0, 3), (0, (-2147483648), 2147483647), (0, 0, 3), (0, (-2147483648), 2147483647), (0, 22, 22)], [], some (0, (-8), 0), [], [40])
theorem w713 : vrf GG [(4, g707)] [] 782 4 g713
  [] = true := by decide +kernel
theorem r713 {l : Launch} {D : va_G} {tys : List (ClassId × FieldType)} {A : Nat → Prop} {ad : Nat → Nat} (hAD : ∀ i : Nat, ad (1000 + i) = D.2 1000 i) : CRok l D tys A ad GG 5 g713 := CR_of_vrf (dep := 4) hAD (List.forall_mem_cons.mpr ⟨r707 hAD, fun c hc => by cases hc⟩) T2OK_nil w713
def g714 : CR := (72, [(2, 0, 0), (0, 0, 3), (0, (-2147483648), 2147483647), (0, 0, 3), (0, (-2147483648), 2147483647), (0, 23, 23)], [], some (0, (-8), 0), [], [40])
theorem w714 : vrf GG [(4, g707)] [] 782 4 g714
  [] = true := by decide +kernel
theorem r714 {l : Launch} {D : va_G} {tys : List (ClassId × FieldType)} {A : Nat → Prop} {ad : Nat → Nat} (hAD : ∀ i : Nat, ad (1000 + i) = D.2 1000 i) : CRok l D tys A ad GG 5 g714 := CR_of_vrf (dep := 4) hAD (List.forall_mem_cons.mpr ⟨r707 hAD, fun c hc => by cases hc⟩) T2OK_nil w714
def g715 : CR := (72, [(2, 0, 0), (0, 0, 3), (0, (-2147483648), 2147483647), (0, 0, 3), (0, (-2147483648), 2147483647), (0, 24, 24)], [], some (0, (-8), 0), [], [40])
theorem w715 : vrf GG [(4, g707)] [] 782 4 g715
  [] = true := by decide +kernel
theorem r715 {l : Launch} {D : va_G} {tys : List (ClassId × FieldType)} {A : Nat → Prop} {ad : Nat → Nat} (hAD : ∀ i : Nat, ad (1000 + i) = D.2 1000 i) : CRok l D tys A ad GG 5 g715 := CR_of_vrf (dep := 4) hAD (List.forall_mem_cons.mpr ⟨r707 hAD, fun c hc => by cases hc⟩) T2OK_nil w715
def g716 : CR := (72, [(2, 0, 0), (0, 0, 3), (0, (-2147483648), 2147483647), (0, 0, 3), (0, (-2147483648), 2147483647), (0, 25, 25)], [], some (0, (-8), 0), [], [40])
theorem w716 : vrf GG [(4, g707)] [] 782 4 g716
  [] = true := by decide +kernel
theorem r716 {l : Launch} {D : va_G} {tys : List (ClassId × FieldType)} {A : Nat → Prop} {ad : Nat → Nat} (hAD : ∀ i : Nat, ad (1000 + i) = D.2 1000 i) : CRok l D tys A ad GG 5 g716 := CR_of_vrf (dep := 4) hAD (List.forall_mem_cons.mpr ⟨r707 hAD, fun c hc => by cases hc⟩) T2OK_nil w716
def g717 : CR := (72, [(2, 0, 0), (0, 0, 3), (0, (-2147483648), 2147483647), (0, 0, 3), (0, (-2147483648), 2147483647), (0, 26, 26)], [], some (0, (-8), 0), [], [40])
theorem w717 : vrf GG [(4, g707)] [] 782 4 g717
  [] = true := by decide +kernel
theorem r717 {l : Launch} {D : va_G} {tys : List (ClassId × FieldType)} {A : Nat → Prop} {ad : Nat → Nat} (hAD : ∀ i : Nat, ad (1000 + i) = D.2 1000 i) : CRok l D tys A ad GG 5 g717 := CR_of_vrf (dep := 4) hAD (List.forall_mem_cons.mpr ⟨r707 hAD, fun c hc => by cases hc⟩) T2OK_nil w717
def g718 : CR := (72, [(2, 0, 0), (0, 0, 3), (0, (-2147483648), 2147483647), (0, 0, 3), (0, (-2147483648), 2147483647), (0, 27, 27)], [], some (0, (-8), 0), [], [40])
theorem w718 : vrf GG [(4, g707)] [] 782 4 g718
  [] = true := by decide +kernel
theorem r718 {l : Launch} {D : va_G} {tys : List (ClassId × FieldType)} {A : Nat → Prop} {ad : Nat → Nat} (hAD : ∀ i : Nat, ad (1000 + i) = D.2 1000 i) : CRok l D tys A ad GG 5 g718 := CR_of_vrf (dep := 4) hAD (List.forall_mem_cons.mpr ⟨r707 hAD, fun c hc => by cases hc⟩) T2OK_nil w718
def g719 : CR := (72, [(2, 0, 0), (0, 0, 3), (0, (-2147483648), 2147483647), (0, 0, 3), (0, (-2147483648), 2147483647), (0, 28, 28)], [], some (0, (-8), 0), [], [40])
theorem w719 : vrf GG [(4, g707)] [] 782 4 g719
  [] = true := by decide +kernel
theorem r719 {l : Launch} {D : va_G} {tys : List (ClassId × FieldType)} {A : Nat → Prop} {ad : Nat → Nat} (hAD : ∀ i : Nat, ad (1000 + i) = D.2 1000 i) : CRok l D tys A ad GG 5 g719 := CR_of_vrf (dep := 4) hAD (List.forall_mem_cons.mpr ⟨r707 hAD, fun c hc => by cases hc⟩) T2OK_nil w719
def g720 : CR := (72, [(2, 0, 0), (0, 0, 3), (0, (-2147483648), 2147483647), (0, 0, 3), (0, (-2147483648), 2147483647), (0, 29, 29)], [], some (0, (-8), 0), [], [40])
theorem w720 : vrf GG [(4, g707)] [] 782 4 g720
  [] = true := by decide +kernel
theorem r720 {l : Launch} {D : va_G} {tys : List (ClassId × FieldType)} {A : Nat → Prop} {ad : Nat → Nat} (hAD : ∀ i : Nat, ad (1000 + i) = D.2 1000 i) : CRok l D tys A ad GG 5 g720 := CR_of_vrf (dep := 4) hAD (List.forall_mem_cons.mpr ⟨r707 hAD, fun c hc => by cases hc⟩) T2OK_nil w720
def g721 : CR := (72, [(2, 0, 0), (0, 0, 3), (0, (-2147483648), 2147483647), (0, 0, 3), (0, (-2147483648), 2147483647), (0, 30, 30)], [], some (0, (-8), 0), [], [40])
theorem w721 : vrf GG [(4, g707)] [] 782 4 g721
  [] = true := by decide +kernel
theorem r721 {l : Launch} {D : va_G} {tys : List (ClassId × FieldType)} {A : Nat → Prop} {ad : Nat → Nat} (hAD : ∀ i : Nat, ad (1000 + i) = D.2 1000 i) : CRok l D tys A ad GG 5 g721 := CR_of_vrf (dep := 4) hAD (List.forall_mem_cons.mpr ⟨r707 hAD, fun c hc => by cases hc⟩) T2OK_nil w721
def g722 : CR := (72, [(2, 0, 0), (0, 0, 3), (0, (-2147483648), 2147483647), (0, 0, 3), (0, (-2147483648), 2147483647), (0, 31, 31)], [], some (0, (-8), 0), [], [40])
theorem w722 : vrf GG [(4, g707)] [] 782 4 g722
  [] = true := by decide +kernel
theorem r722 {l : Launch} {D : va_G} {tys : List (ClassId × FieldType)} {A : Nat → Prop} {ad : Nat → Nat} (hAD : ∀ i : Nat, ad (1000 + i) = D.2 1000 i) : CRok l D tys A ad GG 5 g722 := CR_of_vrf (dep := 4) hAD (List.forall_mem_cons.mpr ⟨r707 hAD, fun c hc => by cases hc⟩) T2OK_nil w722
def g723 : CR := (72, [(2, 0, 0), (0, 0, 3), (0, (-2147483648), 2147483647), (0, 0, 3), (0, (-2147483648), 2147483647), (0, 32, 32)], [], some (0, (-8), 0), [], [40])
theorem w723 : vrf GG [(4, g707)] [] 782 4 g723
  [] = true := by decide +kernel
theorem r723 {l : Launch} {D : va_G} {tys : List (ClassId × FieldType)} {A : Nat → Prop} {ad : Nat → Nat} (hAD : ∀ i : Nat, ad (1000 + i) = D.2 1000 i) : CRok l D tys A ad GG 5 g723 := CR_of_vrf (dep := 4) hAD (List.forall_mem_cons.mpr ⟨r707 hAD, fun c hc => by cases hc⟩) T2OK_nil w723
def g724 : CR := (72, [(2, 0, 0), (0, 0, 3), (0, (-2147483648), 2147483647), (0, 0, 3), (0, (-2147483648), 2147483647), (0, 33, 33)], [], some (0, (-8), 0), [], [40])
theorem w724 : vrf GG [(4, g707)] [] 782 4 g724
  [] = true := by decide +kernel
theorem r724 {l : Launch} {D : va_G} {tys : List (ClassId × FieldType)} {A : Nat → Prop} {ad : Nat → Nat} (hAD : ∀ i : Nat, ad (1000 + i) = D.2 1000 i) : CRok l D tys A ad GG 5 g724 := CR_of_vrf (dep := 4) hAD (List.forall_mem_cons.mpr ⟨r707 hAD, fun c hc => by cases hc⟩) T2OK_nil w724
def g725 : CR := (72, [(2, 0, 0), (0, 0, 3), (0, (-2147483648), 2147483647), (0, 0, 3), (0, (-2147483648), 2147483647), (0, 34, 34)], [], some (0, (-8), 0), [], [40])
theorem w725 : vrf GG [(4, g707)] [] 782 4 g725
  [] = true := by decide +kernel
theorem r725 {l : Launch} {D : va_G} {tys : List (ClassId × FieldType)} {A : Nat → Prop} {ad : Nat → Nat} (hAD : ∀ i : Nat, ad (1000 + i) = D.2 1000 i) : CRok l D tys A ad GG 5 g725 := CR_of_vrf (dep := 4) hAD (List.forall_mem_cons.mpr ⟨r707 hAD, fun c hc => by cases hc⟩) T2OK_nil w725
def g726 : CR := (72, [(2, 0, 0), (0, 0, 3), (0, (-2147483648), 2147483647), (0, 0, 3), (0, (-2147483648), 2147483647), (0, 35, 35)], [], some (0, (-8), 0), [], [40])
theorem w726 : vrf GG [(4, g707)] [] 782 4 g726
  [] = true := by decide +kernel
theorem r726 {l : Launch} {D : va_G} {tys : List (ClassId × FieldType)} {A : Nat → Prop} {ad : Nat → Nat} (hAD : ∀ i : Nat, ad (1000 + i) = D.2 1000 i) : CRok l D tys A ad GG 5 g726 := CR_of_vrf (dep := 4) hAD (List.forall_mem_cons.mpr ⟨r707 hAD, fun c hc => by cases hc⟩) T2OK_nil w726
def g727 : CR := (72, [(2, 0, 0), (0, 0, 3), (0, (-2147483648), 2147483647), (0, 0, 3), (0, (-2147483648), 2147483647), (0, 36, 36)], [], some (0, (-8), 0), [], [40])
theorem w727 : vrf GG [(4, g707)] [] 782 4 g727
  [] = true := by decide +kernel
theorem r727 {l : Launch} {D : va_G} {tys : List (ClassId × FieldType)} {A : Nat → Prop} {ad : Nat → Nat} (hAD : ∀ i : Nat, ad (1000 + i) = D.2 1000 i) : CRok l D tys A ad GG 5 g727 := CR_of_vrf (dep := 4) hAD (List.forall_mem_cons.mpr ⟨r707 hAD, fun c hc => by cases hc⟩) T2OK_nil w727
def g728 : CR := (72, [(2, 0, 0), (0, 0, 3), (0, (-2147483648), 2147483647), (0, 0, 3), (0, (-2147483648), 2147483647), (0, 37, 37)], [], some (0, (-8), 0), [], [40])
theorem w728 : vrf GG [(4, g707)] [] 782 4 g728
  [] = true := by decide +kernel
theorem r728 {l : Launch} {D : va_G} {tys : List (ClassId × FieldType)} {A : Nat → Prop} {ad : Nat → Nat} (hAD : ∀ i : Nat, ad (1000 + i) = D.2 1000 i) : CRok l D tys A ad GG 5 g728 := CR_of_vrf (dep := 4) hAD (List.forall_mem_cons.mpr ⟨r707 hAD, fun c hc => by cases hc⟩) T2OK_nil w728
def g729 : CR := (72, [(2, 0, 0), (0, 0, 3), (0, (-2147483648), 2147483647), (0, 0, 3), (0, (-2147483648), 2147483647), (0, 38, 38)], [], some (0, (-8), 0), [], [40])
theorem w729 : vrf GG [(4, g707)] [] 782 4 g729
  [] = true := by decide +kernel
theorem r729 {l : Launch} {D : va_G} {tys : List (ClassId × FieldType)} {A : Nat → Prop} {ad : Nat → Nat} (hAD : ∀ i : Nat, ad (1000 + i) = D.2 1000 i) : CRok l D tys A ad GG 5 g729 := CR_of_vrf (dep := 4) hAD (List.forall_mem_cons.mpr ⟨r707 hAD, fun c hc => by cases hc⟩) T2OK_nil w729
def g730 : CR := (72, [(2, 0, 0), (0, 0, 3), (0, (-2147483648), 2147483647), (0, 0, 3), (0, (-2147483648), 2147483647), (0, 39, 39)], [], some (0, (-8), 0), [], [40])
theorem w730 : vrf GG [(4, g707)] [] 782 4 g730
  [] = true := by decide +kernel
theorem r730 {l : Launch} {D : va_G} {tys : List (ClassId × FieldType)} {A : Nat → Prop} {ad : Nat → Nat} (hAD : ∀ i : Nat, ad (1000 + i) = D.2 1000 i) : CRok l D tys A ad GG 5 g730 := CR_of_vrf (dep := 4) hAD (List.forall_mem_cons.mpr ⟨r707 hAD, fun c hc => by cases hc⟩) T2OK_nil w730
def g731 : CR := (72, [(2, 0, 0), (0, 0, 3), (0, (-2147483648), 2147483647), (0, 0, 3), (0, (-2147483648), 2147483647), (0, 40, 40)], [], some (0, (-8), 0), [], [40])
theorem w731 : vrf GG [(4, g707)] [] 782 4 g731
  [] = true := by decide +kernel
theorem r731 {l : Launch} {D : va_G} {tys : List (ClassId × FieldType)} {A : Nat → Prop} {ad : Nat → Nat} (hAD : ∀ i : Nat, ad (1000 + i) = D.2 1000 i) : CRok l D tys A ad GG 5 g731 := CR_of_vrf (dep := 4) hAD (List.forall_mem_cons.mpr ⟨r707 hAD, fun c hc => by cases hc⟩) T2OK_nil w731
def g732 : CR := (72, [(2, 0, 0), (0, 0, 3), (0, (-2147483648), 2147483647), (0, 0, 3), (0, (-2147483648), 2147483647), (0, 41, 41)], [], some (0, (-8), 0), [], [40])
theorem w732 : vrf GG [(4, g707)] [] 782 4 g732
  [] = true := by decide +kernel
theorem r732 {l : Launch} {D : va_G} {tys : List (ClassId × FieldType)} {A : Nat → Prop} {ad : Nat → Nat} (hAD : ∀ i : Nat, ad (1000 + i) = D.2 1000 i) : CRok l D tys A ad GG 5 g732 := CR_of_vrf (dep := 4) hAD (List.forall_mem_cons.mpr ⟨r707 hAD, fun c hc => by cases hc⟩) T2OK_nil w732
def g733 : CR := (72, [(2, 0, 0), (0, 0, 3), (0, (-2147483648), 2147483647), (0, 0, 3), (0, (-2147483648), 2147483647), (0, 42, 42)], [], some (0, (-8), 0), [], [40])
theorem w733 : vrf GG [(4, g707)] [] 782 4 g733
  [] = true := by decide +kernel
theorem r733 {l : Launch} {D : va_G} {tys : List (ClassId × FieldType)} {A : Nat → Prop} {ad : Nat → Nat} (hAD : ∀ i : Nat, ad (1000 + i) = D.2 1000 i) : CRok l D tys A ad GG 5 g733 := CR_of_vrf (dep := 4) hAD (List.forall_mem_cons.mpr ⟨r707 hAD, fun c hc => by cases hc⟩) T2OK_nil w733
def g734 : CR := (72, [(2, 0, 0), (0, 0, 3), (0, (-2147483648), 2147483647), (0, 0, 3), (0, (-2147483648), 2147483647), (0, 43, 43)], [], some (0, (-8), 0), [], [40])
theorem w734 : vrf GG [(4, g707)] [] 782 4 g734
  [] = true := by decide +kernel
theorem r734 {l : Launch} {D : va_G} {tys : List (ClassId × FieldType)} {A : Nat → Prop} {ad : Nat → Nat} (hAD : ∀ i : Nat, ad (1000 + i) = D.2 1000 i) : CRok l D tys A ad GG 5 g734 := CR_of_vrf (dep := 4) hAD (List.forall_mem_cons.mpr ⟨r707 hAD, fun c hc => by cases hc⟩) T2OK_nil w734
