def g723 : CR := (72, [(2, 0, 0), (0, 0, 3), (0, (-2147483648), 2147483647), (0, 0, 3), (0, (-2147483648), 2147483647), (0, 20, 20)], [], some (0, (-8), 0), [], [40])
theorem w723 : vrf GG [(4, g719)] [] 782 4 g723
  [] = true := by decide +kernel
theorem r723 {l : Launch} {D : va_G} {tys : List (ClassId × FieldType)} {A : Nat → Prop} {ad : Nat → Nat} (hAD : ∀ i : Nat, ad (1000 + i) = D.2 1000 i) : CRok l D tys A ad GG 5 g723 := CR_of_vrf (dep := 4) hAD (List.forall_mem_cons.mpr ⟨r719 hAD, fun c hc => by cases hc⟩) T2OK_nil w723
def g724 : CR := (72, [(2, 0, 0), (0, 0, 3), (0, (-2147483648), 2147483647), (0, 0, 3), (0, (-2147483648), 2147483647), (0, 21, 21)], [], some (0, (-8), 0), [], [40])
theorem w724 : vrf GG [(4, g719)] [] 782 4 g724
  [] = true := by decide +kernel
theorem r724 {l : Launch} {D : va_G} {tys : List (ClassId × FieldType)} {A : Nat → Prop} {ad : Nat → Nat} (hAD : ∀ i : Nat, ad (1000 + i) = D.2 1000 i) : CRok l D tys A ad GG 5 g724 := CR_of_vrf (dep := 4) hAD (List.forall_mem_cons.mpr ⟨r719 hAD, fun c hc => by cases hc⟩) T2OK_nil w724
def g725 : CR := (72, [(2, 0, 0), (0, 0, 3), (0, (-2147483648), 2147483647), (0, 0, 3), (0, (-2147483648), 2147483647), (0, 22, 22)], [], some (0, (-8), 0), [], [40])
theorem w725 : vrf GG [(4, g719)] [] 782 4 g725
  [] = true := by decide +kernel
theorem r725 {l : Launch} {D : va_G} {tys : List (ClassId × FieldType)} {A : Nat → Prop} {ad : Nat → Nat} (hAD : ∀ i : Nat, ad (1000 + i) = D.2 1000 i) : CRok l D tys A ad GG 5 g725 := CR_of_vrf (dep := 4) hAD (List.forall_mem_cons.mpr ⟨r719 hAD, fun c hc => by cases hc⟩) T2OK_nil w725
def g726 : CR := (72, [(2, 0, 0), (0, 0, 3), (0, (-2147483648), 2147483647), (0, 0, 3), (0, (-2147483648), 2147483647), (0, 23, 23)], [], some (0, (-8), 0), [], [40])
theorem w726 : vrf GG [(4, g719)] [] 782 4 g726
  [] = true := by decide +kernel
theorem r726 {l : Launch} {D : va_G} {tys : List (ClassId × FieldType)} {A : Nat → Prop} {ad : Nat → Nat} (hAD : ∀ i : Nat, ad (1000 + i) = D.2 1000 i) : CRok l D tys A ad GG 5 g726 := CR_of_vrf (dep := 4) hAD (List.forall_mem_cons.mpr ⟨r719 hAD, fun c hc => by cases hc⟩) T2OK_nil w726
def g727 : CR := (72, [(2, 0, 0), (0, 0, 3), (0, (-2147483648), 2147483647), (0, 0, 3), (0, (-2147483648), 2147483647), (0, 24, 24)], [], some (0, (-8), 0), [], [40])
theorem w727 : vrf GG [(4, g719)] [] 782 4 g727
  [] = true := by decide +kernel
theorem r727 {l : Launch} {D : va_G} {tys : List (ClassId × FieldType)} {A : Nat → Prop} {ad : Nat → Nat} (hAD : ∀ i : Nat, ad (1000 + i) = D.2 1000 i) : CRok l D tys A ad GG 5 g727 := CR_of_vrf (dep := 4) hAD (List.forall_mem_cons.mpr ⟨r719 hAD, fun c hc => by cases hc⟩) T2OK_nil w727
def g728 : CR := (72, [(2, 0, 0), (0, 0, 3), (0, (-2147483648), 2147483647), (0, 0, 3), (0, (-2147483648), 2147483647), (0, 25, 25)], [], some (0, (-8), 0), [], [40])
theorem w728 : vrf GG [(4, g719)] [] 782 4 g728
  [] = true := by decide +kernel
theorem r728 {l : Launch} {D : va_G} {tys : List (ClassId × FieldType)} {A : Nat → Prop} {ad : Nat → Nat} (hAD : ∀ i : Nat, ad (1000 + i) = D.2 1000 i) : CRok l D tys A ad GG 5 g728 := CR_of_vrf (dep := 4) hAD (List.forall_mem_cons.mpr ⟨r719 hAD, fun c hc => by cases hc⟩) T2OK_nil w728
def g729 : CR := (72, [(2, 0, 0), (0, 0, 3), (0, (-2147483648), 2147483647), (0, 0, 3), (0, (-2147483648), 2147483647), (0, 26, 26)], [], some (0, (-8), 0), [], [40])
theorem w729 : vrf GG [(4, g719)] [] 782 4 g729
  [] = true := by decide +kernel
theorem r729 {l : Launch} {D : va_G} {tys : List (ClassId × FieldType)} {A : Nat → Prop} {ad : Nat → Nat} (hAD : ∀ i : Nat, ad (1000 + i) = D.2 1000 i) : CRok l D tys A ad GG 5 g729 := CR_of_vrf (dep := 4) hAD (List.forall_mem_cons.mpr ⟨r719 hAD, fun c hc => by cases hc⟩) T2OK_nil w729
def g730 : CR := (72, [(2, 0, 0), (0, 0, 3), (0, (-2147483648), 2147483647), (0, 0, 3), (0, (-2147483648), 2147483647), (0, 27, 27)], [], some (0, (-8), 0), [], [40])
theorem w730 : vrf GG [(4, g719)] [] 782 4 g730
  [] = true := by decide +kernel
theorem r730 {l : Launch} {D : va_G} {tys : List (ClassId × FieldType)} {A : Nat → Prop} {ad : Nat → Nat} (hAD : ∀ i : Nat, ad (1000 + i) = D.2 1000 i) : CRok l D tys A ad GG 5 g730 := CR_of_vrf (dep := 4) hAD (List.forall_mem_cons.mpr ⟨r719 hAD, fun c hc => by cases hc⟩) T2OK_nil w730
def g731 : CR := (72, [(2, 0, 0), (0, 0, 3), (0, (-2147483648), 2147483647), (0, 0, 3), (0, (-2147483648), 2147483647), (0, 28, 28)], [], some (0, (-8), 0), [], [40])
theorem w731 : vrf GG [(4, g719)] [] 782 4 g731
  [] = true := by decide +kernel
theorem r731 {l : Launch} {D : va_G} {tys : List (ClassId × FieldType)} {A : Nat → Prop} {ad : Nat → Nat} (hAD : ∀ i : Nat, ad (1000 + i) = D.2 1000 i) : CRok l D tys A ad GG 5 g731 := CR_of_vrf (dep := 4) hAD (List.forall_mem_cons.mpr ⟨r719 hAD, fun c hc => by cases hc⟩) T2OK_nil w731
def g732 : CR := (72, [(2, 0, 0), (0, 0, 3), (0, (-2147483648), 2147483647), (0, 0, 3), (0, (-2147483648), 2147483647), (0, 29, 29)], [], some (0, (-8), 0), [], [40])
theorem w732 : vrf GG [(4, g719)] [] 782 4 g732
  [] = true := by decide +kernel
theorem r732 {l : Launch} {D : va_G} {tys : List (ClassId × FieldType)} {A : Nat → Prop} {ad : Nat → Nat} (hAD : ∀ i : Nat, ad (1000 + i) = D.2 1000 i) : CRok l D tys A ad GG 5 g732 := CR_of_vrf (dep := 4) hAD (List.forall_mem_cons.mpr ⟨r719 hAD, fun c hc => by cases hc⟩) T2OK_nil w732
def g733 : CR := (72, [(2, 0, 0), (0, 0, 3), (0, (-2147483648), 2147483647), (0, 0, 3), (0, (-2147483648), 2147483647), (0, 30, 30)], [], some (0, (-8), 0), [], [40])
theorem w733 : vrf GG [(4, g719)] [] 782 4 g733
  [] = true := by decide +kernel
theorem r733 {l : Launch} {D : va_G} {tys : List (ClassId × FieldType)} {A : Nat → Prop} {ad : Nat → Nat} (hAD : ∀ i : Nat, ad (1000 + i) = D.2 1000 i) : CRok l D tys A ad GG 5 g733 := CR_of_vrf (dep := 4) hAD (List.forall_mem_cons.mpr ⟨r719 hAD, fun c hc => by cases hc⟩) T2OK_nil w733
def g734 : CR := (72, [(2, 0, 0), (0, 0, 3), (0, (-2147483648), 2147483647), (0, 0, 3), (0, (-2147483648), 2147483647), (0, 31, 31)], [], some (0, (-8), 0), [], [40])
theorem w734 : vrf GG [(4, g719)] [] 782 4 g734
  [] = true := by decide +kernel
theorem r734 {l : Launch} {D : va_G} {tys : List (ClassId × FieldType)} {A : Nat → Prop} {ad : Nat → Nat} (hAD : ∀ i : Nat, ad (1000 + i) = D.2 1000 i) : CRok l D tys A ad GG 5 g734 := CR_of_vrf (dep := 4) hAD (List.forall_mem_cons.mpr ⟨r719 hAD, fun c hc => by cases hc⟩) T2OK_nil w734
def g735 : CR := (72, [(2, 0, 0), (0, 0, 3), (0, (-2147483648), 2147483647), (0, 0, 3), (0, (-2147483648), 2147483647), (0, 32, 32)], [], some (0, (-8), 0), [], [40])
theorem w735 : vrf GG [(4, g719)] [] 782 4 g735
  [] = true := by decide +kernel
theorem r735 {l : Launch} {D : va_G} {tys : List (ClassId × FieldType)} {A : Nat → Prop} {ad : Nat → Nat} (hAD : ∀ i : Nat, ad (1000 + i) = D.2 1000 i) : CRok l D tys A ad GG 5 g735 := CR_of_vrf (dep := 4) hAD (List.forall_mem_cons.mpr ⟨r719 hAD, fun c hc => by cases hc⟩) T2OK_nil w735
def g736 : CR := (72, [(2, 0, 0), (0, 0, 3), (0, (-2147483648), 2147483647), (0, 0, 3), (0, (-2147483648), 2147483647), (0, 33, 33)], [], some (0, (-8), 0), [], [40])
theorem w736 : vrf GG [(4, g719)] [] 782 4 g736
  [] = true := by decide +kernel
theorem r736 {l : Launch} {D : va_G} {tys : List (ClassId × FieldType)} {A : Nat → Prop} {ad : Nat → Nat} (hAD : ∀ i : Nat, ad (1000 + i) = D.2 1000 i) : CRok l D tys A ad GG 5 g736 := CR_of_vrf (dep := 4) hAD (List.forall_mem_cons.mpr ⟨r719 hAD, fun c hc => by cases hc⟩) T2OK_nil w736
def g737 : CR := (72, [(2, 0, 0), (0, 0, 3), (0, (-2147483648), 2147483647), (0, 0, 3), (0, (-2147483648), 2147483647), (0, 34, 34)], [], some (0, (-8), 0), [], [40])
theorem w737 : vrf GG [(4, g719)] [] 782 4 g737
  [] = true := by decide +kernel
theorem r737 {l : Launch} {D : va_G} {tys : List (ClassId × FieldType)} {A : Nat → Prop} {ad : Nat → Nat} (hAD : ∀ i : Nat, ad (1000 + i) = D.2 1000 i) : CRok l D tys A ad GG 5 g737 := CR_of_vrf (dep := 4) hAD (List.forall_mem_cons.mpr ⟨r719 hAD, fun c hc => by cases hc⟩) T2OK_nil w737
def g738 : CR := (72, [(2, 0, 0), (0, 0, 3), (0, (-2147483648), 2147483647), (0, 0, 3), (0, (-2147483648), 2147483647), (0, 35, 35)], [], some (0, (-8), 0), [], [40])
theorem w738 : vrf GG [(4, g719)] [] 782 4 g738
  [] = true := by decide +kernel
theorem r738 {l : Launch} {D : va_G} {tys : List (ClassId × FieldType)} {A : Nat → Prop} {ad : Nat → Nat} (hAD : ∀ i : Nat, ad (1000 + i) = D.2 1000 i) : CRok l D tys A ad GG 5 g738 := CR_of_vrf (dep := 4) hAD (List.forall_mem_cons.mpr ⟨r719 hAD, fun c hc => by cases hc⟩) T2OK_nil w738
def g739 : CR := (72, [(2, 0, 0), (0, 0, 3), (0, (-2147483648), 2147483647), (0, 0, 3), (0, (-2147483648), 2147483647), (0, 36, 36)], [], some (0, (-8), 0), [], [40])
theorem w739 : vrf GG [(4, g719)] [] 782 4 g739
  [] = true := by decide +kernel
theorem r739 {l : Launch} {D : va_G} {tys : List (ClassId × FieldType)} {A : Nat → Prop} {ad : Nat → Nat} (hAD : ∀ i : Nat, ad (1000 + i) = D.2 1000 i) : CRok l D tys A ad GG 5 g739 := CR_of_vrf (dep := 4) hAD (List.forall_mem_cons.mpr ⟨r719 hAD, fun c hc => by cases hc⟩) T2OK_nil w739
def g740 : CR := (72, [(2, 0, 0), (0, 0, 3), (0, (-2147483648), 2147483647), (0, 0, 3), (0, (-2147483648), 2147483647), (0, 37, 37)], [], some (0, (-8), 0), [], [40])
theorem w740 : vrf GG [(4, g719)] [] 782 4 g740
  [] = true := by decide +kernel
theorem r740 {l : Launch} {D : va_G} {tys : List (ClassId × FieldType)} {A : Nat → Prop} {ad : Nat → Nat} (hAD : ∀ i : Nat, ad (1000 + i) = D.2 1000 i) : CRok l D tys A ad GG 5 g740 := CR_of_vrf (dep := 4) hAD (List.forall_mem_cons.mpr ⟨r719 hAD, fun c hc => by cases hc⟩) T2OK_nil w740
def g741 : CR := (72, [(2, 0, 0), (0, 0, 3), (0, (-2147483648), 2147483647), (0, 0, 3), (0, (-2147483648), 2147483647), (0, 38, 38)], [], some (0, (-8), 0), [], [40])
theorem w741 : vrf GG [(4, g719)] [] 782 4 g741
  [] = true := by decide +kernel
theorem r741 {l : Launch} {D : va_G} {tys : List (ClassId × FieldType)} {A : Nat → Prop} {ad : Nat → Nat} (hAD : ∀ i : Nat, ad (1000 + i) = D.2 1000 i) : CRok l D tys A ad GG 5 g741 := CR_of_vrf (dep := 4) hAD (List.forall_mem_cons.mpr ⟨r719 hAD, fun c hc => by cases hc⟩) T2OK_nil w741
def g742 : CR := (72, [(2, 0, 0), (0, 0, 3), (0, (-2147483648), 2147483647), (0, 0, 3), (0, (-2147483648), 2147483647), (0, 39, 39)], [], some (0, (-8), 0), [], [40])
theorem w742 : vrf GG [(4, g719)] [] 782 4 g742
  [] = true := by decide +kernel
theorem r742 {l : Launch} {D : va_G} {tys : List (ClassId × FieldType)} {A : Nat → Prop} {ad : Nat → Nat} (hAD : ∀ i : Nat, ad (1000 + i) = D.2 1000 i) : CRok l D tys A ad GG 5 g742 := CR_of_vrf (dep := 4) hAD (List.forall_mem_cons.mpr ⟨r719 hAD, fun c hc => by cases hc⟩) T2OK_nil w742
def g743 : CR := (72, [(2, 0, 0), (0, 0, 3), (0, (-2147483648), 2147483647), (0, 0, 3), (0, (-2147483648), 2147483647), (0, 40, 40)], [], some (0, (-8), 0), [], [40])
theorem w743 : vrf GG [(4, g719)] [] 782 4 g743
  [] = true := by decide +kernel
theorem r743 {l : Launch} {D : va_G} {tys : List (ClassId × FieldType)} {A : Nat → Prop} {ad : Nat → Nat} (hAD : ∀ i : Nat, ad (1000 + i) = D.2 1000 i) : CRok l D tys A ad GG 5 g743 := CR_of_vrf (dep := 4) hAD (List.forall_mem_cons.mpr ⟨r719 hAD, fun c hc => by cases hc⟩) T2OK_nil w743
def g744 : CR := (72, [(2, 0, 0), (0, 0, 3), (0, (-2147483648), 2147483647), (0, 0, 3), (0, (-2147483648), 2147483647), (0, 41, 41)], [], some (0, (-8), 0), [], [40])
theorem w744 : vrf GG [(4, g719)] [] 782 4 g744
  [] = true := by decide +kernel
theorem r744 {l : Launch} {D : va_G} {tys : List (ClassId × FieldType)} {A : Nat → Prop} {ad : Nat → Nat} (hAD : ∀ i : Nat, ad (1000 + i) = D.2 1000 i) : CRok l D tys A ad GG 5 g744 := CR_of_vrf (dep := 4) hAD (List.forall_mem_cons.mpr ⟨r719 hAD, fun c hc => by cases hc⟩) T2OK_nil w744
def g745 : CR := (72, [(2, 0, 0), (0, 0, 3), (0, (-2147483648), 2147483647), (0, 0, 3), (0, (-2147483648), 2147483647), (0, 42, 42)], [], some (0, (-8), 0), [], [40])
theorem w745 : vrf GG [(4, g719)] [] 782 4 g745
  [] = true := by decide +kernel
theorem r745 {l : Launch} {D : va_G} {tys : List (ClassId × FieldType)} {A : Nat → Prop} {ad : Nat → Nat} (hAD : ∀ i : Nat, ad (1000 + i) = D.2 1000 i) : CRok l D tys A ad GG 5 g745 := CR_of_vrf (dep := 4) hAD (List.forall_mem_cons.mpr ⟨r719 hAD, fun c hc => by cases hc⟩) T2OK_nil w745
def g746 : CR := (72, [(2, 0, 0), (0, 0, 3), (0, (-2147483648), 2147483647), (0, 0, 3), (0, (-2147483648), 2147483647), (0, 43, 43)], [], some (0, (-8), 0), [], [40])
theorem w746 : vrf GG [(4, g719)] [] 782 4 g746
  [] = true := by decide +kernel
theorem r746 {l : Launch} {D : va_G} {tys : List (ClassId × FieldType)} {A : Nat → Prop} {ad : Nat → Nat} (hAD : ∀ i : Nat, ad (1000 + i) = D.2 1000 i) : CRok l D tys A ad GG 5 g746 := CR_of_vrf (dep := 4) hAD (List.forall_mem_cons.mpr ⟨r719 hAD, fun c hc => by cases hc⟩) T2OK_nil w746
