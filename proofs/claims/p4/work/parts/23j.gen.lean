def g831 : CR := (213, [(2, 90, 90)], [], none, [], [90])
theorem w831 : vrf GG [] [] 1750 1 g831
  [(0, [(1, 1400), (1, 1400)], [(0, rA 90)], [], [((90, 7), iA (0, [(1, 0)])), ((90, 8), iA (0, [(1, 1)]))], (2035218, [((-484), 1)])),
  (26, [(1, 1400), (0, 1399)], [(0, rA 90)], [], [((90, 7), iA (0, [(1, 0)])), ((90, 8), iA (0, [(1, 1)]))], (2035192, [((-484), 1)])),
  (83, [(97, 122), (1, 1400), (0, 1400), (0, 1399)], [(0, rA 90), (1, iA (0, [(1, 0)]))], [], [((90, 7), iA (0, [(1, 1)])), ((90, 8), iA (0, [(1, 2)])), ((90, 9), iA (0, [(1, 3)]))], (1356484, [((-484), 2)])),
  (144, [(48, 57), (1, 1400), (0, 1400), (0, 1399), ((-2147483648), 99999)], [(0, rA 90), (1, iA (0, [(1, 0)]))], [], [((90, 7), iA (0, [(1, 1)])), ((90, 8), iA (0, [(1, 2)])), ((90, 9), iA (0, [(1, 3)])), ((90, 11), iA (0, [(1, 4)]))], (677794, [((-484), 2)]))] = true := by decide +kernel
theorem r831 {l : Launch} {D : va_G} {tys : List (ClassId × FieldType)} {A : Nat → Prop} {ad : Nat → Nat} (hAD : ∀ i : Nat, ad (1000 + i) = D.2 1000 i) : CRok l D tys A ad GG 2 g831 := CR_of_vrf (dep := 1) hAD (fun c hc => by cases hc) T2OK_nil w831
def g832 : CR := (346, [(2, 1012, 1012), (0, 0, 3)], [], some (0, 0, 122), [], [])
theorem w832 : vrf GG [] [] 300 3 g832
  [] = true := by decide +kernel
theorem r832 {l : Launch} {D : va_G} {tys : List (ClassId × FieldType)} {A : Nat → Prop} {ad : Nat → Nat} (hAD : ∀ i : Nat, ad (1000 + i) = D.2 1000 i) : CRok l D tys A ad GG 4 g832 := CR_of_vrf (dep := 3) hAD (fun c hc => by cases hc) T2OK_nil w832
def g833 : CR := (216, [(2, 90, 90), (2, 1012, 1012)], [], some (0, 0, 1), [], [])
theorem w833 : vrf GG [(4, g832)] [] 602 4 g833
  [] = true := by decide +kernel
theorem r833 {l : Launch} {D : va_G} {tys : List (ClassId × FieldType)} {A : Nat → Prop} {ad : Nat → Nat} (hAD : ∀ i : Nat, ad (1000 + i) = D.2 1000 i) : CRok l D tys A ad GG 5 g833 := CR_of_vrf (dep := 4) hAD (List.forall_mem_cons.mpr ⟨r832 hAD, fun c hc => by cases hc⟩) T2OK_nil w833
def g834 : CR := (346, [(2, 1013, 1013), (0, 0, 8)], [], some (0, 0, 122), [], [])
theorem w834 : vrf GG [] [] 300 3 g834
  [] = true := by decide +kernel
theorem r834 {l : Launch} {D : va_G} {tys : List (ClassId × FieldType)} {A : Nat → Prop} {ad : Nat → Nat} (hAD : ∀ i : Nat, ad (1000 + i) = D.2 1000 i) : CRok l D tys A ad GG 4 g834 := CR_of_vrf (dep := 3) hAD (fun c hc => by cases hc) T2OK_nil w834
def g835 : CR := (216, [(2, 90, 90), (2, 1013, 1013)], [], some (0, 0, 1), [], [])
theorem w835 : vrf GG [(4, g834)] [] 902 4 g835
  [] = true := by decide +kernel
theorem r835 {l : Launch} {D : va_G} {tys : List (ClassId × FieldType)} {A : Nat → Prop} {ad : Nat → Nat} (hAD : ∀ i : Nat, ad (1000 + i) = D.2 1000 i) : CRok l D tys A ad GG 5 g835 := CR_of_vrf (dep := 4) hAD (List.forall_mem_cons.mpr ⟨r834 hAD, fun c hc => by cases hc⟩) T2OK_nil w835
def g836 : CR := (220, [(2, 90, 90), (2, 1013, 1013), (0, 2, 2), (0, 9, 9)], [], some (0, 0, 9), [], [90])
theorem w836 : vrf GG [(2, g831), (5, g835)] [] 543 7 g836
  [] = true := by decide +kernel
theorem r836 {l : Launch} {D : va_G} {tys : List (ClassId × FieldType)} {A : Nat → Prop} {ad : Nat → Nat} (hAD : ∀ i : Nat, ad (1000 + i) = D.2 1000 i) : CRok l D tys A ad GG 8 g836 := CR_of_vrf (dep := 7) hAD (List.forall_mem_cons.mpr ⟨r831 hAD, List.forall_mem_cons.mpr ⟨r835 hAD, fun c hc => by cases hc⟩⟩) T2OK_nil w836
