def g637 : CR := (197, [(2, 90, 90), (0, 0, 0)], [], some (0, (-6), 0), [], [91])
theorem w637 : vrf GG [] [] 5229 1 g637
  [] = true := by decide +kernel
theorem r637 {l : Launch} {D : va_G} {tys : List (ClassId × FieldType)} {A : Nat → Prop} {ad : Nat → Nat} (hAD : ∀ i : Nat, ad (1000 + i) = D.2 1000 i) : CRok l D tys A ad GG 2 g637 := CR_of_vrf (dep := 1) hAD (fun c hc => by cases hc) T2OK_nil w637
def g638 : CR := (197, [(2, 90, 90), (0, 1, 1)], [], some (0, (-6), 0), [], [91])
theorem w638 : vrf GG [] [] 5229 1 g638
  [] = true := by decide +kernel
theorem r638 {l : Launch} {D : va_G} {tys : List (ClassId × FieldType)} {A : Nat → Prop} {ad : Nat → Nat} (hAD : ∀ i : Nat, ad (1000 + i) = D.2 1000 i) : CRok l D tys A ad GG 2 g638 := CR_of_vrf (dep := 1) hAD (fun c hc => by cases hc) T2OK_nil w638
