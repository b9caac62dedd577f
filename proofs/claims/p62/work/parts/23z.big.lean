def g597 : CR := (196, [(2, 90, 90), (0, 0, 0)], [], some (0, 0, 0), [], [92, 93])
theorem w597 : vrf GG [] [] 5227 1 g597
  [] = true := by decide +kernel
theorem r597 {l : Launch} {D : va_G} {tys : List (ClassId × FieldType)} {A : Nat → Prop} {ad : Nat → Nat} (hAD : ∀ i : Nat, ad (1000 + i) = D.2 1000 i) : CRok l D tys A ad GG 2 g597 := CR_of_vrf (dep := 1) hAD (fun c hc => by cases hc) T2OK_nil w597
