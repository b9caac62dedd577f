def g718 : CR := (166, [(2, 39, 39), (0, 0, 3), (0, (-2147483648), 255), (1, (-9223372036854775808), 9223372036854775807)], [], none, [], [40])
theorem w718 : vrf GG [] [] 300 2 g718
  [] = true := by decide +kernel
theorem r718 {l : Launch} {D : va_G} {tys : List (ClassId × FieldType)} {A : Nat → Prop} {ad : Nat → Nat} (hAD : ∀ i : Nat, ad (1000 + i) = D.2 1000 i) : CRok l D tys A ad GG 3 g718 := CR_of_vrf (dep := 2) hAD (fun c hc => by cases hc) T2OK_nil w718
