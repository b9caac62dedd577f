def g840 : CR := (230, [(2, 90, 90)], [((96, 4), (0, 0, 11))], none, [], [90, 96])
theorem w840 : vrf GG [(5, g838), (5, g839), (2, hAdv)] [] 8435 7 g840
  [] = true := by decide +kernel
theorem r840 {l : Launch} {D : va_G} {tys : List (ClassId × FieldType)} {A : Nat → Prop} {ad : Nat → Nat} (hAD : ∀ i : Nat, ad (1000 + i) = D.2 1000 i) : CRok l D tys A ad GG 8 g840 := CR_of_vrf (dep := 7) hAD (List.forall_mem_cons.mpr ⟨r838 hAD, List.forall_mem_cons.mpr ⟨r839 hAD, List.forall_mem_cons.mpr ⟨HAdv_ok hAD, fun c hc => by cases hc⟩⟩⟩) T2OK_nil w840
